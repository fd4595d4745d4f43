/-! terms: names of modifiers, macros, targets, signs, kinds -/
theorem d60_0 (L : Nat) (xs : Nat → Int32) : decode (ax_code (mgT L xs) 60) 0 = .ok (.aload_n 0, 1) := by
  show decode prog_8_method_5_code 0 = _
  decide +kernel
theorem d60_1 (L : Nat) (xs : Nat → Int32) : decode (ax_code (mgT L xs) 60) 1 = .ok (.iload_n 1, 1) := by
  show decode prog_8_method_5_code 1 = _
  decide +kernel
theorem d60_2 (L : Nat) (xs : Nat → Int32) : decode (ax_code (mgT L xs) 60) 2 = .ok (.invokevirtual 33, 3) := by
  show decode prog_8_method_5_code 2 = _
  decide +kernel
theorem d60_5 (L : Nat) (xs : Nat → Int32) : decode (ax_code (mgT L xs) 60) 5 = .ok (.invokestatic 39, 3) := by
  show decode prog_8_method_5_code 5 = _
  decide +kernel
theorem d60_8 (L : Nat) (xs : Nat → Int32) : decode (ax_code (mgT L xs) 60) 8 = .ok (.ifCond .ne 5, 3) := by
  show decode prog_8_method_5_code 8 = _
  decide +kernel
theorem d60_11 (L : Nat) (xs : Nat → Int32) : decode (ax_code (mgT L xs) 60) 11 = .ok (.iconst (-1), 1) := by
  show decode prog_8_method_5_code 11 = _
  decide +kernel
theorem d60_12 (L : Nat) (xs : Nat → Int32) : decode (ax_code (mgT L xs) 60) 12 = .ok (.ireturn, 1) := by
  show decode prog_8_method_5_code 12 = _
  decide +kernel
theorem d60_13 (L : Nat) (xs : Nat → Int32) : decode (ax_code (mgT L xs) 60) 13 = .ok (.iload_n 1, 1) := by
  show decode prog_8_method_5_code 13 = _
  decide +kernel
theorem d60_14 (L : Nat) (xs : Nat → Int32) : decode (ax_code (mgT L xs) 60) 14 = .ok (.iconst 1, 1) := by
  show decode prog_8_method_5_code 14 = _
  decide +kernel
theorem d60_15 (L : Nat) (xs : Nat → Int32) : decode (ax_code (mgT L xs) 60) 15 = .ok (.iadd, 1) := by
  show decode prog_8_method_5_code 15 = _
  decide +kernel
theorem d60_16 (L : Nat) (xs : Nat → Int32) : decode (ax_code (mgT L xs) 60) 16 = .ok (.istore_n 3, 1) := by
  show decode prog_8_method_5_code 16 = _
  decide +kernel
theorem d60_17 (L : Nat) (xs : Nat → Int32) : decode (ax_code (mgT L xs) 60) 17 = .ok (.iload_n 3, 1) := by
  show decode prog_8_method_5_code 17 = _
  decide +kernel
theorem d60_18 (L : Nat) (xs : Nat → Int32) : decode (ax_code (mgT L xs) 60) 18 = .ok (.iload_n 2, 1) := by
  show decode prog_8_method_5_code 18 = _
  decide +kernel
theorem d60_19 (L : Nat) (xs : Nat → Int32) : decode (ax_code (mgT L xs) 60) 19 = .ok (.if_icmp .ge 42, 3) := by
  show decode prog_8_method_5_code 19 = _
  decide +kernel
theorem d60_22 (L : Nat) (xs : Nat → Int32) : decode (ax_code (mgT L xs) 60) 22 = .ok (.aload_n 0, 1) := by
  show decode prog_8_method_5_code 22 = _
  decide +kernel
theorem d60_23 (L : Nat) (xs : Nat → Int32) : decode (ax_code (mgT L xs) 60) 23 = .ok (.iload_n 3, 1) := by
  show decode prog_8_method_5_code 23 = _
  decide +kernel
theorem d60_24 (L : Nat) (xs : Nat → Int32) : decode (ax_code (mgT L xs) 60) 24 = .ok (.invokevirtual 33, 3) := by
  show decode prog_8_method_5_code 24 = _
  decide +kernel
theorem d60_27 (L : Nat) (xs : Nat → Int32) : decode (ax_code (mgT L xs) 60) 27 = .ok (.istore 4, 2) := by
  show decode prog_8_method_5_code 27 = _
  decide +kernel
theorem d60_29 (L : Nat) (xs : Nat → Int32) : decode (ax_code (mgT L xs) 60) 29 = .ok (.iload 4, 2) := by
  show decode prog_8_method_5_code 29 = _
  decide +kernel
theorem d60_31 (L : Nat) (xs : Nat → Int32) : decode (ax_code (mgT L xs) 60) 31 = .ok (.bipush 61, 2) := by
  show decode prog_8_method_5_code 31 = _
  decide +kernel
theorem d60_33 (L : Nat) (xs : Nat → Int32) : decode (ax_code (mgT L xs) 60) 33 = .ok (.if_icmp .ne 5, 3) := by
  show decode prog_8_method_5_code 33 = _
  decide +kernel
theorem d60_36 (L : Nat) (xs : Nat → Int32) : decode (ax_code (mgT L xs) 60) 36 = .ok (.iload_n 3, 1) := by
  show decode prog_8_method_5_code 36 = _
  decide +kernel
theorem d60_37 (L : Nat) (xs : Nat → Int32) : decode (ax_code (mgT L xs) 60) 37 = .ok (.ireturn, 1) := by
  show decode prog_8_method_5_code 37 = _
  decide +kernel
theorem d60_38 (L : Nat) (xs : Nat → Int32) : decode (ax_code (mgT L xs) 60) 38 = .ok (.iload 4, 2) := by
  show decode prog_8_method_5_code 38 = _
  decide +kernel
theorem d60_40 (L : Nat) (xs : Nat → Int32) : decode (ax_code (mgT L xs) 60) 40 = .ok (.bipush 46, 2) := by
  show decode prog_8_method_5_code 40 = _
  decide +kernel
theorem d60_42 (L : Nat) (xs : Nat → Int32) : decode (ax_code (mgT L xs) 60) 42 = .ok (.if_icmp .eq 13, 3) := by
  show decode prog_8_method_5_code 42 = _
  decide +kernel
theorem d60_45 (L : Nat) (xs : Nat → Int32) : decode (ax_code (mgT L xs) 60) 45 = .ok (.iload 4, 2) := by
  show decode prog_8_method_5_code 45 = _
  decide +kernel
theorem d60_47 (L : Nat) (xs : Nat → Int32) : decode (ax_code (mgT L xs) 60) 47 = .ok (.invokestatic 43, 3) := by
  show decode prog_8_method_5_code 47 = _
  decide +kernel
theorem d60_50 (L : Nat) (xs : Nat → Int32) : decode (ax_code (mgT L xs) 60) 50 = .ok (.ifCond .ne 5, 3) := by
  show decode prog_8_method_5_code 50 = _
  decide +kernel
theorem d60_53 (L : Nat) (xs : Nat → Int32) : decode (ax_code (mgT L xs) 60) 53 = .ok (.iconst (-1), 1) := by
  show decode prog_8_method_5_code 53 = _
  decide +kernel
theorem d60_54 (L : Nat) (xs : Nat → Int32) : decode (ax_code (mgT L xs) 60) 54 = .ok (.ireturn, 1) := by
  show decode prog_8_method_5_code 54 = _
  decide +kernel
theorem d60_55 (L : Nat) (xs : Nat → Int32) : decode (ax_code (mgT L xs) 60) 55 = .ok (.iinc 3 1, 3) := by
  show decode prog_8_method_5_code 55 = _
  decide +kernel
theorem d60_58 (L : Nat) (xs : Nat → Int32) : decode (ax_code (mgT L xs) 60) 58 = .ok (.goto (-41), 3) := by
  show decode prog_8_method_5_code 58 = _
  decide +kernel
theorem d60_61 (L : Nat) (xs : Nat → Int32) : decode (ax_code (mgT L xs) 60) 61 = .ok (.iconst (-1), 1) := by
  show decode prog_8_method_5_code 61 = _
  decide +kernel
theorem d60_62 (L : Nat) (xs : Nat → Int32) : decode (ax_code (mgT L xs) 60) 62 = .ok (.ireturn, 1) := by
  show decode prog_8_method_5_code 62 = _
  decide +kernel
theorem d64_0 (L : Nat) (xs : Nat → Int32) : decode (ax_code (mgT L xs) 64) 0 = .ok (.iload_n 1, 1) := by
  show decode prog_8_method_11_code 0 = _
  decide +kernel
theorem d64_1 (L : Nat) (xs : Nat → Int32) : decode (ax_code (mgT L xs) 64) 1 = .ok (.istore_n 3, 1) := by
  show decode prog_8_method_11_code 1 = _
  decide +kernel
theorem d64_2 (L : Nat) (xs : Nat → Int32) : decode (ax_code (mgT L xs) 64) 2 = .ok (.iload_n 3, 1) := by
  show decode prog_8_method_11_code 2 = _
  decide +kernel
theorem d64_3 (L : Nat) (xs : Nat → Int32) : decode (ax_code (mgT L xs) 64) 3 = .ok (.iload_n 2, 1) := by
  show decode prog_8_method_11_code 3 = _
  decide +kernel
theorem d64_4 (L : Nat) (xs : Nat → Int32) : decode (ax_code (mgT L xs) 64) 4 = .ok (.if_icmp .ge 38, 3) := by
  show decode prog_8_method_11_code 4 = _
  decide +kernel
theorem d64_7 (L : Nat) (xs : Nat → Int32) : decode (ax_code (mgT L xs) 64) 7 = .ok (.aload_n 0, 1) := by
  show decode prog_8_method_11_code 7 = _
  decide +kernel
theorem d64_8 (L : Nat) (xs : Nat → Int32) : decode (ax_code (mgT L xs) 64) 8 = .ok (.iload_n 3, 1) := by
  show decode prog_8_method_11_code 8 = _
  decide +kernel
theorem d64_9 (L : Nat) (xs : Nat → Int32) : decode (ax_code (mgT L xs) 64) 9 = .ok (.invokevirtual 33, 3) := by
  show decode prog_8_method_11_code 9 = _
  decide +kernel
theorem d64_12 (L : Nat) (xs : Nat → Int32) : decode (ax_code (mgT L xs) 64) 12 = .ok (.bipush 37, 2) := by
  show decode prog_8_method_11_code 12 = _
  decide +kernel
theorem d64_14 (L : Nat) (xs : Nat → Int32) : decode (ax_code (mgT L xs) 64) 14 = .ok (.if_icmp .ne 22, 3) := by
  show decode prog_8_method_11_code 14 = _
  decide +kernel
theorem d64_17 (L : Nat) (xs : Nat → Int32) : decode (ax_code (mgT L xs) 64) 17 = .ok (.aload_n 0, 1) := by
  show decode prog_8_method_11_code 17 = _
  decide +kernel
theorem d64_18 (L : Nat) (xs : Nat → Int32) : decode (ax_code (mgT L xs) 64) 18 = .ok (.iload_n 3, 1) := by
  show decode prog_8_method_11_code 18 = _
  decide +kernel
theorem d64_19 (L : Nat) (xs : Nat → Int32) : decode (ax_code (mgT L xs) 64) 19 = .ok (.iload_n 2, 1) := by
  show decode prog_8_method_11_code 19 = _
  decide +kernel
theorem d64_20 (L : Nat) (xs : Nat → Int32) : decode (ax_code (mgT L xs) 64) 20 = .ok (.invokestatic 103, 3) := by
  show decode prog_8_method_11_code 20 = _
  decide +kernel
theorem d64_23 (L : Nat) (xs : Nat → Int32) : decode (ax_code (mgT L xs) 64) 23 = .ok (.istore 4, 2) := by
  show decode prog_8_method_11_code 23 = _
  decide +kernel
theorem d64_25 (L : Nat) (xs : Nat → Int32) : decode (ax_code (mgT L xs) 64) 25 = .ok (.iload 4, 2) := by
  show decode prog_8_method_11_code 25 = _
  decide +kernel
theorem d64_27 (L : Nat) (xs : Nat → Int32) : decode (ax_code (mgT L xs) 64) 27 = .ok (.iconst (-1), 1) := by
  show decode prog_8_method_11_code 27 = _
  decide +kernel
theorem d64_28 (L : Nat) (xs : Nat → Int32) : decode (ax_code (mgT L xs) 64) 28 = .ok (.if_icmp .ne 5, 3) := by
  show decode prog_8_method_11_code 28 = _
  decide +kernel
theorem d64_31 (L : Nat) (xs : Nat → Int32) : decode (ax_code (mgT L xs) 64) 31 = .ok (.iconst 0, 1) := by
  show decode prog_8_method_11_code 31 = _
  decide +kernel
theorem d64_32 (L : Nat) (xs : Nat → Int32) : decode (ax_code (mgT L xs) 64) 32 = .ok (.ireturn, 1) := by
  show decode prog_8_method_11_code 32 = _
  decide +kernel
theorem d64_33 (L : Nat) (xs : Nat → Int32) : decode (ax_code (mgT L xs) 64) 33 = .ok (.iload 4, 2) := by
  show decode prog_8_method_11_code 33 = _
  decide +kernel
theorem d64_35 (L : Nat) (xs : Nat → Int32) : decode (ax_code (mgT L xs) 64) 35 = .ok (.istore_n 3, 1) := by
  show decode prog_8_method_11_code 35 = _
  decide +kernel
theorem d64_36 (L : Nat) (xs : Nat → Int32) : decode (ax_code (mgT L xs) 64) 36 = .ok (.iinc 3 1, 3) := by
  show decode prog_8_method_11_code 36 = _
  decide +kernel
theorem d64_39 (L : Nat) (xs : Nat → Int32) : decode (ax_code (mgT L xs) 64) 39 = .ok (.goto (-37), 3) := by
  show decode prog_8_method_11_code 39 = _
  decide +kernel
theorem d64_42 (L : Nat) (xs : Nat → Int32) : decode (ax_code (mgT L xs) 64) 42 = .ok (.iload_n 1, 1) := by
  show decode prog_8_method_11_code 42 = _
  decide +kernel
theorem d64_43 (L : Nat) (xs : Nat → Int32) : decode (ax_code (mgT L xs) 64) 43 = .ok (.iload_n 2, 1) := by
  show decode prog_8_method_11_code 43 = _
  decide +kernel
theorem d64_44 (L : Nat) (xs : Nat → Int32) : decode (ax_code (mgT L xs) 64) 44 = .ok (.if_icmp .ge 7, 3) := by
  show decode prog_8_method_11_code 44 = _
  decide +kernel
theorem d64_47 (L : Nat) (xs : Nat → Int32) : decode (ax_code (mgT L xs) 64) 47 = .ok (.iconst 1, 1) := by
  show decode prog_8_method_11_code 47 = _
  decide +kernel
theorem d64_48 (L : Nat) (xs : Nat → Int32) : decode (ax_code (mgT L xs) 64) 48 = .ok (.goto 4, 3) := by
  show decode prog_8_method_11_code 48 = _
  decide +kernel
theorem d64_51 (L : Nat) (xs : Nat → Int32) : decode (ax_code (mgT L xs) 64) 51 = .ok (.iconst 0, 1) := by
  show decode prog_8_method_11_code 51 = _
  decide +kernel
theorem d64_52 (L : Nat) (xs : Nat → Int32) : decode (ax_code (mgT L xs) 64) 52 = .ok (.ireturn, 1) := by
  show decode prog_8_method_11_code 52 = _
  decide +kernel
theorem d65_0 (L : Nat) (xs : Nat → Int32) : decode (ax_code (mgT L xs) 65) 0 = .ok (.iload_n 1, 1) := by
  show decode prog_8_method_12_code 0 = _
  decide +kernel
theorem d65_1 (L : Nat) (xs : Nat → Int32) : decode (ax_code (mgT L xs) 65) 1 = .ok (.iconst 1, 1) := by
  show decode prog_8_method_12_code 1 = _
  decide +kernel
theorem d65_2 (L : Nat) (xs : Nat → Int32) : decode (ax_code (mgT L xs) 65) 2 = .ok (.iadd, 1) := by
  show decode prog_8_method_12_code 2 = _
  decide +kernel
theorem d65_3 (L : Nat) (xs : Nat → Int32) : decode (ax_code (mgT L xs) 65) 3 = .ok (.istore_n 3, 1) := by
  show decode prog_8_method_12_code 3 = _
  decide +kernel
theorem d65_4 (L : Nat) (xs : Nat → Int32) : decode (ax_code (mgT L xs) 65) 4 = .ok (.aload_n 0, 1) := by
  show decode prog_8_method_12_code 4 = _
  decide +kernel
theorem d65_5 (L : Nat) (xs : Nat → Int32) : decode (ax_code (mgT L xs) 65) 5 = .ok (.iload_n 3, 1) := by
  show decode prog_8_method_12_code 5 = _
  decide +kernel
theorem d65_6 (L : Nat) (xs : Nat → Int32) : decode (ax_code (mgT L xs) 65) 6 = .ok (.invokevirtual 33, 3) := by
  show decode prog_8_method_12_code 6 = _
  decide +kernel
theorem d65_9 (L : Nat) (xs : Nat → Int32) : decode (ax_code (mgT L xs) 65) 9 = .ok (.bipush 123, 2) := by
  show decode prog_8_method_12_code 9 = _
  decide +kernel
theorem d65_11 (L : Nat) (xs : Nat → Int32) : decode (ax_code (mgT L xs) 65) 11 = .ok (.if_icmp .ne 96, 3) := by
  show decode prog_8_method_12_code 11 = _
  decide +kernel
theorem d65_14 (L : Nat) (xs : Nat → Int32) : decode (ax_code (mgT L xs) 65) 14 = .ok (.aload_n 0, 1) := by
  show decode prog_8_method_12_code 14 = _
  decide +kernel
theorem d65_15 (L : Nat) (xs : Nat → Int32) : decode (ax_code (mgT L xs) 65) 15 = .ok (.iload_n 1, 1) := by
  show decode prog_8_method_12_code 15 = _
  decide +kernel
theorem d65_16 (L : Nat) (xs : Nat → Int32) : decode (ax_code (mgT L xs) 65) 16 = .ok (.iconst 2, 1) := by
  show decode prog_8_method_12_code 16 = _
  decide +kernel
theorem d65_17 (L : Nat) (xs : Nat → Int32) : decode (ax_code (mgT L xs) 65) 17 = .ok (.iadd, 1) := by
  show decode prog_8_method_12_code 17 = _
  decide +kernel
theorem d65_18 (L : Nat) (xs : Nat → Int32) : decode (ax_code (mgT L xs) 65) 18 = .ok (.invokevirtual 33, 3) := by
  show decode prog_8_method_12_code 18 = _
  decide +kernel
theorem d65_21 (L : Nat) (xs : Nat → Int32) : decode (ax_code (mgT L xs) 65) 21 = .ok (.istore 4, 2) := by
  show decode prog_8_method_12_code 21 = _
  decide +kernel
theorem d65_23 (L : Nat) (xs : Nat → Int32) : decode (ax_code (mgT L xs) 65) 23 = .ok (.iload 4, 2) := by
  show decode prog_8_method_12_code 23 = _
  decide +kernel
theorem d65_25 (L : Nat) (xs : Nat → Int32) : decode (ax_code (mgT L xs) 65) 25 = .ok (.bipush 100, 2) := by
  show decode prog_8_method_12_code 25 = _
  decide +kernel
theorem d65_27 (L : Nat) (xs : Nat → Int32) : decode (ax_code (mgT L xs) 65) 27 = .ok (.if_icmp .eq 19, 3) := by
  show decode prog_8_method_12_code 27 = _
  decide +kernel
theorem d65_30 (L : Nat) (xs : Nat → Int32) : decode (ax_code (mgT L xs) 65) 30 = .ok (.iload 4, 2) := by
  show decode prog_8_method_12_code 30 = _
  decide +kernel
theorem d65_32 (L : Nat) (xs : Nat → Int32) : decode (ax_code (mgT L xs) 65) 32 = .ok (.bipush 105, 2) := by
  show decode prog_8_method_12_code 32 = _
  decide +kernel
theorem d65_34 (L : Nat) (xs : Nat → Int32) : decode (ax_code (mgT L xs) 65) 34 = .ok (.if_icmp .eq 12, 3) := by
  show decode prog_8_method_12_code 34 = _
  decide +kernel
theorem d65_37 (L : Nat) (xs : Nat → Int32) : decode (ax_code (mgT L xs) 65) 37 = .ok (.iload 4, 2) := by
  show decode prog_8_method_12_code 37 = _
  decide +kernel
theorem d65_39 (L : Nat) (xs : Nat → Int32) : decode (ax_code (mgT L xs) 65) 39 = .ok (.bipush 111, 2) := by
  show decode prog_8_method_12_code 39 = _
  decide +kernel
theorem d65_41 (L : Nat) (xs : Nat → Int32) : decode (ax_code (mgT L xs) 65) 41 = .ok (.if_icmp .eq 5, 3) := by
  show decode prog_8_method_12_code 41 = _
  decide +kernel
theorem d65_44 (L : Nat) (xs : Nat → Int32) : decode (ax_code (mgT L xs) 65) 44 = .ok (.iconst (-1), 1) := by
  show decode prog_8_method_12_code 44 = _
  decide +kernel
theorem d65_45 (L : Nat) (xs : Nat → Int32) : decode (ax_code (mgT L xs) 65) 45 = .ok (.ireturn, 1) := by
  show decode prog_8_method_12_code 45 = _
  decide +kernel
theorem d65_46 (L : Nat) (xs : Nat → Int32) : decode (ax_code (mgT L xs) 65) 46 = .ok (.iload_n 1, 1) := by
  show decode prog_8_method_12_code 46 = _
  decide +kernel
theorem d65_47 (L : Nat) (xs : Nat → Int32) : decode (ax_code (mgT L xs) 65) 47 = .ok (.iconst 3, 1) := by
  show decode prog_8_method_12_code 47 = _
  decide +kernel
theorem d65_48 (L : Nat) (xs : Nat → Int32) : decode (ax_code (mgT L xs) 65) 48 = .ok (.iadd, 1) := by
  show decode prog_8_method_12_code 48 = _
  decide +kernel
theorem d65_49 (L : Nat) (xs : Nat → Int32) : decode (ax_code (mgT L xs) 65) 49 = .ok (.istore_n 3, 1) := by
  show decode prog_8_method_12_code 49 = _
  decide +kernel
theorem d65_50 (L : Nat) (xs : Nat → Int32) : decode (ax_code (mgT L xs) 65) 50 = .ok (.aload_n 0, 1) := by
  show decode prog_8_method_12_code 50 = _
  decide +kernel
theorem d65_51 (L : Nat) (xs : Nat → Int32) : decode (ax_code (mgT L xs) 65) 51 = .ok (.iload_n 3, 1) := by
  show decode prog_8_method_12_code 51 = _
  decide +kernel
theorem d65_52 (L : Nat) (xs : Nat → Int32) : decode (ax_code (mgT L xs) 65) 52 = .ok (.invokevirtual 33, 3) := by
  show decode prog_8_method_12_code 52 = _
  decide +kernel
theorem d65_55 (L : Nat) (xs : Nat → Int32) : decode (ax_code (mgT L xs) 65) 55 = .ok (.bipush 49, 2) := by
  show decode prog_8_method_12_code 55 = _
  decide +kernel
theorem d65_57 (L : Nat) (xs : Nat → Int32) : decode (ax_code (mgT L xs) 65) 57 = .ok (.if_icmp .lt 16, 3) := by
  show decode prog_8_method_12_code 57 = _
  decide +kernel
theorem d65_60 (L : Nat) (xs : Nat → Int32) : decode (ax_code (mgT L xs) 65) 60 = .ok (.aload_n 0, 1) := by
  show decode prog_8_method_12_code 60 = _
  decide +kernel
theorem d65_61 (L : Nat) (xs : Nat → Int32) : decode (ax_code (mgT L xs) 65) 61 = .ok (.iload_n 3, 1) := by
  show decode prog_8_method_12_code 61 = _
  decide +kernel
theorem d65_62 (L : Nat) (xs : Nat → Int32) : decode (ax_code (mgT L xs) 65) 62 = .ok (.invokevirtual 33, 3) := by
  show decode prog_8_method_12_code 62 = _
  decide +kernel
theorem d65_65 (L : Nat) (xs : Nat → Int32) : decode (ax_code (mgT L xs) 65) 65 = .ok (.bipush 57, 2) := by
  show decode prog_8_method_12_code 65 = _
  decide +kernel
theorem d65_67 (L : Nat) (xs : Nat → Int32) : decode (ax_code (mgT L xs) 65) 67 = .ok (.if_icmp .gt 6, 3) := by
  show decode prog_8_method_12_code 67 = _
  decide +kernel
theorem d65_70 (L : Nat) (xs : Nat → Int32) : decode (ax_code (mgT L xs) 65) 70 = .ok (.iinc 3 1, 3) := by
  show decode prog_8_method_12_code 70 = _
  decide +kernel
theorem d65_73 (L : Nat) (xs : Nat → Int32) : decode (ax_code (mgT L xs) 65) 73 = .ok (.aload_n 0, 1) := by
  show decode prog_8_method_12_code 73 = _
  decide +kernel
theorem d65_74 (L : Nat) (xs : Nat → Int32) : decode (ax_code (mgT L xs) 65) 74 = .ok (.iload_n 3, 1) := by
  show decode prog_8_method_12_code 74 = _
  decide +kernel
theorem d65_75 (L : Nat) (xs : Nat → Int32) : decode (ax_code (mgT L xs) 65) 75 = .ok (.invokevirtual 33, 3) := by
  show decode prog_8_method_12_code 75 = _
  decide +kernel
theorem d65_78 (L : Nat) (xs : Nat → Int32) : decode (ax_code (mgT L xs) 65) 78 = .ok (.bipush 114, 2) := by
  show decode prog_8_method_12_code 78 = _
  decide +kernel
theorem d65_80 (L : Nat) (xs : Nat → Int32) : decode (ax_code (mgT L xs) 65) 80 = .ok (.if_icmp .ne 6, 3) := by
  show decode prog_8_method_12_code 80 = _
  decide +kernel
theorem d65_83 (L : Nat) (xs : Nat → Int32) : decode (ax_code (mgT L xs) 65) 83 = .ok (.iinc 3 1, 3) := by
  show decode prog_8_method_12_code 83 = _
  decide +kernel
theorem d65_86 (L : Nat) (xs : Nat → Int32) : decode (ax_code (mgT L xs) 65) 86 = .ok (.iload_n 3, 1) := by
  show decode prog_8_method_12_code 86 = _
  decide +kernel
theorem d65_87 (L : Nat) (xs : Nat → Int32) : decode (ax_code (mgT L xs) 65) 87 = .ok (.iload_n 2, 1) := by
  show decode prog_8_method_12_code 87 = _
  decide +kernel
theorem d65_88 (L : Nat) (xs : Nat → Int32) : decode (ax_code (mgT L xs) 65) 88 = .ok (.if_icmp .ge 17, 3) := by
  show decode prog_8_method_12_code 88 = _
  decide +kernel
theorem d65_91 (L : Nat) (xs : Nat → Int32) : decode (ax_code (mgT L xs) 65) 91 = .ok (.aload_n 0, 1) := by
  show decode prog_8_method_12_code 91 = _
  decide +kernel
theorem d65_92 (L : Nat) (xs : Nat → Int32) : decode (ax_code (mgT L xs) 65) 92 = .ok (.iload_n 3, 1) := by
  show decode prog_8_method_12_code 92 = _
  decide +kernel
theorem d65_93 (L : Nat) (xs : Nat → Int32) : decode (ax_code (mgT L xs) 65) 93 = .ok (.invokevirtual 33, 3) := by
  show decode prog_8_method_12_code 93 = _
  decide +kernel
theorem d65_96 (L : Nat) (xs : Nat → Int32) : decode (ax_code (mgT L xs) 65) 96 = .ok (.bipush 125, 2) := by
  show decode prog_8_method_12_code 96 = _
  decide +kernel
theorem d65_98 (L : Nat) (xs : Nat → Int32) : decode (ax_code (mgT L xs) 65) 98 = .ok (.if_icmp .ne 7, 3) := by
  show decode prog_8_method_12_code 98 = _
  decide +kernel
theorem d65_101 (L : Nat) (xs : Nat → Int32) : decode (ax_code (mgT L xs) 65) 101 = .ok (.iload_n 3, 1) := by
  show decode prog_8_method_12_code 101 = _
  decide +kernel
theorem d65_102 (L : Nat) (xs : Nat → Int32) : decode (ax_code (mgT L xs) 65) 102 = .ok (.goto 4, 3) := by
  show decode prog_8_method_12_code 102 = _
  decide +kernel
theorem d65_105 (L : Nat) (xs : Nat → Int32) : decode (ax_code (mgT L xs) 65) 105 = .ok (.iconst (-1), 1) := by
  show decode prog_8_method_12_code 105 = _
  decide +kernel
theorem d65_106 (L : Nat) (xs : Nat → Int32) : decode (ax_code (mgT L xs) 65) 106 = .ok (.ireturn, 1) := by
  show decode prog_8_method_12_code 106 = _
  decide +kernel
theorem d65_107 (L : Nat) (xs : Nat → Int32) : decode (ax_code (mgT L xs) 65) 107 = .ok (.iload_n 3, 1) := by
  show decode prog_8_method_12_code 107 = _
  decide +kernel
theorem d65_108 (L : Nat) (xs : Nat → Int32) : decode (ax_code (mgT L xs) 65) 108 = .ok (.iload_n 2, 1) := by
  show decode prog_8_method_12_code 108 = _
  decide +kernel
theorem d65_109 (L : Nat) (xs : Nat → Int32) : decode (ax_code (mgT L xs) 65) 109 = .ok (.if_icmp .ge 17, 3) := by
  show decode prog_8_method_12_code 109 = _
  decide +kernel
theorem d65_112 (L : Nat) (xs : Nat → Int32) : decode (ax_code (mgT L xs) 65) 112 = .ok (.aload_n 0, 1) := by
  show decode prog_8_method_12_code 112 = _
  decide +kernel
theorem d65_113 (L : Nat) (xs : Nat → Int32) : decode (ax_code (mgT L xs) 65) 113 = .ok (.iload_n 3, 1) := by
  show decode prog_8_method_12_code 113 = _
  decide +kernel
theorem d65_114 (L : Nat) (xs : Nat → Int32) : decode (ax_code (mgT L xs) 65) 114 = .ok (.invokevirtual 33, 3) := by
  show decode prog_8_method_12_code 114 = _
  decide +kernel
theorem d65_117 (L : Nat) (xs : Nat → Int32) : decode (ax_code (mgT L xs) 65) 117 = .ok (.bipush 37, 2) := by
  show decode prog_8_method_12_code 117 = _
  decide +kernel
theorem d65_119 (L : Nat) (xs : Nat → Int32) : decode (ax_code (mgT L xs) 65) 119 = .ok (.if_icmp .ne 7, 3) := by
  show decode prog_8_method_12_code 119 = _
  decide +kernel
theorem d65_122 (L : Nat) (xs : Nat → Int32) : decode (ax_code (mgT L xs) 65) 122 = .ok (.iload_n 3, 1) := by
  show decode prog_8_method_12_code 122 = _
  decide +kernel
theorem d65_123 (L : Nat) (xs : Nat → Int32) : decode (ax_code (mgT L xs) 65) 123 = .ok (.goto 4, 3) := by
  show decode prog_8_method_12_code 123 = _
  decide +kernel
theorem d65_126 (L : Nat) (xs : Nat → Int32) : decode (ax_code (mgT L xs) 65) 126 = .ok (.iconst (-1), 1) := by
  show decode prog_8_method_12_code 126 = _
  decide +kernel
theorem d65_127 (L : Nat) (xs : Nat → Int32) : decode (ax_code (mgT L xs) 65) 127 = .ok (.ireturn, 1) := by
  show decode prog_8_method_12_code 127 = _
  decide +kernel
theorem d67_0 (L : Nat) (xs : Nat → Int32) : decode (ax_code (mgT L xs) 67) 0 = .ok (.iload_n 1, 1) := by
  show decode prog_8_method_9_code 0 = _
  decide +kernel
theorem d67_1 (L : Nat) (xs : Nat → Int32) : decode (ax_code (mgT L xs) 67) 1 = .ok (.lookupswitch 56 #[(45, 35), (63, 42), (126, 49)], 35) := by
  show decode prog_8_method_9_code 1 = _
  decide +kernel
theorem d67_36 (L : Nat) (xs : Nat → Int32) : decode (ax_code (mgT L xs) 67) 36 = .ok (.aload_n 0, 1) := by
  show decode prog_8_method_9_code 36 = _
  decide +kernel
theorem d67_37 (L : Nat) (xs : Nat → Int32) : decode (ax_code (mgT L xs) 67) 37 = .ok (.iconst 3, 1) := by
  show decode prog_8_method_9_code 37 = _
  decide +kernel
theorem d67_38 (L : Nat) (xs : Nat → Int32) : decode (ax_code (mgT L xs) 67) 38 = .ok (.putfield 88, 3) := by
  show decode prog_8_method_9_code 38 = _
  decide +kernel
theorem d67_41 (L : Nat) (xs : Nat → Int32) : decode (ax_code (mgT L xs) 67) 41 = .ok (.iconst 1, 1) := by
  show decode prog_8_method_9_code 41 = _
  decide +kernel
theorem d67_42 (L : Nat) (xs : Nat → Int32) : decode (ax_code (mgT L xs) 67) 42 = .ok (.ireturn, 1) := by
  show decode prog_8_method_9_code 42 = _
  decide +kernel
theorem d67_43 (L : Nat) (xs : Nat → Int32) : decode (ax_code (mgT L xs) 67) 43 = .ok (.aload_n 0, 1) := by
  show decode prog_8_method_9_code 43 = _
  decide +kernel
theorem d67_44 (L : Nat) (xs : Nat → Int32) : decode (ax_code (mgT L xs) 67) 44 = .ok (.iconst 1, 1) := by
  show decode prog_8_method_9_code 44 = _
  decide +kernel
theorem d67_45 (L : Nat) (xs : Nat → Int32) : decode (ax_code (mgT L xs) 67) 45 = .ok (.putfield 88, 3) := by
  show decode prog_8_method_9_code 45 = _
  decide +kernel
theorem d67_48 (L : Nat) (xs : Nat → Int32) : decode (ax_code (mgT L xs) 67) 48 = .ok (.iconst 1, 1) := by
  show decode prog_8_method_9_code 48 = _
  decide +kernel
theorem d67_49 (L : Nat) (xs : Nat → Int32) : decode (ax_code (mgT L xs) 67) 49 = .ok (.ireturn, 1) := by
  show decode prog_8_method_9_code 49 = _
  decide +kernel
theorem d67_50 (L : Nat) (xs : Nat → Int32) : decode (ax_code (mgT L xs) 67) 50 = .ok (.aload_n 0, 1) := by
  show decode prog_8_method_9_code 50 = _
  decide +kernel
theorem d67_51 (L : Nat) (xs : Nat → Int32) : decode (ax_code (mgT L xs) 67) 51 = .ok (.iconst 4, 1) := by
  show decode prog_8_method_9_code 51 = _
  decide +kernel
theorem d67_52 (L : Nat) (xs : Nat → Int32) : decode (ax_code (mgT L xs) 67) 52 = .ok (.putfield 88, 3) := by
  show decode prog_8_method_9_code 52 = _
  decide +kernel
theorem d67_55 (L : Nat) (xs : Nat → Int32) : decode (ax_code (mgT L xs) 67) 55 = .ok (.iconst 1, 1) := by
  show decode prog_8_method_9_code 55 = _
  decide +kernel
theorem d67_56 (L : Nat) (xs : Nat → Int32) : decode (ax_code (mgT L xs) 67) 56 = .ok (.ireturn, 1) := by
  show decode prog_8_method_9_code 56 = _
  decide +kernel
theorem d67_57 (L : Nat) (xs : Nat → Int32) : decode (ax_code (mgT L xs) 67) 57 = .ok (.aload_n 0, 1) := by
  show decode prog_8_method_9_code 57 = _
  decide +kernel
theorem d67_58 (L : Nat) (xs : Nat → Int32) : decode (ax_code (mgT L xs) 67) 58 = .ok (.iconst 2, 1) := by
  show decode prog_8_method_9_code 58 = _
  decide +kernel
theorem d67_59 (L : Nat) (xs : Nat → Int32) : decode (ax_code (mgT L xs) 67) 59 = .ok (.putfield 88, 3) := by
  show decode prog_8_method_9_code 59 = _
  decide +kernel
theorem d67_62 (L : Nat) (xs : Nat → Int32) : decode (ax_code (mgT L xs) 67) 62 = .ok (.iload_n 1, 1) := by
  show decode prog_8_method_9_code 62 = _
  decide +kernel
theorem d67_63 (L : Nat) (xs : Nat → Int32) : decode (ax_code (mgT L xs) 67) 63 = .ok (.bipush 43, 2) := by
  show decode prog_8_method_9_code 63 = _
  decide +kernel
theorem d67_65 (L : Nat) (xs : Nat → Int32) : decode (ax_code (mgT L xs) 67) 65 = .ok (.if_icmp .ne 7, 3) := by
  show decode prog_8_method_9_code 65 = _
  decide +kernel
theorem d67_68 (L : Nat) (xs : Nat → Int32) : decode (ax_code (mgT L xs) 67) 68 = .ok (.iconst 1, 1) := by
  show decode prog_8_method_9_code 68 = _
  decide +kernel
theorem d67_69 (L : Nat) (xs : Nat → Int32) : decode (ax_code (mgT L xs) 67) 69 = .ok (.goto 4, 3) := by
  show decode prog_8_method_9_code 69 = _
  decide +kernel
theorem d67_72 (L : Nat) (xs : Nat → Int32) : decode (ax_code (mgT L xs) 67) 72 = .ok (.iconst 0, 1) := by
  show decode prog_8_method_9_code 72 = _
  decide +kernel
theorem d67_73 (L : Nat) (xs : Nat → Int32) : decode (ax_code (mgT L xs) 67) 73 = .ok (.ireturn, 1) := by
  show decode prog_8_method_9_code 73 = _
  decide +kernel
theorem d68_0 (L : Nat) (xs : Nat → Int32) : decode (ax_code (mgT L xs) 68) 0 = .ok (.aload_n 0, 1) := by
  show decode prog_8_method_10_code 0 = _
  decide +kernel
theorem d68_1 (L : Nat) (xs : Nat → Int32) : decode (ax_code (mgT L xs) 68) 1 = .ok (.iload_n 1, 1) := by
  show decode prog_8_method_10_code 1 = _
  decide +kernel
theorem d68_2 (L : Nat) (xs : Nat → Int32) : decode (ax_code (mgT L xs) 68) 2 = .ok (.iload_n 2, 1) := by
  show decode prog_8_method_10_code 2 = _
  decide +kernel
theorem d68_3 (L : Nat) (xs : Nat → Int32) : decode (ax_code (mgT L xs) 68) 3 = .ok (.ldc 91, 2) := by
  show decode prog_8_method_10_code 3 = _
  decide +kernel
theorem d68_5 (L : Nat) (xs : Nat → Int32) : decode (ax_code (mgT L xs) 68) 5 = .ok (.invokevirtual 48, 3) := by
  show decode prog_8_method_10_code 5 = _
  decide +kernel
theorem d68_8 (L : Nat) (xs : Nat → Int32) : decode (ax_code (mgT L xs) 68) 8 = .ok (.ifCond .eq 5, 3) := by
  show decode prog_8_method_10_code 8 = _
  decide +kernel
theorem d68_11 (L : Nat) (xs : Nat → Int32) : decode (ax_code (mgT L xs) 68) 11 = .ok (.iconst 0, 1) := by
  show decode prog_8_method_10_code 11 = _
  decide +kernel
theorem d68_12 (L : Nat) (xs : Nat → Int32) : decode (ax_code (mgT L xs) 68) 12 = .ok (.ireturn, 1) := by
  show decode prog_8_method_10_code 12 = _
  decide +kernel
theorem d68_13 (L : Nat) (xs : Nat → Int32) : decode (ax_code (mgT L xs) 68) 13 = .ok (.aload_n 0, 1) := by
  show decode prog_8_method_10_code 13 = _
  decide +kernel
theorem d68_14 (L : Nat) (xs : Nat → Int32) : decode (ax_code (mgT L xs) 68) 14 = .ok (.iload_n 1, 1) := by
  show decode prog_8_method_10_code 14 = _
  decide +kernel
theorem d68_15 (L : Nat) (xs : Nat → Int32) : decode (ax_code (mgT L xs) 68) 15 = .ok (.iload_n 2, 1) := by
  show decode prog_8_method_10_code 15 = _
  decide +kernel
theorem d68_16 (L : Nat) (xs : Nat → Int32) : decode (ax_code (mgT L xs) 68) 16 = .ok (.ldc 93, 2) := by
  show decode prog_8_method_10_code 16 = _
  decide +kernel
theorem d68_18 (L : Nat) (xs : Nat → Int32) : decode (ax_code (mgT L xs) 68) 18 = .ok (.invokevirtual 48, 3) := by
  show decode prog_8_method_10_code 18 = _
  decide +kernel
theorem d68_21 (L : Nat) (xs : Nat → Int32) : decode (ax_code (mgT L xs) 68) 21 = .ok (.ifCond .eq 5, 3) := by
  show decode prog_8_method_10_code 21 = _
  decide +kernel
theorem d68_24 (L : Nat) (xs : Nat → Int32) : decode (ax_code (mgT L xs) 68) 24 = .ok (.iconst 1, 1) := by
  show decode prog_8_method_10_code 24 = _
  decide +kernel
theorem d68_25 (L : Nat) (xs : Nat → Int32) : decode (ax_code (mgT L xs) 68) 25 = .ok (.ireturn, 1) := by
  show decode prog_8_method_10_code 25 = _
  decide +kernel
theorem d68_26 (L : Nat) (xs : Nat → Int32) : decode (ax_code (mgT L xs) 68) 26 = .ok (.aload_n 0, 1) := by
  show decode prog_8_method_10_code 26 = _
  decide +kernel
theorem d68_27 (L : Nat) (xs : Nat → Int32) : decode (ax_code (mgT L xs) 68) 27 = .ok (.iload_n 1, 1) := by
  show decode prog_8_method_10_code 27 = _
  decide +kernel
theorem d68_28 (L : Nat) (xs : Nat → Int32) : decode (ax_code (mgT L xs) 68) 28 = .ok (.iload_n 2, 1) := by
  show decode prog_8_method_10_code 28 = _
  decide +kernel
theorem d68_29 (L : Nat) (xs : Nat → Int32) : decode (ax_code (mgT L xs) 68) 29 = .ok (.ldc 95, 2) := by
  show decode prog_8_method_10_code 29 = _
  decide +kernel
theorem d68_31 (L : Nat) (xs : Nat → Int32) : decode (ax_code (mgT L xs) 68) 31 = .ok (.invokevirtual 48, 3) := by
  show decode prog_8_method_10_code 31 = _
  decide +kernel
theorem d68_34 (L : Nat) (xs : Nat → Int32) : decode (ax_code (mgT L xs) 68) 34 = .ok (.ifCond .eq 5, 3) := by
  show decode prog_8_method_10_code 34 = _
  decide +kernel
theorem d68_37 (L : Nat) (xs : Nat → Int32) : decode (ax_code (mgT L xs) 68) 37 = .ok (.iconst 2, 1) := by
  show decode prog_8_method_10_code 37 = _
  decide +kernel
theorem d68_38 (L : Nat) (xs : Nat → Int32) : decode (ax_code (mgT L xs) 68) 38 = .ok (.ireturn, 1) := by
  show decode prog_8_method_10_code 38 = _
  decide +kernel
theorem d68_39 (L : Nat) (xs : Nat → Int32) : decode (ax_code (mgT L xs) 68) 39 = .ok (.aload_n 0, 1) := by
  show decode prog_8_method_10_code 39 = _
  decide +kernel
theorem d68_40 (L : Nat) (xs : Nat → Int32) : decode (ax_code (mgT L xs) 68) 40 = .ok (.iload_n 1, 1) := by
  show decode prog_8_method_10_code 40 = _
  decide +kernel
theorem d68_41 (L : Nat) (xs : Nat → Int32) : decode (ax_code (mgT L xs) 68) 41 = .ok (.iload_n 2, 1) := by
  show decode prog_8_method_10_code 41 = _
  decide +kernel
theorem d68_42 (L : Nat) (xs : Nat → Int32) : decode (ax_code (mgT L xs) 68) 42 = .ok (.ldc 97, 2) := by
  show decode prog_8_method_10_code 42 = _
  decide +kernel
theorem d68_44 (L : Nat) (xs : Nat → Int32) : decode (ax_code (mgT L xs) 68) 44 = .ok (.invokevirtual 48, 3) := by
  show decode prog_8_method_10_code 44 = _
  decide +kernel
theorem d68_47 (L : Nat) (xs : Nat → Int32) : decode (ax_code (mgT L xs) 68) 47 = .ok (.ifCond .eq 5, 3) := by
  show decode prog_8_method_10_code 47 = _
  decide +kernel
theorem d68_50 (L : Nat) (xs : Nat → Int32) : decode (ax_code (mgT L xs) 68) 50 = .ok (.iconst 3, 1) := by
  show decode prog_8_method_10_code 50 = _
  decide +kernel
theorem d68_51 (L : Nat) (xs : Nat → Int32) : decode (ax_code (mgT L xs) 68) 51 = .ok (.ireturn, 1) := by
  show decode prog_8_method_10_code 51 = _
  decide +kernel
theorem d68_52 (L : Nat) (xs : Nat → Int32) : decode (ax_code (mgT L xs) 68) 52 = .ok (.aload_n 0, 1) := by
  show decode prog_8_method_10_code 52 = _
  decide +kernel
theorem d68_53 (L : Nat) (xs : Nat → Int32) : decode (ax_code (mgT L xs) 68) 53 = .ok (.iload_n 1, 1) := by
  show decode prog_8_method_10_code 53 = _
  decide +kernel
theorem d68_54 (L : Nat) (xs : Nat → Int32) : decode (ax_code (mgT L xs) 68) 54 = .ok (.iload_n 2, 1) := by
  show decode prog_8_method_10_code 54 = _
  decide +kernel
theorem d68_55 (L : Nat) (xs : Nat → Int32) : decode (ax_code (mgT L xs) 68) 55 = .ok (.ldc 99, 2) := by
  show decode prog_8_method_10_code 55 = _
  decide +kernel
theorem d68_57 (L : Nat) (xs : Nat → Int32) : decode (ax_code (mgT L xs) 68) 57 = .ok (.invokevirtual 48, 3) := by
  show decode prog_8_method_10_code 57 = _
  decide +kernel
theorem d68_60 (L : Nat) (xs : Nat → Int32) : decode (ax_code (mgT L xs) 68) 60 = .ok (.ifCond .eq 5, 3) := by
  show decode prog_8_method_10_code 60 = _
  decide +kernel
theorem d68_63 (L : Nat) (xs : Nat → Int32) : decode (ax_code (mgT L xs) 68) 63 = .ok (.iconst 4, 1) := by
  show decode prog_8_method_10_code 63 = _
  decide +kernel
theorem d68_64 (L : Nat) (xs : Nat → Int32) : decode (ax_code (mgT L xs) 68) 64 = .ok (.ireturn, 1) := by
  show decode prog_8_method_10_code 64 = _
  decide +kernel
theorem d68_65 (L : Nat) (xs : Nat → Int32) : decode (ax_code (mgT L xs) 68) 65 = .ok (.aload_n 0, 1) := by
  show decode prog_8_method_10_code 65 = _
  decide +kernel
theorem d68_66 (L : Nat) (xs : Nat → Int32) : decode (ax_code (mgT L xs) 68) 66 = .ok (.iload_n 1, 1) := by
  show decode prog_8_method_10_code 66 = _
  decide +kernel
theorem d68_67 (L : Nat) (xs : Nat → Int32) : decode (ax_code (mgT L xs) 68) 67 = .ok (.iload_n 2, 1) := by
  show decode prog_8_method_10_code 67 = _
  decide +kernel
theorem d68_68 (L : Nat) (xs : Nat → Int32) : decode (ax_code (mgT L xs) 68) 68 = .ok (.ldc 101, 2) := by
  show decode prog_8_method_10_code 68 = _
  decide +kernel
theorem d68_70 (L : Nat) (xs : Nat → Int32) : decode (ax_code (mgT L xs) 68) 70 = .ok (.invokevirtual 48, 3) := by
  show decode prog_8_method_10_code 70 = _
  decide +kernel
theorem d68_73 (L : Nat) (xs : Nat → Int32) : decode (ax_code (mgT L xs) 68) 73 = .ok (.ifCond .eq 7, 3) := by
  show decode prog_8_method_10_code 73 = _
  decide +kernel
theorem d68_76 (L : Nat) (xs : Nat → Int32) : decode (ax_code (mgT L xs) 68) 76 = .ok (.iconst 5, 1) := by
  show decode prog_8_method_10_code 76 = _
  decide +kernel
theorem d68_77 (L : Nat) (xs : Nat → Int32) : decode (ax_code (mgT L xs) 68) 77 = .ok (.goto 4, 3) := by
  show decode prog_8_method_10_code 77 = _
  decide +kernel
theorem d68_80 (L : Nat) (xs : Nat → Int32) : decode (ax_code (mgT L xs) 68) 80 = .ok (.iconst (-1), 1) := by
  show decode prog_8_method_10_code 80 = _
  decide +kernel
theorem d68_81 (L : Nat) (xs : Nat → Int32) : decode (ax_code (mgT L xs) 68) 81 = .ok (.ireturn, 1) := by
  show decode prog_8_method_10_code 81 = _
  decide +kernel
theorem d69_0 (L : Nat) (xs : Nat → Int32) : decode (ax_code (mgT L xs) 69) 0 = .ok (.aload_n 0, 1) := by
  show decode prog_8_method_8_code 0 = _
  decide +kernel
theorem d69_1 (L : Nat) (xs : Nat → Int32) : decode (ax_code (mgT L xs) 69) 1 = .ok (.lload_n 1, 1) := by
  show decode prog_8_method_8_code 1 = _
  decide +kernel
theorem d69_2 (L : Nat) (xs : Nat → Int32) : decode (ax_code (mgT L xs) 69) 2 = .ok (.l2i, 1) := by
  show decode prog_8_method_8_code 2 = _
  decide +kernel
theorem d69_3 (L : Nat) (xs : Nat → Int32) : decode (ax_code (mgT L xs) 69) 3 = .ok (.putfield 84, 3) := by
  show decode prog_8_method_8_code 3 = _
  decide +kernel
theorem d69_6 (L : Nat) (xs : Nat → Int32) : decode (ax_code (mgT L xs) 69) 6 = .ok (.lload_n 1, 1) := by
  show decode prog_8_method_8_code 6 = _
  decide +kernel
theorem d69_7 (L : Nat) (xs : Nat → Int32) : decode (ax_code (mgT L xs) 69) 7 = .ok (.ldc2_w 86, 3) := by
  show decode prog_8_method_8_code 7 = _
  decide +kernel
theorem d69_10 (L : Nat) (xs : Nat → Int32) : decode (ax_code (mgT L xs) 69) 10 = .ok (.lcmp, 1) := by
  show decode prog_8_method_8_code 10 = _
  decide +kernel
theorem d69_11 (L : Nat) (xs : Nat → Int32) : decode (ax_code (mgT L xs) 69) 11 = .ok (.ifCond .eq 7, 3) := by
  show decode prog_8_method_8_code 11 = _
  decide +kernel
theorem d69_14 (L : Nat) (xs : Nat → Int32) : decode (ax_code (mgT L xs) 69) 14 = .ok (.iconst 1, 1) := by
  show decode prog_8_method_8_code 14 = _
  decide +kernel
theorem d69_15 (L : Nat) (xs : Nat → Int32) : decode (ax_code (mgT L xs) 69) 15 = .ok (.goto 4, 3) := by
  show decode prog_8_method_8_code 15 = _
  decide +kernel
theorem d69_18 (L : Nat) (xs : Nat → Int32) : decode (ax_code (mgT L xs) 69) 18 = .ok (.iconst 0, 1) := by
  show decode prog_8_method_8_code 18 = _
  decide +kernel
theorem d69_19 (L : Nat) (xs : Nat → Int32) : decode (ax_code (mgT L xs) 69) 19 = .ok (.ireturn, 1) := by
  show decode prog_8_method_8_code 19 = _
  decide +kernel
def f_mod (g : Nat → Nat) : Nat → Nat → Option Nat
  | _, 0 => none
  | i, m + 1 => if g i = 61 then some i else if g i = 46 ∨ c_lab (g i) = true then f_mod g (i + 1) m else none
/-- where the name of a modifier ends -/
def t_mod (g : Nat → Nat) (fr to : Nat) : Option Nat := if c_let (g fr) = true then f_mod g (fr + 1) (to - (fr + 1)) else none
def m_e2 (g : Nat → Nat) (i : Nat) : Nat := if 49 ≤ g (i + 3) ∧ g (i + 3) ≤ 57 then (if g (i + 4) = 114 then i + 5 else i + 4) else (if g (i + 3) = 114 then i + 4 else i + 3)
/-- the last letter of what the % at i begins -/
def t_mac (g : Nat → Nat) (i j : Nat) : Option Nat :=
  if g (i + 1) = 123 then (if (g (i + 2) = 100 ∨ g (i + 2) = 105 ∨ g (i + 2) = 111) ∧ m_e2 g i < j ∧ g (m_e2 g i) = 125 then some (m_e2 g i) else none)
  else if i + 1 < j ∧ g (i + 1) = 37 then some (i + 1) else none
theorem t_mac_lt {g : Nat → Nat} {i j e : Nat} (h : t_mac g i j = some e) : i < e ∧ e < j := by
  unfold t_mac at h
  split at h
  · split at h
    · rename_i h2
      cases h
      refine ⟨?_, h2.2.1⟩
      unfold m_e2
      (repeat' split) <;> omega
    · cases h
  · split at h
    · cases h; omega
    · cases h
def f_tgt (g : Nat → Nat) (j : Nat) : Nat → Nat → Bool
  | 0, _ => true
  | m + 1, i => if i < j then (if g i = 37 then (match t_mac g i j with
      | none => false
      | some e => f_tgt g j m (e + 1)) else f_tgt g j m (i + 1)) else true
/-- a target -/
def t_tgt (g : Nat → Nat) (i j : Nat) : Bool := decide (i < j) && f_tgt g j (j - i) i
def c_sg (c : Nat) : Bool := decide (c = 45) || decide (c = 63) || decide (c = 126) || decide (c = 43)
def c_res (c : Nat) : Nat := if c = 45 then 3 else if c = 63 then 1 else if c = 126 then 4 else 2
def w_all : List Nat := [97, 108, 108]
def w_inc : List Nat := [105, 110, 99, 108, 117, 100, 101]
def w_a : List Nat := [97]
def w_mx : List Nat := [109, 120]
def w_ip4 : List Nat := [105, 112, 52]
def w_exi : List Nat := [101, 120, 105, 115, 116, 115]
def w_red : List Nat := [114, 101, 100, 105, 114, 101, 99, 116]
def t_kind (g : Nat → Nat) (i j : Nat) : Option Nat := if t_word g i j w_all = true then some 0 else if t_word g i j w_inc = true then some 1 else if t_word g i j w_a = true then some 2 else if t_word g i j w_mx = true then some 3 else if t_word g i j w_ip4 = true then some 4 else if t_word g i j w_exi = true then some 5 else none
section TM
variable {L : Nat} {xs : Nat → Int32} {d a r : Nat} {s : mg_s} {l : List Nat}
theorem ts_at {i : Nat} (H : isT a) (hl : hold s a l) (hi : i < 2 ^ 31) : ca L xs (d + 1) 31 [.ref a, .int (nI i)] s (fun v s' => v = some (.int (nI (gl l i))) ∧ s = s') := by
  have h := tx_at (L := L) (xs := xs) (d := d) H hl.1 hi
  rw [hold_at hl] at h
  exact h
theorem ts_word {fr to k0 : Nat} {w : List Nat} {q : String × Nat × String × List Nat} (H : isT a) (hl : hold s a l) (hq : ax_str[k0]? = some q) (hw : q.2.2.2 = w) (hto : to < 2 ^ 30) (hf : fr ≤ to) : ca L xs (d + 2) 57 [.ref a, .int (nI fr), .int (nI to), .ref (ax_big + 1 + k0)] s (fun v s' => v = some (.int (nI (bI (t_word (gl l) fr to w)))) ∧ s = s') := by
  have h := tx_isWord (L := L) (xs := xs) (d := d) H hl.1 hq hto hf
  rw [hold_at hl, hw] at h
  exact h
theorem tm_mod_l {fr to : Nat} (H : isT a) (hl : hold s a l) (hto : to < 2 ^ 30) : ∀ (m i : Nat) (c4 : Option Value), i + m = to ∨ (m = 0 ∧ i = to + 1) → wp L xs (d + 1) 60 17 [some (.ref a), some (.int (nI fr)), some (.int (nI to)), some (.int (nI i)), c4] [] s (fun v s' => v = some (.int (oI (f_mod (gl l) i m))) ∧ s = s') := by
  intro m
  induction m with
  | zero =>
    intro i c4 hi
    refine wg_iload_n (d60_17 L xs) rfl ?_
    refine wg_iload_n (d60_18 L xs) rfl ?_
    refine wn_icmp_ge (d60_19 L xs) (x := i) (y := to) (by omega) (by omega) (t := 61) (by decide) (fun h1 => ?_) (fun h1 => by omega)
    refine wg_iconst (d60_61 L xs) (x := (-1)) (by decide) ?_
    exact wg_iret (d60_62 L xs) rfl rfl ⟨rfl, rfl⟩
  | succ m ih =>
    intro i c4 hi
    have hg := gl_lt hl.2.1 i
    have hb := bI_lt (c_lab (gl l i))
    rw [f_mod]
    refine wg_iload_n (d60_17 L xs) rfl ?_
    refine wg_iload_n (d60_18 L xs) rfl ?_
    refine wn_icmp_ge (d60_19 L xs) (x := i) (y := to) (by omega) (by omega) (t := 61) (by decide) (fun h1 => by omega) (fun h1 => ?_)
    refine wg_aload_n (d60_22 L xs) rfl ?_
    refine wg_iload_n (d60_23 L xs) rfl ?_
    refine wg_invv (d60_24 L xs) (kd := 7) (mj := 31) (n := 1) rfl (Or.inl rfl) (ys := [.int (nI i)]) (r := []) rfl rfl H.1 (tx_c H) rfl (Nat.le_of_ble_eq_true rfl) (ts_at H hl (by omega)) ?_
    rintro _ _ ⟨rfl, rfl⟩
    refine wg_istore (d60_27 L xs) (ls' := [some (.ref a), some (.int (nI fr)), some (.int (nI to)), some (.int (nI i)), some (.int (nI (gl l i)))]) (Nat.le_of_ble_eq_true rfl) rfl ?_
    refine wg_iload (d60_29 L xs) rfl ?_
    refine wg_bipush (d60_31 L xs) (x := 61) (by decide) ?_
    refine wn_icmp_ne (d60_33 L xs) (x := gl l i) (y := 61) (by omega) (by omega) (t := 38) (by decide) (fun h2 => ?_) (fun h2 => ?_)
    · refine wg_iload (d60_38 L xs) rfl ?_
      refine wg_bipush (d60_40 L xs) (x := 46) (by decide) ?_
      refine wn_icmp_eq (d60_42 L xs) (x := gl l i) (y := 46) (by omega) (by omega) (t := 55) (by decide) (fun h3 => ?_) (fun h3 => ?_)
      · refine wg_iinc (d60_55 L xs) (y := (nI (i + 1))) (ls' := [some (.ref a), some (.int (nI fr)), some (.int (nI to)), some (.int (nI (i + 1))), some (.int (nI (gl l i)))]) rfl (nI_add i 1) rfl ?_
        refine wg_goto (d60_58 L xs) (t := 17) (by decide) ?_
        rw [if_neg (by omega), if_pos (Or.inl (by omega))]; exact ih (i + 1) _ (by omega)
      · refine wg_iload (d60_45 L xs) rfl ?_
        refine wg_invs (d60_47 L xs) (kd := 6) (mj := 39) (n := 1) rfl (Or.inl rfl) (ys := [.int (nI (gl l i))]) (r := []) rfl rfl (Nat.le_of_ble_eq_true rfl) (tx_lab (by omega)) ?_
        rintro _ _ ⟨rfl, rfl⟩
        refine wn_if_ne (d60_50 L xs) (x := bI (c_lab (gl l i))) (by omega) (t := 55) (by decide) (fun h4 => ?_) (fun h4 => ?_)
        · refine wg_iinc (d60_55 L xs) (y := (nI (i + 1))) (ls' := [some (.ref a), some (.int (nI fr)), some (.int (nI to)), some (.int (nI (i + 1))), some (.int (nI (gl l i)))]) rfl (nI_add i 1) rfl ?_
          refine wg_goto (d60_58 L xs) (t := 17) (by decide) ?_
          rw [if_neg (by omega), if_pos (Or.inr (bI_t (by omega)))]; exact ih (i + 1) _ (by omega)
        · refine wg_iconst (d60_53 L xs) (x := (-1)) (by decide) ?_
          exact wg_iret (d60_54 L xs) rfl rfl ⟨by rw [if_neg (by omega), if_neg (fun q => q.elim (by omega) (fun q => absurd q (by rw [bI_f (b := c_lab (gl l i)) (by omega)]; decide)))]; rfl, rfl⟩
    · refine wg_iload_n (d60_36 L xs) rfl ?_
      exact wg_iret (d60_37 L xs) rfl rfl ⟨by rw [if_pos (by omega)]; rfl, rfl⟩
theorem tm_mod {fr to : Nat} (H : isT a) (hl : hold s a l) (hto : to < 2 ^ 30) (hf : fr ≤ to) : ca L xs (d + 2) 60 [.ref a, .int (nI fr), .int (nI to)] s (fun v s' => v = some (.int (oI (t_mod (gl l) fr to))) ∧ s = s') := by
  refine wg_call (Nat.le_of_ble_eq_true rfl) ?_
  have hg := gl_lt hl.2.1 fr
  have hb := bI_lt (c_let (gl l fr))
  show wp L xs (d + 1) 60 0 [some (.ref a), some (.int (nI fr)), some (.int (nI to)), none, none] [] s _
  refine wg_aload_n (d60_0 L xs) rfl ?_
  refine wg_iload_n (d60_1 L xs) rfl ?_
  refine wg_invv (d60_2 L xs) (kd := 7) (mj := 31) (n := 1) rfl (Or.inl rfl) (ys := [.int (nI fr)]) (r := []) rfl rfl H.1 (tx_c H) rfl (Nat.le_of_ble_eq_true rfl) (ts_at H hl (by omega)) ?_
  rintro _ _ ⟨rfl, rfl⟩
  refine wg_invs (d60_5 L xs) (kd := 6) (mj := 61) (n := 1) rfl (Or.inl rfl) (ys := [.int (nI (gl l fr))]) (r := []) rfl rfl (Nat.le_of_ble_eq_true rfl) (tx_let (by omega)) ?_
  rintro _ _ ⟨rfl, rfl⟩
  refine wn_if_ne (d60_8 L xs) (x := bI (c_let (gl l fr))) (by omega) (t := 13) (by decide) (fun h1 => ?_) (fun h1 => ?_)
  · refine wg_iload_n (d60_13 L xs) rfl ?_
    refine wg_iconst (d60_14 L xs) (x := 1) (by decide) ?_
    refine wg_iadd (d60_15 L xs) ?_
    refine wg_top (y := (nI (fr + 1))) (nI_add fr 1) ?_
    refine wg_istore_n (d60_16 L xs) (ls' := [some (.ref a), some (.int (nI fr)), some (.int (nI to)), some (.int (nI (fr + 1))), none]) (Nat.le_of_ble_eq_true rfl) rfl ?_
    rw [t_mod, if_pos (bI_t (by omega))]; exact tm_mod_l H hl hto _ (fr + 1) none (by omega)
  · refine wg_iconst (d60_11 L xs) (x := (-1)) (by decide) ?_
    exact wg_iret (d60_12 L xs) rfl rfl ⟨by rw [t_mod, if_neg (by rw [bI_f (b := c_let (gl l fr)) (by omega)]; decide)]; rfl, rfl⟩
theorem tm_mac {i j : Nat} (H : isT a) (hl : hold s a l) (hj : j < 2 ^ 30) (hi : i < 2 ^ 30) : ca L xs (d + 2) 65 [.ref a, .int (nI i), .int (nI j)] s (fun v s' => v = some (.int (oI (t_mac (gl l) i j))) ∧ s = s') := by
  refine wg_call (Nat.le_of_ble_eq_true rfl) ?_
  have hg1 := gl_lt hl.2.1 (i + 1)
  have hg2 := gl_lt hl.2.1 (i + 2)
  have hg3 := gl_lt hl.2.1 (i + 3)
  have hg4 := gl_lt hl.2.1 (i + 4)
  have hg5 := gl_lt hl.2.1 (i + 5)
  show wp L xs (d + 1) 65 0 [some (.ref a), some (.int (nI i)), some (.int (nI j)), none, none] [] s _
  refine wg_iload_n (d65_0 L xs) rfl ?_
  refine wg_iconst (d65_1 L xs) (x := 1) (by decide) ?_
  refine wg_iadd (d65_2 L xs) ?_
  refine wg_top (y := (nI (i + 1))) (nI_add i 1) ?_
  refine wg_istore_n (d65_3 L xs) (ls' := [some (.ref a), some (.int (nI i)), some (.int (nI j)), some (.int (nI (i + 1))), none]) (Nat.le_of_ble_eq_true rfl) rfl ?_
  refine wg_aload_n (d65_4 L xs) rfl ?_
  refine wg_iload_n (d65_5 L xs) rfl ?_
  refine wg_invv (d65_6 L xs) (kd := 7) (mj := 31) (n := 1) rfl (Or.inl rfl) (ys := [.int (nI (i + 1))]) (r := []) rfl rfl H.1 (tx_c H) rfl (Nat.le_of_ble_eq_true rfl) (ts_at H hl (by omega)) ?_
  rintro _ _ ⟨rfl, rfl⟩
  refine wg_bipush (d65_9 L xs) (x := 123) (by decide) ?_
  refine wn_icmp_ne (d65_11 L xs) (x := gl l (i + 1)) (y := 123) (by omega) (by omega) (t := 107) (by decide) (fun h1 => ?_) (fun h1 => ?_)
  · refine wg_iload_n (d65_107 L xs) rfl ?_
    refine wg_iload_n (d65_108 L xs) rfl ?_
    refine wn_icmp_ge (d65_109 L xs) (x := i + 1) (y := j) (by omega) (by omega) (t := 126) (by decide) (fun h2 => ?_) (fun h2 => ?_)
    · refine wg_iconst (d65_126 L xs) (x := (-1)) (by decide) ?_
      exact wg_iret (d65_127 L xs) rfl rfl ⟨by unfold t_mac m_e2; (repeat' split) <;> first | rfl | (exfalso; omega), rfl⟩
    · refine wg_aload_n (d65_112 L xs) rfl ?_
      refine wg_iload_n (d65_113 L xs) rfl ?_
      refine wg_invv (d65_114 L xs) (kd := 7) (mj := 31) (n := 1) rfl (Or.inl rfl) (ys := [.int (nI (i + 1))]) (r := []) rfl rfl H.1 (tx_c H) rfl (Nat.le_of_ble_eq_true rfl) (ts_at H hl (by omega)) ?_
      rintro _ _ ⟨rfl, rfl⟩
      refine wg_bipush (d65_117 L xs) (x := 37) (by decide) ?_
      refine wn_icmp_ne (d65_119 L xs) (x := gl l (i + 1)) (y := 37) (by omega) (by omega) (t := 126) (by decide) (fun h3 => ?_) (fun h3 => ?_)
      · refine wg_iconst (d65_126 L xs) (x := (-1)) (by decide) ?_
        exact wg_iret (d65_127 L xs) rfl rfl ⟨by unfold t_mac m_e2; (repeat' split) <;> first | rfl | (exfalso; omega), rfl⟩
      · refine wg_iload_n (d65_122 L xs) rfl ?_
        refine wg_goto (d65_123 L xs) (t := 127) (by decide) ?_
        exact wg_iret (d65_127 L xs) rfl rfl ⟨by unfold t_mac m_e2; (repeat' split) <;> first | rfl | (exfalso; omega), rfl⟩
  · refine wg_aload_n (d65_14 L xs) rfl ?_
    refine wg_iload_n (d65_15 L xs) rfl ?_
    refine wg_iconst (d65_16 L xs) (x := 2) (by decide) ?_
    refine wg_iadd (d65_17 L xs) ?_
    refine wg_top (y := (nI (i + 2))) (nI_add i 2) ?_
    refine wg_invv (d65_18 L xs) (kd := 7) (mj := 31) (n := 1) rfl (Or.inl rfl) (ys := [.int (nI (i + 2))]) (r := []) rfl rfl H.1 (tx_c H) rfl (Nat.le_of_ble_eq_true rfl) (ts_at H hl (by omega)) ?_
    rintro _ _ ⟨rfl, rfl⟩
    refine wg_istore (d65_21 L xs) (ls' := [some (.ref a), some (.int (nI i)), some (.int (nI j)), some (.int (nI (i + 1))), some (.int (nI (gl l (i + 2))))]) (Nat.le_of_ble_eq_true rfl) rfl ?_
    refine wg_iload (d65_23 L xs) rfl ?_
    refine wg_bipush (d65_25 L xs) (x := 100) (by decide) ?_
    refine wn_icmp_eq (d65_27 L xs) (x := gl l (i + 2)) (y := 100) (by omega) (by omega) (t := 46) (by decide) (fun h4 => ?_) (fun h4 => ?_)
    · refine wg_iload_n (d65_46 L xs) rfl ?_
      refine wg_iconst (d65_47 L xs) (x := 3) (by decide) ?_
      refine wg_iadd (d65_48 L xs) ?_
      refine wg_top (y := (nI (i + 3))) (nI_add i 3) ?_
      refine wg_istore_n (d65_49 L xs) (ls' := [some (.ref a), some (.int (nI i)), some (.int (nI j)), some (.int (nI (i + 3))), some (.int (nI (gl l (i + 2))))]) (Nat.le_of_ble_eq_true rfl) rfl ?_
      refine wg_aload_n (d65_50 L xs) rfl ?_
      refine wg_iload_n (d65_51 L xs) rfl ?_
      refine wg_invv (d65_52 L xs) (kd := 7) (mj := 31) (n := 1) rfl (Or.inl rfl) (ys := [.int (nI (i + 3))]) (r := []) rfl rfl H.1 (tx_c H) rfl (Nat.le_of_ble_eq_true rfl) (ts_at H hl (by omega)) ?_
      rintro _ _ ⟨rfl, rfl⟩
      refine wg_bipush (d65_55 L xs) (x := 49) (by decide) ?_
      refine wn_icmp_lt (d65_57 L xs) (x := gl l (i + 3)) (y := 49) (by omega) (by omega) (t := 73) (by decide) (fun h5 => ?_) (fun h5 => ?_)
      · refine wg_aload_n (d65_73 L xs) rfl ?_
        refine wg_iload_n (d65_74 L xs) rfl ?_
        refine wg_invv (d65_75 L xs) (kd := 7) (mj := 31) (n := 1) rfl (Or.inl rfl) (ys := [.int (nI (i + 3))]) (r := []) rfl rfl H.1 (tx_c H) rfl (Nat.le_of_ble_eq_true rfl) (ts_at H hl (by omega)) ?_
        rintro _ _ ⟨rfl, rfl⟩
        refine wg_bipush (d65_78 L xs) (x := 114) (by decide) ?_
        refine wn_icmp_ne (d65_80 L xs) (x := gl l (i + 3)) (y := 114) (by omega) (by omega) (t := 86) (by decide) (fun h6 => ?_) (fun h6 => ?_)
        · refine wg_iload_n (d65_86 L xs) rfl ?_
          refine wg_iload_n (d65_87 L xs) rfl ?_
          refine wn_icmp_ge (d65_88 L xs) (x := i + 3) (y := j) (by omega) (by omega) (t := 105) (by decide) (fun h7 => ?_) (fun h7 => ?_)
          · refine wg_iconst (d65_105 L xs) (x := (-1)) (by decide) ?_
            exact wg_iret (d65_106 L xs) rfl rfl ⟨by unfold t_mac m_e2; (repeat' split) <;> first | rfl | (exfalso; omega), rfl⟩
          · refine wg_aload_n (d65_91 L xs) rfl ?_
            refine wg_iload_n (d65_92 L xs) rfl ?_
            refine wg_invv (d65_93 L xs) (kd := 7) (mj := 31) (n := 1) rfl (Or.inl rfl) (ys := [.int (nI (i + 3))]) (r := []) rfl rfl H.1 (tx_c H) rfl (Nat.le_of_ble_eq_true rfl) (ts_at H hl (by omega)) ?_
            rintro _ _ ⟨rfl, rfl⟩
            refine wg_bipush (d65_96 L xs) (x := 125) (by decide) ?_
            refine wn_icmp_ne (d65_98 L xs) (x := gl l (i + 3)) (y := 125) (by omega) (by omega) (t := 105) (by decide) (fun h8 => ?_) (fun h8 => ?_)
            · refine wg_iconst (d65_105 L xs) (x := (-1)) (by decide) ?_
              exact wg_iret (d65_106 L xs) rfl rfl ⟨by unfold t_mac m_e2; (repeat' split) <;> first | rfl | (exfalso; omega), rfl⟩
            · refine wg_iload_n (d65_101 L xs) rfl ?_
              refine wg_goto (d65_102 L xs) (t := 106) (by decide) ?_
              exact wg_iret (d65_106 L xs) rfl rfl ⟨by unfold t_mac m_e2; (repeat' split) <;> first | rfl | (exfalso; omega), rfl⟩
        · refine wg_iinc (d65_83 L xs) (y := (nI (i + 4))) (ls' := [some (.ref a), some (.int (nI i)), some (.int (nI j)), some (.int (nI (i + 4))), some (.int (nI (gl l (i + 2))))]) rfl (nI_add (i + 3) 1) rfl ?_
          refine wg_iload_n (d65_86 L xs) rfl ?_
          refine wg_iload_n (d65_87 L xs) rfl ?_
          refine wn_icmp_ge (d65_88 L xs) (x := i + 4) (y := j) (by omega) (by omega) (t := 105) (by decide) (fun h9 => ?_) (fun h9 => ?_)
          · refine wg_iconst (d65_105 L xs) (x := (-1)) (by decide) ?_
            exact wg_iret (d65_106 L xs) rfl rfl ⟨by unfold t_mac m_e2; (repeat' split) <;> first | rfl | (exfalso; omega), rfl⟩
          · refine wg_aload_n (d65_91 L xs) rfl ?_
            refine wg_iload_n (d65_92 L xs) rfl ?_
            refine wg_invv (d65_93 L xs) (kd := 7) (mj := 31) (n := 1) rfl (Or.inl rfl) (ys := [.int (nI (i + 4))]) (r := []) rfl rfl H.1 (tx_c H) rfl (Nat.le_of_ble_eq_true rfl) (ts_at H hl (by omega)) ?_
            rintro _ _ ⟨rfl, rfl⟩
            refine wg_bipush (d65_96 L xs) (x := 125) (by decide) ?_
            refine wn_icmp_ne (d65_98 L xs) (x := gl l (i + 4)) (y := 125) (by omega) (by omega) (t := 105) (by decide) (fun h10 => ?_) (fun h10 => ?_)
            · refine wg_iconst (d65_105 L xs) (x := (-1)) (by decide) ?_
              exact wg_iret (d65_106 L xs) rfl rfl ⟨by unfold t_mac m_e2; (repeat' split) <;> first | rfl | (exfalso; omega), rfl⟩
            · refine wg_iload_n (d65_101 L xs) rfl ?_
              refine wg_goto (d65_102 L xs) (t := 106) (by decide) ?_
              exact wg_iret (d65_106 L xs) rfl rfl ⟨by unfold t_mac m_e2; (repeat' split) <;> first | rfl | (exfalso; omega), rfl⟩
      · refine wg_aload_n (d65_60 L xs) rfl ?_
        refine wg_iload_n (d65_61 L xs) rfl ?_
        refine wg_invv (d65_62 L xs) (kd := 7) (mj := 31) (n := 1) rfl (Or.inl rfl) (ys := [.int (nI (i + 3))]) (r := []) rfl rfl H.1 (tx_c H) rfl (Nat.le_of_ble_eq_true rfl) (ts_at H hl (by omega)) ?_
        rintro _ _ ⟨rfl, rfl⟩
        refine wg_bipush (d65_65 L xs) (x := 57) (by decide) ?_
        refine wn_icmp_gt (d65_67 L xs) (x := gl l (i + 3)) (y := 57) (by omega) (by omega) (t := 73) (by decide) (fun h11 => ?_) (fun h11 => ?_)
        · refine wg_aload_n (d65_73 L xs) rfl ?_
          refine wg_iload_n (d65_74 L xs) rfl ?_
          refine wg_invv (d65_75 L xs) (kd := 7) (mj := 31) (n := 1) rfl (Or.inl rfl) (ys := [.int (nI (i + 3))]) (r := []) rfl rfl H.1 (tx_c H) rfl (Nat.le_of_ble_eq_true rfl) (ts_at H hl (by omega)) ?_
          rintro _ _ ⟨rfl, rfl⟩
          refine wg_bipush (d65_78 L xs) (x := 114) (by decide) ?_
          refine wn_icmp_ne (d65_80 L xs) (x := gl l (i + 3)) (y := 114) (by omega) (by omega) (t := 86) (by decide) (fun h12 => ?_) (fun h12 => ?_)
          · refine wg_iload_n (d65_86 L xs) rfl ?_
            refine wg_iload_n (d65_87 L xs) rfl ?_
            refine wn_icmp_ge (d65_88 L xs) (x := i + 3) (y := j) (by omega) (by omega) (t := 105) (by decide) (fun h13 => ?_) (fun h13 => ?_)
            · refine wg_iconst (d65_105 L xs) (x := (-1)) (by decide) ?_
              exact wg_iret (d65_106 L xs) rfl rfl ⟨by unfold t_mac m_e2; (repeat' split) <;> first | rfl | (exfalso; omega), rfl⟩
            · refine wg_aload_n (d65_91 L xs) rfl ?_
              refine wg_iload_n (d65_92 L xs) rfl ?_
              refine wg_invv (d65_93 L xs) (kd := 7) (mj := 31) (n := 1) rfl (Or.inl rfl) (ys := [.int (nI (i + 3))]) (r := []) rfl rfl H.1 (tx_c H) rfl (Nat.le_of_ble_eq_true rfl) (ts_at H hl (by omega)) ?_
              rintro _ _ ⟨rfl, rfl⟩
              refine wg_bipush (d65_96 L xs) (x := 125) (by decide) ?_
              refine wn_icmp_ne (d65_98 L xs) (x := gl l (i + 3)) (y := 125) (by omega) (by omega) (t := 105) (by decide) (fun h14 => ?_) (fun h14 => ?_)
              · refine wg_iconst (d65_105 L xs) (x := (-1)) (by decide) ?_
                exact wg_iret (d65_106 L xs) rfl rfl ⟨by unfold t_mac m_e2; (repeat' split) <;> first | rfl | (exfalso; omega), rfl⟩
              · refine wg_iload_n (d65_101 L xs) rfl ?_
                refine wg_goto (d65_102 L xs) (t := 106) (by decide) ?_
                exact wg_iret (d65_106 L xs) rfl rfl ⟨by unfold t_mac m_e2; (repeat' split) <;> first | rfl | (exfalso; omega), rfl⟩
          · refine wg_iinc (d65_83 L xs) (y := (nI (i + 4))) (ls' := [some (.ref a), some (.int (nI i)), some (.int (nI j)), some (.int (nI (i + 4))), some (.int (nI (gl l (i + 2))))]) rfl (nI_add (i + 3) 1) rfl ?_
            refine wg_iload_n (d65_86 L xs) rfl ?_
            refine wg_iload_n (d65_87 L xs) rfl ?_
            refine wn_icmp_ge (d65_88 L xs) (x := i + 4) (y := j) (by omega) (by omega) (t := 105) (by decide) (fun h15 => ?_) (fun h15 => ?_)
            · refine wg_iconst (d65_105 L xs) (x := (-1)) (by decide) ?_
              exact wg_iret (d65_106 L xs) rfl rfl ⟨by unfold t_mac m_e2; (repeat' split) <;> first | rfl | (exfalso; omega), rfl⟩
            · refine wg_aload_n (d65_91 L xs) rfl ?_
              refine wg_iload_n (d65_92 L xs) rfl ?_
              refine wg_invv (d65_93 L xs) (kd := 7) (mj := 31) (n := 1) rfl (Or.inl rfl) (ys := [.int (nI (i + 4))]) (r := []) rfl rfl H.1 (tx_c H) rfl (Nat.le_of_ble_eq_true rfl) (ts_at H hl (by omega)) ?_
              rintro _ _ ⟨rfl, rfl⟩
              refine wg_bipush (d65_96 L xs) (x := 125) (by decide) ?_
              refine wn_icmp_ne (d65_98 L xs) (x := gl l (i + 4)) (y := 125) (by omega) (by omega) (t := 105) (by decide) (fun h16 => ?_) (fun h16 => ?_)
              · refine wg_iconst (d65_105 L xs) (x := (-1)) (by decide) ?_
                exact wg_iret (d65_106 L xs) rfl rfl ⟨by unfold t_mac m_e2; (repeat' split) <;> first | rfl | (exfalso; omega), rfl⟩
              · refine wg_iload_n (d65_101 L xs) rfl ?_
                refine wg_goto (d65_102 L xs) (t := 106) (by decide) ?_
                exact wg_iret (d65_106 L xs) rfl rfl ⟨by unfold t_mac m_e2; (repeat' split) <;> first | rfl | (exfalso; omega), rfl⟩
        · refine wg_iinc (d65_70 L xs) (y := (nI (i + 4))) (ls' := [some (.ref a), some (.int (nI i)), some (.int (nI j)), some (.int (nI (i + 4))), some (.int (nI (gl l (i + 2))))]) rfl (nI_add (i + 3) 1) rfl ?_
          refine wg_aload_n (d65_73 L xs) rfl ?_
          refine wg_iload_n (d65_74 L xs) rfl ?_
          refine wg_invv (d65_75 L xs) (kd := 7) (mj := 31) (n := 1) rfl (Or.inl rfl) (ys := [.int (nI (i + 4))]) (r := []) rfl rfl H.1 (tx_c H) rfl (Nat.le_of_ble_eq_true rfl) (ts_at H hl (by omega)) ?_
          rintro _ _ ⟨rfl, rfl⟩
          refine wg_bipush (d65_78 L xs) (x := 114) (by decide) ?_
          refine wn_icmp_ne (d65_80 L xs) (x := gl l (i + 4)) (y := 114) (by omega) (by omega) (t := 86) (by decide) (fun h17 => ?_) (fun h17 => ?_)
          · refine wg_iload_n (d65_86 L xs) rfl ?_
            refine wg_iload_n (d65_87 L xs) rfl ?_
            refine wn_icmp_ge (d65_88 L xs) (x := i + 4) (y := j) (by omega) (by omega) (t := 105) (by decide) (fun h18 => ?_) (fun h18 => ?_)
            · refine wg_iconst (d65_105 L xs) (x := (-1)) (by decide) ?_
              exact wg_iret (d65_106 L xs) rfl rfl ⟨by unfold t_mac m_e2; (repeat' split) <;> first | rfl | (exfalso; omega), rfl⟩
            · refine wg_aload_n (d65_91 L xs) rfl ?_
              refine wg_iload_n (d65_92 L xs) rfl ?_
              refine wg_invv (d65_93 L xs) (kd := 7) (mj := 31) (n := 1) rfl (Or.inl rfl) (ys := [.int (nI (i + 4))]) (r := []) rfl rfl H.1 (tx_c H) rfl (Nat.le_of_ble_eq_true rfl) (ts_at H hl (by omega)) ?_
              rintro _ _ ⟨rfl, rfl⟩
              refine wg_bipush (d65_96 L xs) (x := 125) (by decide) ?_
              refine wn_icmp_ne (d65_98 L xs) (x := gl l (i + 4)) (y := 125) (by omega) (by omega) (t := 105) (by decide) (fun h19 => ?_) (fun h19 => ?_)
              · refine wg_iconst (d65_105 L xs) (x := (-1)) (by decide) ?_
                exact wg_iret (d65_106 L xs) rfl rfl ⟨by unfold t_mac m_e2; (repeat' split) <;> first | rfl | (exfalso; omega), rfl⟩
              · refine wg_iload_n (d65_101 L xs) rfl ?_
                refine wg_goto (d65_102 L xs) (t := 106) (by decide) ?_
                exact wg_iret (d65_106 L xs) rfl rfl ⟨by unfold t_mac m_e2; (repeat' split) <;> first | rfl | (exfalso; omega), rfl⟩
          · refine wg_iinc (d65_83 L xs) (y := (nI (i + 5))) (ls' := [some (.ref a), some (.int (nI i)), some (.int (nI j)), some (.int (nI (i + 5))), some (.int (nI (gl l (i + 2))))]) rfl (nI_add (i + 4) 1) rfl ?_
            refine wg_iload_n (d65_86 L xs) rfl ?_
            refine wg_iload_n (d65_87 L xs) rfl ?_
            refine wn_icmp_ge (d65_88 L xs) (x := i + 5) (y := j) (by omega) (by omega) (t := 105) (by decide) (fun h20 => ?_) (fun h20 => ?_)
            · refine wg_iconst (d65_105 L xs) (x := (-1)) (by decide) ?_
              exact wg_iret (d65_106 L xs) rfl rfl ⟨by unfold t_mac m_e2; (repeat' split) <;> first | rfl | (exfalso; omega), rfl⟩
            · refine wg_aload_n (d65_91 L xs) rfl ?_
              refine wg_iload_n (d65_92 L xs) rfl ?_
              refine wg_invv (d65_93 L xs) (kd := 7) (mj := 31) (n := 1) rfl (Or.inl rfl) (ys := [.int (nI (i + 5))]) (r := []) rfl rfl H.1 (tx_c H) rfl (Nat.le_of_ble_eq_true rfl) (ts_at H hl (by omega)) ?_
              rintro _ _ ⟨rfl, rfl⟩
              refine wg_bipush (d65_96 L xs) (x := 125) (by decide) ?_
              refine wn_icmp_ne (d65_98 L xs) (x := gl l (i + 5)) (y := 125) (by omega) (by omega) (t := 105) (by decide) (fun h21 => ?_) (fun h21 => ?_)
              · refine wg_iconst (d65_105 L xs) (x := (-1)) (by decide) ?_
                exact wg_iret (d65_106 L xs) rfl rfl ⟨by unfold t_mac m_e2; (repeat' split) <;> first | rfl | (exfalso; omega), rfl⟩
              · refine wg_iload_n (d65_101 L xs) rfl ?_
                refine wg_goto (d65_102 L xs) (t := 106) (by decide) ?_
                exact wg_iret (d65_106 L xs) rfl rfl ⟨by unfold t_mac m_e2; (repeat' split) <;> first | rfl | (exfalso; omega), rfl⟩
    · refine wg_iload (d65_30 L xs) rfl ?_
      refine wg_bipush (d65_32 L xs) (x := 105) (by decide) ?_
      refine wn_icmp_eq (d65_34 L xs) (x := gl l (i + 2)) (y := 105) (by omega) (by omega) (t := 46) (by decide) (fun h22 => ?_) (fun h22 => ?_)
      · refine wg_iload_n (d65_46 L xs) rfl ?_
        refine wg_iconst (d65_47 L xs) (x := 3) (by decide) ?_
        refine wg_iadd (d65_48 L xs) ?_
        refine wg_top (y := (nI (i + 3))) (nI_add i 3) ?_
        refine wg_istore_n (d65_49 L xs) (ls' := [some (.ref a), some (.int (nI i)), some (.int (nI j)), some (.int (nI (i + 3))), some (.int (nI (gl l (i + 2))))]) (Nat.le_of_ble_eq_true rfl) rfl ?_
        refine wg_aload_n (d65_50 L xs) rfl ?_
        refine wg_iload_n (d65_51 L xs) rfl ?_
        refine wg_invv (d65_52 L xs) (kd := 7) (mj := 31) (n := 1) rfl (Or.inl rfl) (ys := [.int (nI (i + 3))]) (r := []) rfl rfl H.1 (tx_c H) rfl (Nat.le_of_ble_eq_true rfl) (ts_at H hl (by omega)) ?_
        rintro _ _ ⟨rfl, rfl⟩
        refine wg_bipush (d65_55 L xs) (x := 49) (by decide) ?_
        refine wn_icmp_lt (d65_57 L xs) (x := gl l (i + 3)) (y := 49) (by omega) (by omega) (t := 73) (by decide) (fun h23 => ?_) (fun h23 => ?_)
        · refine wg_aload_n (d65_73 L xs) rfl ?_
          refine wg_iload_n (d65_74 L xs) rfl ?_
          refine wg_invv (d65_75 L xs) (kd := 7) (mj := 31) (n := 1) rfl (Or.inl rfl) (ys := [.int (nI (i + 3))]) (r := []) rfl rfl H.1 (tx_c H) rfl (Nat.le_of_ble_eq_true rfl) (ts_at H hl (by omega)) ?_
          rintro _ _ ⟨rfl, rfl⟩
          refine wg_bipush (d65_78 L xs) (x := 114) (by decide) ?_
          refine wn_icmp_ne (d65_80 L xs) (x := gl l (i + 3)) (y := 114) (by omega) (by omega) (t := 86) (by decide) (fun h24 => ?_) (fun h24 => ?_)
          · refine wg_iload_n (d65_86 L xs) rfl ?_
            refine wg_iload_n (d65_87 L xs) rfl ?_
            refine wn_icmp_ge (d65_88 L xs) (x := i + 3) (y := j) (by omega) (by omega) (t := 105) (by decide) (fun h25 => ?_) (fun h25 => ?_)
            · refine wg_iconst (d65_105 L xs) (x := (-1)) (by decide) ?_
              exact wg_iret (d65_106 L xs) rfl rfl ⟨by unfold t_mac m_e2; (repeat' split) <;> first | rfl | (exfalso; omega), rfl⟩
            · refine wg_aload_n (d65_91 L xs) rfl ?_
              refine wg_iload_n (d65_92 L xs) rfl ?_
              refine wg_invv (d65_93 L xs) (kd := 7) (mj := 31) (n := 1) rfl (Or.inl rfl) (ys := [.int (nI (i + 3))]) (r := []) rfl rfl H.1 (tx_c H) rfl (Nat.le_of_ble_eq_true rfl) (ts_at H hl (by omega)) ?_
              rintro _ _ ⟨rfl, rfl⟩
              refine wg_bipush (d65_96 L xs) (x := 125) (by decide) ?_
              refine wn_icmp_ne (d65_98 L xs) (x := gl l (i + 3)) (y := 125) (by omega) (by omega) (t := 105) (by decide) (fun h26 => ?_) (fun h26 => ?_)
              · refine wg_iconst (d65_105 L xs) (x := (-1)) (by decide) ?_
                exact wg_iret (d65_106 L xs) rfl rfl ⟨by unfold t_mac m_e2; (repeat' split) <;> first | rfl | (exfalso; omega), rfl⟩
              · refine wg_iload_n (d65_101 L xs) rfl ?_
                refine wg_goto (d65_102 L xs) (t := 106) (by decide) ?_
                exact wg_iret (d65_106 L xs) rfl rfl ⟨by unfold t_mac m_e2; (repeat' split) <;> first | rfl | (exfalso; omega), rfl⟩
          · refine wg_iinc (d65_83 L xs) (y := (nI (i + 4))) (ls' := [some (.ref a), some (.int (nI i)), some (.int (nI j)), some (.int (nI (i + 4))), some (.int (nI (gl l (i + 2))))]) rfl (nI_add (i + 3) 1) rfl ?_
            refine wg_iload_n (d65_86 L xs) rfl ?_
            refine wg_iload_n (d65_87 L xs) rfl ?_
            refine wn_icmp_ge (d65_88 L xs) (x := i + 4) (y := j) (by omega) (by omega) (t := 105) (by decide) (fun h27 => ?_) (fun h27 => ?_)
            · refine wg_iconst (d65_105 L xs) (x := (-1)) (by decide) ?_
              exact wg_iret (d65_106 L xs) rfl rfl ⟨by unfold t_mac m_e2; (repeat' split) <;> first | rfl | (exfalso; omega), rfl⟩
            · refine wg_aload_n (d65_91 L xs) rfl ?_
              refine wg_iload_n (d65_92 L xs) rfl ?_
              refine wg_invv (d65_93 L xs) (kd := 7) (mj := 31) (n := 1) rfl (Or.inl rfl) (ys := [.int (nI (i + 4))]) (r := []) rfl rfl H.1 (tx_c H) rfl (Nat.le_of_ble_eq_true rfl) (ts_at H hl (by omega)) ?_
              rintro _ _ ⟨rfl, rfl⟩
              refine wg_bipush (d65_96 L xs) (x := 125) (by decide) ?_
              refine wn_icmp_ne (d65_98 L xs) (x := gl l (i + 4)) (y := 125) (by omega) (by omega) (t := 105) (by decide) (fun h28 => ?_) (fun h28 => ?_)
              · refine wg_iconst (d65_105 L xs) (x := (-1)) (by decide) ?_
                exact wg_iret (d65_106 L xs) rfl rfl ⟨by unfold t_mac m_e2; (repeat' split) <;> first | rfl | (exfalso; omega), rfl⟩
              · refine wg_iload_n (d65_101 L xs) rfl ?_
                refine wg_goto (d65_102 L xs) (t := 106) (by decide) ?_
                exact wg_iret (d65_106 L xs) rfl rfl ⟨by unfold t_mac m_e2; (repeat' split) <;> first | rfl | (exfalso; omega), rfl⟩
        · refine wg_aload_n (d65_60 L xs) rfl ?_
          refine wg_iload_n (d65_61 L xs) rfl ?_
          refine wg_invv (d65_62 L xs) (kd := 7) (mj := 31) (n := 1) rfl (Or.inl rfl) (ys := [.int (nI (i + 3))]) (r := []) rfl rfl H.1 (tx_c H) rfl (Nat.le_of_ble_eq_true rfl) (ts_at H hl (by omega)) ?_
          rintro _ _ ⟨rfl, rfl⟩
          refine wg_bipush (d65_65 L xs) (x := 57) (by decide) ?_
          refine wn_icmp_gt (d65_67 L xs) (x := gl l (i + 3)) (y := 57) (by omega) (by omega) (t := 73) (by decide) (fun h29 => ?_) (fun h29 => ?_)
          · refine wg_aload_n (d65_73 L xs) rfl ?_
            refine wg_iload_n (d65_74 L xs) rfl ?_
            refine wg_invv (d65_75 L xs) (kd := 7) (mj := 31) (n := 1) rfl (Or.inl rfl) (ys := [.int (nI (i + 3))]) (r := []) rfl rfl H.1 (tx_c H) rfl (Nat.le_of_ble_eq_true rfl) (ts_at H hl (by omega)) ?_
            rintro _ _ ⟨rfl, rfl⟩
            refine wg_bipush (d65_78 L xs) (x := 114) (by decide) ?_
            refine wn_icmp_ne (d65_80 L xs) (x := gl l (i + 3)) (y := 114) (by omega) (by omega) (t := 86) (by decide) (fun h30 => ?_) (fun h30 => ?_)
            · refine wg_iload_n (d65_86 L xs) rfl ?_
              refine wg_iload_n (d65_87 L xs) rfl ?_
              refine wn_icmp_ge (d65_88 L xs) (x := i + 3) (y := j) (by omega) (by omega) (t := 105) (by decide) (fun h31 => ?_) (fun h31 => ?_)
              · refine wg_iconst (d65_105 L xs) (x := (-1)) (by decide) ?_
                exact wg_iret (d65_106 L xs) rfl rfl ⟨by unfold t_mac m_e2; (repeat' split) <;> first | rfl | (exfalso; omega), rfl⟩
              · refine wg_aload_n (d65_91 L xs) rfl ?_
                refine wg_iload_n (d65_92 L xs) rfl ?_
                refine wg_invv (d65_93 L xs) (kd := 7) (mj := 31) (n := 1) rfl (Or.inl rfl) (ys := [.int (nI (i + 3))]) (r := []) rfl rfl H.1 (tx_c H) rfl (Nat.le_of_ble_eq_true rfl) (ts_at H hl (by omega)) ?_
                rintro _ _ ⟨rfl, rfl⟩
                refine wg_bipush (d65_96 L xs) (x := 125) (by decide) ?_
                refine wn_icmp_ne (d65_98 L xs) (x := gl l (i + 3)) (y := 125) (by omega) (by omega) (t := 105) (by decide) (fun h32 => ?_) (fun h32 => ?_)
                · refine wg_iconst (d65_105 L xs) (x := (-1)) (by decide) ?_
                  exact wg_iret (d65_106 L xs) rfl rfl ⟨by unfold t_mac m_e2; (repeat' split) <;> first | rfl | (exfalso; omega), rfl⟩
                · refine wg_iload_n (d65_101 L xs) rfl ?_
                  refine wg_goto (d65_102 L xs) (t := 106) (by decide) ?_
                  exact wg_iret (d65_106 L xs) rfl rfl ⟨by unfold t_mac m_e2; (repeat' split) <;> first | rfl | (exfalso; omega), rfl⟩
            · refine wg_iinc (d65_83 L xs) (y := (nI (i + 4))) (ls' := [some (.ref a), some (.int (nI i)), some (.int (nI j)), some (.int (nI (i + 4))), some (.int (nI (gl l (i + 2))))]) rfl (nI_add (i + 3) 1) rfl ?_
              refine wg_iload_n (d65_86 L xs) rfl ?_
              refine wg_iload_n (d65_87 L xs) rfl ?_
              refine wn_icmp_ge (d65_88 L xs) (x := i + 4) (y := j) (by omega) (by omega) (t := 105) (by decide) (fun h33 => ?_) (fun h33 => ?_)
              · refine wg_iconst (d65_105 L xs) (x := (-1)) (by decide) ?_
                exact wg_iret (d65_106 L xs) rfl rfl ⟨by unfold t_mac m_e2; (repeat' split) <;> first | rfl | (exfalso; omega), rfl⟩
              · refine wg_aload_n (d65_91 L xs) rfl ?_
                refine wg_iload_n (d65_92 L xs) rfl ?_
                refine wg_invv (d65_93 L xs) (kd := 7) (mj := 31) (n := 1) rfl (Or.inl rfl) (ys := [.int (nI (i + 4))]) (r := []) rfl rfl H.1 (tx_c H) rfl (Nat.le_of_ble_eq_true rfl) (ts_at H hl (by omega)) ?_
                rintro _ _ ⟨rfl, rfl⟩
                refine wg_bipush (d65_96 L xs) (x := 125) (by decide) ?_
                refine wn_icmp_ne (d65_98 L xs) (x := gl l (i + 4)) (y := 125) (by omega) (by omega) (t := 105) (by decide) (fun h34 => ?_) (fun h34 => ?_)
                · refine wg_iconst (d65_105 L xs) (x := (-1)) (by decide) ?_
                  exact wg_iret (d65_106 L xs) rfl rfl ⟨by unfold t_mac m_e2; (repeat' split) <;> first | rfl | (exfalso; omega), rfl⟩
                · refine wg_iload_n (d65_101 L xs) rfl ?_
                  refine wg_goto (d65_102 L xs) (t := 106) (by decide) ?_
                  exact wg_iret (d65_106 L xs) rfl rfl ⟨by unfold t_mac m_e2; (repeat' split) <;> first | rfl | (exfalso; omega), rfl⟩
          · refine wg_iinc (d65_70 L xs) (y := (nI (i + 4))) (ls' := [some (.ref a), some (.int (nI i)), some (.int (nI j)), some (.int (nI (i + 4))), some (.int (nI (gl l (i + 2))))]) rfl (nI_add (i + 3) 1) rfl ?_
            refine wg_aload_n (d65_73 L xs) rfl ?_
            refine wg_iload_n (d65_74 L xs) rfl ?_
            refine wg_invv (d65_75 L xs) (kd := 7) (mj := 31) (n := 1) rfl (Or.inl rfl) (ys := [.int (nI (i + 4))]) (r := []) rfl rfl H.1 (tx_c H) rfl (Nat.le_of_ble_eq_true rfl) (ts_at H hl (by omega)) ?_
            rintro _ _ ⟨rfl, rfl⟩
            refine wg_bipush (d65_78 L xs) (x := 114) (by decide) ?_
            refine wn_icmp_ne (d65_80 L xs) (x := gl l (i + 4)) (y := 114) (by omega) (by omega) (t := 86) (by decide) (fun h35 => ?_) (fun h35 => ?_)
            · refine wg_iload_n (d65_86 L xs) rfl ?_
              refine wg_iload_n (d65_87 L xs) rfl ?_
              refine wn_icmp_ge (d65_88 L xs) (x := i + 4) (y := j) (by omega) (by omega) (t := 105) (by decide) (fun h36 => ?_) (fun h36 => ?_)
              · refine wg_iconst (d65_105 L xs) (x := (-1)) (by decide) ?_
                exact wg_iret (d65_106 L xs) rfl rfl ⟨by unfold t_mac m_e2; (repeat' split) <;> first | rfl | (exfalso; omega), rfl⟩
              · refine wg_aload_n (d65_91 L xs) rfl ?_
                refine wg_iload_n (d65_92 L xs) rfl ?_
                refine wg_invv (d65_93 L xs) (kd := 7) (mj := 31) (n := 1) rfl (Or.inl rfl) (ys := [.int (nI (i + 4))]) (r := []) rfl rfl H.1 (tx_c H) rfl (Nat.le_of_ble_eq_true rfl) (ts_at H hl (by omega)) ?_
                rintro _ _ ⟨rfl, rfl⟩
                refine wg_bipush (d65_96 L xs) (x := 125) (by decide) ?_
                refine wn_icmp_ne (d65_98 L xs) (x := gl l (i + 4)) (y := 125) (by omega) (by omega) (t := 105) (by decide) (fun h37 => ?_) (fun h37 => ?_)
                · refine wg_iconst (d65_105 L xs) (x := (-1)) (by decide) ?_
                  exact wg_iret (d65_106 L xs) rfl rfl ⟨by unfold t_mac m_e2; (repeat' split) <;> first | rfl | (exfalso; omega), rfl⟩
                · refine wg_iload_n (d65_101 L xs) rfl ?_
                  refine wg_goto (d65_102 L xs) (t := 106) (by decide) ?_
                  exact wg_iret (d65_106 L xs) rfl rfl ⟨by unfold t_mac m_e2; (repeat' split) <;> first | rfl | (exfalso; omega), rfl⟩
            · refine wg_iinc (d65_83 L xs) (y := (nI (i + 5))) (ls' := [some (.ref a), some (.int (nI i)), some (.int (nI j)), some (.int (nI (i + 5))), some (.int (nI (gl l (i + 2))))]) rfl (nI_add (i + 4) 1) rfl ?_
              refine wg_iload_n (d65_86 L xs) rfl ?_
              refine wg_iload_n (d65_87 L xs) rfl ?_
              refine wn_icmp_ge (d65_88 L xs) (x := i + 5) (y := j) (by omega) (by omega) (t := 105) (by decide) (fun h38 => ?_) (fun h38 => ?_)
              · refine wg_iconst (d65_105 L xs) (x := (-1)) (by decide) ?_
                exact wg_iret (d65_106 L xs) rfl rfl ⟨by unfold t_mac m_e2; (repeat' split) <;> first | rfl | (exfalso; omega), rfl⟩
              · refine wg_aload_n (d65_91 L xs) rfl ?_
                refine wg_iload_n (d65_92 L xs) rfl ?_
                refine wg_invv (d65_93 L xs) (kd := 7) (mj := 31) (n := 1) rfl (Or.inl rfl) (ys := [.int (nI (i + 5))]) (r := []) rfl rfl H.1 (tx_c H) rfl (Nat.le_of_ble_eq_true rfl) (ts_at H hl (by omega)) ?_
                rintro _ _ ⟨rfl, rfl⟩
                refine wg_bipush (d65_96 L xs) (x := 125) (by decide) ?_
                refine wn_icmp_ne (d65_98 L xs) (x := gl l (i + 5)) (y := 125) (by omega) (by omega) (t := 105) (by decide) (fun h39 => ?_) (fun h39 => ?_)
                · refine wg_iconst (d65_105 L xs) (x := (-1)) (by decide) ?_
                  exact wg_iret (d65_106 L xs) rfl rfl ⟨by unfold t_mac m_e2; (repeat' split) <;> first | rfl | (exfalso; omega), rfl⟩
                · refine wg_iload_n (d65_101 L xs) rfl ?_
                  refine wg_goto (d65_102 L xs) (t := 106) (by decide) ?_
                  exact wg_iret (d65_106 L xs) rfl rfl ⟨by unfold t_mac m_e2; (repeat' split) <;> first | rfl | (exfalso; omega), rfl⟩
      · refine wg_iload (d65_37 L xs) rfl ?_
        refine wg_bipush (d65_39 L xs) (x := 111) (by decide) ?_
        refine wn_icmp_eq (d65_41 L xs) (x := gl l (i + 2)) (y := 111) (by omega) (by omega) (t := 46) (by decide) (fun h40 => ?_) (fun h40 => ?_)
        · refine wg_iload_n (d65_46 L xs) rfl ?_
          refine wg_iconst (d65_47 L xs) (x := 3) (by decide) ?_
          refine wg_iadd (d65_48 L xs) ?_
          refine wg_top (y := (nI (i + 3))) (nI_add i 3) ?_
          refine wg_istore_n (d65_49 L xs) (ls' := [some (.ref a), some (.int (nI i)), some (.int (nI j)), some (.int (nI (i + 3))), some (.int (nI (gl l (i + 2))))]) (Nat.le_of_ble_eq_true rfl) rfl ?_
          refine wg_aload_n (d65_50 L xs) rfl ?_
          refine wg_iload_n (d65_51 L xs) rfl ?_
          refine wg_invv (d65_52 L xs) (kd := 7) (mj := 31) (n := 1) rfl (Or.inl rfl) (ys := [.int (nI (i + 3))]) (r := []) rfl rfl H.1 (tx_c H) rfl (Nat.le_of_ble_eq_true rfl) (ts_at H hl (by omega)) ?_
          rintro _ _ ⟨rfl, rfl⟩
          refine wg_bipush (d65_55 L xs) (x := 49) (by decide) ?_
          refine wn_icmp_lt (d65_57 L xs) (x := gl l (i + 3)) (y := 49) (by omega) (by omega) (t := 73) (by decide) (fun h41 => ?_) (fun h41 => ?_)
          · refine wg_aload_n (d65_73 L xs) rfl ?_
            refine wg_iload_n (d65_74 L xs) rfl ?_
            refine wg_invv (d65_75 L xs) (kd := 7) (mj := 31) (n := 1) rfl (Or.inl rfl) (ys := [.int (nI (i + 3))]) (r := []) rfl rfl H.1 (tx_c H) rfl (Nat.le_of_ble_eq_true rfl) (ts_at H hl (by omega)) ?_
            rintro _ _ ⟨rfl, rfl⟩
            refine wg_bipush (d65_78 L xs) (x := 114) (by decide) ?_
            refine wn_icmp_ne (d65_80 L xs) (x := gl l (i + 3)) (y := 114) (by omega) (by omega) (t := 86) (by decide) (fun h42 => ?_) (fun h42 => ?_)
            · refine wg_iload_n (d65_86 L xs) rfl ?_
              refine wg_iload_n (d65_87 L xs) rfl ?_
              refine wn_icmp_ge (d65_88 L xs) (x := i + 3) (y := j) (by omega) (by omega) (t := 105) (by decide) (fun h43 => ?_) (fun h43 => ?_)
              · refine wg_iconst (d65_105 L xs) (x := (-1)) (by decide) ?_
                exact wg_iret (d65_106 L xs) rfl rfl ⟨by unfold t_mac m_e2; (repeat' split) <;> first | rfl | (exfalso; omega), rfl⟩
              · refine wg_aload_n (d65_91 L xs) rfl ?_
                refine wg_iload_n (d65_92 L xs) rfl ?_
                refine wg_invv (d65_93 L xs) (kd := 7) (mj := 31) (n := 1) rfl (Or.inl rfl) (ys := [.int (nI (i + 3))]) (r := []) rfl rfl H.1 (tx_c H) rfl (Nat.le_of_ble_eq_true rfl) (ts_at H hl (by omega)) ?_
                rintro _ _ ⟨rfl, rfl⟩
                refine wg_bipush (d65_96 L xs) (x := 125) (by decide) ?_
                refine wn_icmp_ne (d65_98 L xs) (x := gl l (i + 3)) (y := 125) (by omega) (by omega) (t := 105) (by decide) (fun h44 => ?_) (fun h44 => ?_)
                · refine wg_iconst (d65_105 L xs) (x := (-1)) (by decide) ?_
                  exact wg_iret (d65_106 L xs) rfl rfl ⟨by unfold t_mac m_e2; (repeat' split) <;> first | rfl | (exfalso; omega), rfl⟩
                · refine wg_iload_n (d65_101 L xs) rfl ?_
                  refine wg_goto (d65_102 L xs) (t := 106) (by decide) ?_
                  exact wg_iret (d65_106 L xs) rfl rfl ⟨by unfold t_mac m_e2; (repeat' split) <;> first | rfl | (exfalso; omega), rfl⟩
            · refine wg_iinc (d65_83 L xs) (y := (nI (i + 4))) (ls' := [some (.ref a), some (.int (nI i)), some (.int (nI j)), some (.int (nI (i + 4))), some (.int (nI (gl l (i + 2))))]) rfl (nI_add (i + 3) 1) rfl ?_
              refine wg_iload_n (d65_86 L xs) rfl ?_
              refine wg_iload_n (d65_87 L xs) rfl ?_
              refine wn_icmp_ge (d65_88 L xs) (x := i + 4) (y := j) (by omega) (by omega) (t := 105) (by decide) (fun h45 => ?_) (fun h45 => ?_)
              · refine wg_iconst (d65_105 L xs) (x := (-1)) (by decide) ?_
                exact wg_iret (d65_106 L xs) rfl rfl ⟨by unfold t_mac m_e2; (repeat' split) <;> first | rfl | (exfalso; omega), rfl⟩
              · refine wg_aload_n (d65_91 L xs) rfl ?_
                refine wg_iload_n (d65_92 L xs) rfl ?_
                refine wg_invv (d65_93 L xs) (kd := 7) (mj := 31) (n := 1) rfl (Or.inl rfl) (ys := [.int (nI (i + 4))]) (r := []) rfl rfl H.1 (tx_c H) rfl (Nat.le_of_ble_eq_true rfl) (ts_at H hl (by omega)) ?_
                rintro _ _ ⟨rfl, rfl⟩
                refine wg_bipush (d65_96 L xs) (x := 125) (by decide) ?_
                refine wn_icmp_ne (d65_98 L xs) (x := gl l (i + 4)) (y := 125) (by omega) (by omega) (t := 105) (by decide) (fun h46 => ?_) (fun h46 => ?_)
                · refine wg_iconst (d65_105 L xs) (x := (-1)) (by decide) ?_
                  exact wg_iret (d65_106 L xs) rfl rfl ⟨by unfold t_mac m_e2; (repeat' split) <;> first | rfl | (exfalso; omega), rfl⟩
                · refine wg_iload_n (d65_101 L xs) rfl ?_
                  refine wg_goto (d65_102 L xs) (t := 106) (by decide) ?_
                  exact wg_iret (d65_106 L xs) rfl rfl ⟨by unfold t_mac m_e2; (repeat' split) <;> first | rfl | (exfalso; omega), rfl⟩
          · refine wg_aload_n (d65_60 L xs) rfl ?_
            refine wg_iload_n (d65_61 L xs) rfl ?_
            refine wg_invv (d65_62 L xs) (kd := 7) (mj := 31) (n := 1) rfl (Or.inl rfl) (ys := [.int (nI (i + 3))]) (r := []) rfl rfl H.1 (tx_c H) rfl (Nat.le_of_ble_eq_true rfl) (ts_at H hl (by omega)) ?_
            rintro _ _ ⟨rfl, rfl⟩
            refine wg_bipush (d65_65 L xs) (x := 57) (by decide) ?_
            refine wn_icmp_gt (d65_67 L xs) (x := gl l (i + 3)) (y := 57) (by omega) (by omega) (t := 73) (by decide) (fun h47 => ?_) (fun h47 => ?_)
            · refine wg_aload_n (d65_73 L xs) rfl ?_
              refine wg_iload_n (d65_74 L xs) rfl ?_
              refine wg_invv (d65_75 L xs) (kd := 7) (mj := 31) (n := 1) rfl (Or.inl rfl) (ys := [.int (nI (i + 3))]) (r := []) rfl rfl H.1 (tx_c H) rfl (Nat.le_of_ble_eq_true rfl) (ts_at H hl (by omega)) ?_
              rintro _ _ ⟨rfl, rfl⟩
              refine wg_bipush (d65_78 L xs) (x := 114) (by decide) ?_
              refine wn_icmp_ne (d65_80 L xs) (x := gl l (i + 3)) (y := 114) (by omega) (by omega) (t := 86) (by decide) (fun h48 => ?_) (fun h48 => ?_)
              · refine wg_iload_n (d65_86 L xs) rfl ?_
                refine wg_iload_n (d65_87 L xs) rfl ?_
                refine wn_icmp_ge (d65_88 L xs) (x := i + 3) (y := j) (by omega) (by omega) (t := 105) (by decide) (fun h49 => ?_) (fun h49 => ?_)
                · refine wg_iconst (d65_105 L xs) (x := (-1)) (by decide) ?_
                  exact wg_iret (d65_106 L xs) rfl rfl ⟨by unfold t_mac m_e2; (repeat' split) <;> first | rfl | (exfalso; omega), rfl⟩
                · refine wg_aload_n (d65_91 L xs) rfl ?_
                  refine wg_iload_n (d65_92 L xs) rfl ?_
                  refine wg_invv (d65_93 L xs) (kd := 7) (mj := 31) (n := 1) rfl (Or.inl rfl) (ys := [.int (nI (i + 3))]) (r := []) rfl rfl H.1 (tx_c H) rfl (Nat.le_of_ble_eq_true rfl) (ts_at H hl (by omega)) ?_
                  rintro _ _ ⟨rfl, rfl⟩
                  refine wg_bipush (d65_96 L xs) (x := 125) (by decide) ?_
                  refine wn_icmp_ne (d65_98 L xs) (x := gl l (i + 3)) (y := 125) (by omega) (by omega) (t := 105) (by decide) (fun h50 => ?_) (fun h50 => ?_)
                  · refine wg_iconst (d65_105 L xs) (x := (-1)) (by decide) ?_
                    exact wg_iret (d65_106 L xs) rfl rfl ⟨by unfold t_mac m_e2; (repeat' split) <;> first | rfl | (exfalso; omega), rfl⟩
                  · refine wg_iload_n (d65_101 L xs) rfl ?_
                    refine wg_goto (d65_102 L xs) (t := 106) (by decide) ?_
                    exact wg_iret (d65_106 L xs) rfl rfl ⟨by unfold t_mac m_e2; (repeat' split) <;> first | rfl | (exfalso; omega), rfl⟩
              · refine wg_iinc (d65_83 L xs) (y := (nI (i + 4))) (ls' := [some (.ref a), some (.int (nI i)), some (.int (nI j)), some (.int (nI (i + 4))), some (.int (nI (gl l (i + 2))))]) rfl (nI_add (i + 3) 1) rfl ?_
                refine wg_iload_n (d65_86 L xs) rfl ?_
                refine wg_iload_n (d65_87 L xs) rfl ?_
                refine wn_icmp_ge (d65_88 L xs) (x := i + 4) (y := j) (by omega) (by omega) (t := 105) (by decide) (fun h51 => ?_) (fun h51 => ?_)
                · refine wg_iconst (d65_105 L xs) (x := (-1)) (by decide) ?_
                  exact wg_iret (d65_106 L xs) rfl rfl ⟨by unfold t_mac m_e2; (repeat' split) <;> first | rfl | (exfalso; omega), rfl⟩
                · refine wg_aload_n (d65_91 L xs) rfl ?_
                  refine wg_iload_n (d65_92 L xs) rfl ?_
                  refine wg_invv (d65_93 L xs) (kd := 7) (mj := 31) (n := 1) rfl (Or.inl rfl) (ys := [.int (nI (i + 4))]) (r := []) rfl rfl H.1 (tx_c H) rfl (Nat.le_of_ble_eq_true rfl) (ts_at H hl (by omega)) ?_
                  rintro _ _ ⟨rfl, rfl⟩
                  refine wg_bipush (d65_96 L xs) (x := 125) (by decide) ?_
                  refine wn_icmp_ne (d65_98 L xs) (x := gl l (i + 4)) (y := 125) (by omega) (by omega) (t := 105) (by decide) (fun h52 => ?_) (fun h52 => ?_)
                  · refine wg_iconst (d65_105 L xs) (x := (-1)) (by decide) ?_
                    exact wg_iret (d65_106 L xs) rfl rfl ⟨by unfold t_mac m_e2; (repeat' split) <;> first | rfl | (exfalso; omega), rfl⟩
                  · refine wg_iload_n (d65_101 L xs) rfl ?_
                    refine wg_goto (d65_102 L xs) (t := 106) (by decide) ?_
                    exact wg_iret (d65_106 L xs) rfl rfl ⟨by unfold t_mac m_e2; (repeat' split) <;> first | rfl | (exfalso; omega), rfl⟩
            · refine wg_iinc (d65_70 L xs) (y := (nI (i + 4))) (ls' := [some (.ref a), some (.int (nI i)), some (.int (nI j)), some (.int (nI (i + 4))), some (.int (nI (gl l (i + 2))))]) rfl (nI_add (i + 3) 1) rfl ?_
              refine wg_aload_n (d65_73 L xs) rfl ?_
              refine wg_iload_n (d65_74 L xs) rfl ?_
              refine wg_invv (d65_75 L xs) (kd := 7) (mj := 31) (n := 1) rfl (Or.inl rfl) (ys := [.int (nI (i + 4))]) (r := []) rfl rfl H.1 (tx_c H) rfl (Nat.le_of_ble_eq_true rfl) (ts_at H hl (by omega)) ?_
              rintro _ _ ⟨rfl, rfl⟩
              refine wg_bipush (d65_78 L xs) (x := 114) (by decide) ?_
              refine wn_icmp_ne (d65_80 L xs) (x := gl l (i + 4)) (y := 114) (by omega) (by omega) (t := 86) (by decide) (fun h53 => ?_) (fun h53 => ?_)
              · refine wg_iload_n (d65_86 L xs) rfl ?_
                refine wg_iload_n (d65_87 L xs) rfl ?_
                refine wn_icmp_ge (d65_88 L xs) (x := i + 4) (y := j) (by omega) (by omega) (t := 105) (by decide) (fun h54 => ?_) (fun h54 => ?_)
                · refine wg_iconst (d65_105 L xs) (x := (-1)) (by decide) ?_
                  exact wg_iret (d65_106 L xs) rfl rfl ⟨by unfold t_mac m_e2; (repeat' split) <;> first | rfl | (exfalso; omega), rfl⟩
                · refine wg_aload_n (d65_91 L xs) rfl ?_
                  refine wg_iload_n (d65_92 L xs) rfl ?_
                  refine wg_invv (d65_93 L xs) (kd := 7) (mj := 31) (n := 1) rfl (Or.inl rfl) (ys := [.int (nI (i + 4))]) (r := []) rfl rfl H.1 (tx_c H) rfl (Nat.le_of_ble_eq_true rfl) (ts_at H hl (by omega)) ?_
                  rintro _ _ ⟨rfl, rfl⟩
                  refine wg_bipush (d65_96 L xs) (x := 125) (by decide) ?_
                  refine wn_icmp_ne (d65_98 L xs) (x := gl l (i + 4)) (y := 125) (by omega) (by omega) (t := 105) (by decide) (fun h55 => ?_) (fun h55 => ?_)
                  · refine wg_iconst (d65_105 L xs) (x := (-1)) (by decide) ?_
                    exact wg_iret (d65_106 L xs) rfl rfl ⟨by unfold t_mac m_e2; (repeat' split) <;> first | rfl | (exfalso; omega), rfl⟩
                  · refine wg_iload_n (d65_101 L xs) rfl ?_
                    refine wg_goto (d65_102 L xs) (t := 106) (by decide) ?_
                    exact wg_iret (d65_106 L xs) rfl rfl ⟨by unfold t_mac m_e2; (repeat' split) <;> first | rfl | (exfalso; omega), rfl⟩
              · refine wg_iinc (d65_83 L xs) (y := (nI (i + 5))) (ls' := [some (.ref a), some (.int (nI i)), some (.int (nI j)), some (.int (nI (i + 5))), some (.int (nI (gl l (i + 2))))]) rfl (nI_add (i + 4) 1) rfl ?_
                refine wg_iload_n (d65_86 L xs) rfl ?_
                refine wg_iload_n (d65_87 L xs) rfl ?_
                refine wn_icmp_ge (d65_88 L xs) (x := i + 5) (y := j) (by omega) (by omega) (t := 105) (by decide) (fun h56 => ?_) (fun h56 => ?_)
                · refine wg_iconst (d65_105 L xs) (x := (-1)) (by decide) ?_
                  exact wg_iret (d65_106 L xs) rfl rfl ⟨by unfold t_mac m_e2; (repeat' split) <;> first | rfl | (exfalso; omega), rfl⟩
                · refine wg_aload_n (d65_91 L xs) rfl ?_
                  refine wg_iload_n (d65_92 L xs) rfl ?_
                  refine wg_invv (d65_93 L xs) (kd := 7) (mj := 31) (n := 1) rfl (Or.inl rfl) (ys := [.int (nI (i + 5))]) (r := []) rfl rfl H.1 (tx_c H) rfl (Nat.le_of_ble_eq_true rfl) (ts_at H hl (by omega)) ?_
                  rintro _ _ ⟨rfl, rfl⟩
                  refine wg_bipush (d65_96 L xs) (x := 125) (by decide) ?_
                  refine wn_icmp_ne (d65_98 L xs) (x := gl l (i + 5)) (y := 125) (by omega) (by omega) (t := 105) (by decide) (fun h57 => ?_) (fun h57 => ?_)
                  · refine wg_iconst (d65_105 L xs) (x := (-1)) (by decide) ?_
                    exact wg_iret (d65_106 L xs) rfl rfl ⟨by unfold t_mac m_e2; (repeat' split) <;> first | rfl | (exfalso; omega), rfl⟩
                  · refine wg_iload_n (d65_101 L xs) rfl ?_
                    refine wg_goto (d65_102 L xs) (t := 106) (by decide) ?_
                    exact wg_iret (d65_106 L xs) rfl rfl ⟨by unfold t_mac m_e2; (repeat' split) <;> first | rfl | (exfalso; omega), rfl⟩
        · refine wg_iconst (d65_44 L xs) (x := (-1)) (by decide) ?_
          exact wg_iret (d65_45 L xs) rfl rfl ⟨by unfold t_mac m_e2; (repeat' split) <;> first | rfl | (exfalso; omega), rfl⟩
theorem tm_tgt_l {fr to : Nat} (H : isT a) (hl : hold s a l) (hto : to < 2 ^ 30) (hf : fr ≤ to) : ∀ (m i : Nat) (c4 : Option Value), to ≤ i + m → i ≤ to → wp L xs (d + 2) 64 2 [some (.ref a), some (.int (nI fr)), some (.int (nI to)), some (.int (nI i)), c4] [] s (fun v s' => v = some (.int (nI (bI (decide (fr < to) && f_tgt (gl l) to m i)))) ∧ s = s') := by
  have hend : ∀ (i : Nat) (c4 : Option Value), wp L xs (d + 2) 64 42 [some (.ref a), some (.int (nI fr)), some (.int (nI to)), some (.int (nI i)), c4] [] s (fun v s' => v = some (.int (nI (bI (decide (fr < to) && true)))) ∧ s = s') := by
    intro i c4
    refine wg_iload_n (d64_42 L xs) rfl ?_
    refine wg_iload_n (d64_43 L xs) rfl ?_
    refine wn_icmp_ge (d64_44 L xs) (x := fr) (y := to) (by omega) (by omega) (t := 51) (by decide) (fun h1 => ?_) (fun h1 => ?_)
    · refine wg_iconst (d64_51 L xs) (x := 0) (by decide) ?_
      exact wg_iret (d64_52 L xs) rfl rfl ⟨by rw [decide_eq_false (show ¬ fr < to by omega)]; rfl, rfl⟩
    · refine wg_iconst (d64_47 L xs) (x := 1) (by decide) ?_
      refine wg_goto (d64_48 L xs) (t := 52) (by decide) ?_
      exact wg_iret (d64_52 L xs) rfl rfl ⟨by rw [decide_eq_true (show fr < to by omega)]; rfl, rfl⟩
  intro m
  induction m with
  | zero =>
    intro i c4 hi hit
    rw [f_tgt]
    refine wg_iload_n (d64_2 L xs) rfl ?_
    refine wg_iload_n (d64_3 L xs) rfl ?_
    refine wn_icmp_ge (d64_4 L xs) (x := i) (y := to) (by omega) (by omega) (t := 42) (by decide) (fun h1 => ?_) (fun h1 => by omega)
    exact hend i c4
  | succ m ih =>
    intro i c4 hi hit
    have hg := gl_lt hl.2.1 i
    rw [f_tgt]
    refine wg_iload_n (d64_2 L xs) rfl ?_
    refine wg_iload_n (d64_3 L xs) rfl ?_
    refine wn_icmp_ge (d64_4 L xs) (x := i) (y := to) (by omega) (by omega) (t := 42) (by decide) (fun h1 => ?_) (fun h1 => ?_)
    · rw [if_neg (by omega)]; exact hend i c4
    · refine wg_aload_n (d64_7 L xs) rfl ?_
      refine wg_iload_n (d64_8 L xs) rfl ?_
      refine wg_invv (d64_9 L xs) (kd := 7) (mj := 31) (n := 1) rfl (Or.inl rfl) (ys := [.int (nI i)]) (r := []) rfl rfl H.1 (tx_c H) rfl (Nat.le_of_ble_eq_true rfl) (ts_at H hl (by omega)) ?_
      rintro _ _ ⟨rfl, rfl⟩
      refine wg_bipush (d64_12 L xs) (x := 37) (by decide) ?_
      refine wn_icmp_ne (d64_14 L xs) (x := gl l i) (y := 37) (by omega) (by omega) (t := 36) (by decide) (fun h2 => ?_) (fun h2 => ?_)
      · refine wg_iinc (d64_36 L xs) (y := (nI (i + 1))) (ls' := [some (.ref a), some (.int (nI fr)), some (.int (nI to)), some (.int (nI (i + 1))), c4]) rfl (nI_add i 1) rfl ?_
        refine wg_goto (d64_39 L xs) (t := 2) (by decide) ?_
        rw [if_pos (by omega), if_neg (by omega)]; exact ih (i + 1) _ (by omega) (by omega)
      · rw [if_pos (by omega), if_pos (by omega)]
        cases hq : t_mac (gl l) i to with
        | none =>
          refine wg_aload_n (d64_17 L xs) rfl ?_
          refine wg_iload_n (d64_18 L xs) rfl ?_
          refine wg_iload_n (d64_19 L xs) rfl ?_
          refine wg_invs (d64_20 L xs) (kd := 6) (mj := 65) (n := 3) rfl (Or.inl rfl) (ys := [.int (nI to), .int (nI i), .ref a]) (r := []) rfl rfl (Nat.le_of_ble_eq_true rfl) (by have h := tm_mac (L := L) (xs := xs) (d := d) (i := i) (j := to) H hl hto (by omega); rw [hq] at h; exact h) ?_
          rintro _ _ ⟨rfl, rfl⟩
          refine wg_istore (d64_23 L xs) (ls' := [some (.ref a), some (.int (nI fr)), some (.int (nI to)), some (.int (nI i)), some (.int (-1))]) (Nat.le_of_ble_eq_true rfl) rfl ?_
          refine wg_iload (d64_25 L xs) rfl ?_
          refine wg_iconst (d64_27 L xs) (x := (-1)) (by decide) ?_
          refine wg_icmp_ne (d64_28 L xs) (t := 33) (by decide) (fun hp => absurd hp (by decide)) (fun _ => ?_)
          refine wg_iconst (d64_31 L xs) (x := 0) (by decide) ?_
          exact wg_iret (d64_32 L xs) rfl rfl ⟨by rw [Bool.and_false]; rfl, rfl⟩
        | some e =>
          have he := t_mac_lt hq
          refine wg_aload_n (d64_17 L xs) rfl ?_
          refine wg_iload_n (d64_18 L xs) rfl ?_
          refine wg_iload_n (d64_19 L xs) rfl ?_
          refine wg_invs (d64_20 L xs) (kd := 6) (mj := 65) (n := 3) rfl (Or.inl rfl) (ys := [.int (nI to), .int (nI i), .ref a]) (r := []) rfl rfl (Nat.le_of_ble_eq_true rfl) (by have h := tm_mac (L := L) (xs := xs) (d := d) (i := i) (j := to) H hl hto (by omega); rw [hq] at h; exact h) ?_
          rintro _ _ ⟨rfl, rfl⟩
          refine wg_istore (d64_23 L xs) (ls' := [some (.ref a), some (.int (nI fr)), some (.int (nI to)), some (.int (nI i)), some (.int (nI e))]) (Nat.le_of_ble_eq_true rfl) rfl ?_
          refine wg_iload (d64_25 L xs) rfl ?_
          refine wg_iconst (d64_27 L xs) (x := (-1)) (by decide) ?_
          refine wg_icmp_ne (d64_28 L xs) (t := 33) (by decide) (fun h1 => ?_) (fun h1 => absurd (Classical.not_not.mp h1) (nI_neg1 (by omega)))
          refine wg_iload (d64_33 L xs) rfl ?_
          refine wg_istore_n (d64_35 L xs) (ls' := [some (.ref a), some (.int (nI fr)), some (.int (nI to)), some (.int (nI e)), some (.int (nI e))]) (Nat.le_of_ble_eq_true rfl) rfl ?_
          refine wg_iinc (d64_36 L xs) (y := (nI (e + 1))) (ls' := [some (.ref a), some (.int (nI fr)), some (.int (nI to)), some (.int (nI (e + 1))), some (.int (nI e))]) rfl (nI_add e 1) rfl ?_
          refine wg_goto (d64_39 L xs) (t := 2) (by decide) ?_
          exact ih (e + 1) _ (by omega) (by omega)
theorem tm_tgt {fr to : Nat} (H : isT a) (hl : hold s a l) (hto : to < 2 ^ 30) (hf : fr ≤ to) : ca L xs (d + 3) 64 [.ref a, .int (nI fr), .int (nI to)] s (fun v s' => v = some (.int (nI (bI (t_tgt (gl l) fr to)))) ∧ s = s') := by
  refine wg_call (Nat.le_of_ble_eq_true rfl) ?_
  show wp L xs (d + 2) 64 0 [some (.ref a), some (.int (nI fr)), some (.int (nI to)), none, none] [] s _
  refine wg_iload_n (d64_0 L xs) rfl ?_
  refine wg_istore_n (d64_1 L xs) (ls' := [some (.ref a), some (.int (nI fr)), some (.int (nI to)), some (.int (nI fr)), none]) (Nat.le_of_ble_eq_true rfl) rfl ?_
  exact tm_tgt_l H hl hto hf (to - fr) fr none (by omega) hf
theorem tm_sg45 (Hr : isM r) : ca L xs (d + 1) 67 [.ref r, .int 45] s (fun v s' => v = some (.int (nI (bI (c_sg 45)))) ∧ mg_I s r 1 (nI (c_res 45)) = s') := by
  refine wg_call (Nat.le_of_ble_eq_true rfl) ?_
  show wp L xs d 67 0 [some (.ref r), some (.int 45)] [] s _
  refine wg_iload_n (d67_0 L xs) rfl ?_
  refine wg_lsw (d67_1 L xs) (of := 35) (t := 36) (by decide) (by decide) (by decide) ?_
  refine wg_aload_n (d67_36 L xs) rfl ?_
  refine wg_iconst (d67_37 L xs) (x := 3) (by decide) ?_
  refine wg_puti (d67_38 L xs) (cj := 4) (k0 := 1) rfl Hr.1 (tm_c Hr) (Nat.le_of_ble_eq_true rfl) rfl rfl (tm_cI1 Hr) ?_
  refine wg_iconst (d67_41 L xs) (x := 1) (by decide) ?_
  exact wg_iret (d67_42 L xs) rfl rfl ⟨rfl, rfl⟩
theorem tm_sg63 (Hr : isM r) : ca L xs (d + 1) 67 [.ref r, .int 63] s (fun v s' => v = some (.int (nI (bI (c_sg 63)))) ∧ mg_I s r 1 (nI (c_res 63)) = s') := by
  refine wg_call (Nat.le_of_ble_eq_true rfl) ?_
  show wp L xs d 67 0 [some (.ref r), some (.int 63)] [] s _
  refine wg_iload_n (d67_0 L xs) rfl ?_
  refine wg_lsw (d67_1 L xs) (of := 42) (t := 43) (by decide) (by decide) (by decide) ?_
  refine wg_aload_n (d67_43 L xs) rfl ?_
  refine wg_iconst (d67_44 L xs) (x := 1) (by decide) ?_
  refine wg_puti (d67_45 L xs) (cj := 4) (k0 := 1) rfl Hr.1 (tm_c Hr) (Nat.le_of_ble_eq_true rfl) rfl rfl (tm_cI1 Hr) ?_
  refine wg_iconst (d67_48 L xs) (x := 1) (by decide) ?_
  exact wg_iret (d67_49 L xs) rfl rfl ⟨rfl, rfl⟩
theorem tm_sg126 (Hr : isM r) : ca L xs (d + 1) 67 [.ref r, .int 126] s (fun v s' => v = some (.int (nI (bI (c_sg 126)))) ∧ mg_I s r 1 (nI (c_res 126)) = s') := by
  refine wg_call (Nat.le_of_ble_eq_true rfl) ?_
  show wp L xs d 67 0 [some (.ref r), some (.int 126)] [] s _
  refine wg_iload_n (d67_0 L xs) rfl ?_
  refine wg_lsw (d67_1 L xs) (of := 49) (t := 50) (by decide) (by decide) (by decide) ?_
  refine wg_aload_n (d67_50 L xs) rfl ?_
  refine wg_iconst (d67_51 L xs) (x := 4) (by decide) ?_
  refine wg_puti (d67_52 L xs) (cj := 4) (k0 := 1) rfl Hr.1 (tm_c Hr) (Nat.le_of_ble_eq_true rfl) rfl rfl (tm_cI1 Hr) ?_
  refine wg_iconst (d67_55 L xs) (x := 1) (by decide) ?_
  exact wg_iret (d67_56 L xs) rfl rfl ⟨rfl, rfl⟩
theorem sg_o {c : Nat} (h : c < 2 ^ 31) (h1 : ¬ c = 45) (h2 : ¬ c = 63) (h3 : ¬ c = 126) : Op.lookupswitch.offset (#[(45, 35), (63, 42), (126, 49)] : Array (Int × Int)).toList 56 (nI c).toInt = 56 := by
  have e : (nI c).toInt = (c : Int) := Int32.toInt_ofNat_of_lt h
  rw [e]
  have k1 : ¬ (45 : Int) = (c : Int) := by omega
  have k2 : ¬ (63 : Int) = (c : Int) := by omega
  have k3 : ¬ (126 : Int) = (c : Int) := by omega
  have k4 : ¬ (c : Int) = 45 := by omega
  have k5 : ¬ (c : Int) = 63 := by omega
  have k6 : ¬ (c : Int) = 126 := by omega
  simp [Op.lookupswitch.offset, k1, k2, k3, k4, k5, k6]
theorem tm_sgo {c : Nat} (Hr : isM r) (hc : c < 65536) (h45 : ¬ c = 45) (h63 : ¬ c = 63) (h126 : ¬ c = 126) : ca L xs (d + 1) 67 [.ref r, .int (nI c)] s (fun v s' => v = some (.int (nI (bI (c_sg c)))) ∧ mg_I s r 1 (nI (c_res c)) = s') := by
  refine wg_call (Nat.le_of_ble_eq_true rfl) ?_
  show wp L xs d 67 0 [some (.ref r), some (.int (nI c))] [] s _
  refine wg_iload_n (d67_0 L xs) rfl ?_
  refine wg_lsw (d67_1 L xs) (of := 56) (t := 57) (by decide) (sg_o (by omega) h45 h63 h126) (by decide) ?_
  refine wg_aload_n (d67_57 L xs) rfl ?_
  refine wg_iconst (d67_58 L xs) (x := 2) (by decide) ?_
  refine wg_puti (d67_59 L xs) (cj := 4) (k0 := 1) rfl Hr.1 (tm_c Hr) (Nat.le_of_ble_eq_true rfl) rfl rfl (tm_cI1 Hr) ?_
  refine wg_iload_n (d67_62 L xs) rfl ?_
  refine wg_bipush (d67_63 L xs) (x := 43) (by decide) ?_
  refine wn_icmp_ne (d67_65 L xs) (x := c) (y := 43) (by omega) (by omega) (t := 72) (by decide) (fun h1 => ?_) (fun h1 => ?_)
  · refine wg_iconst (d67_72 L xs) (x := 0) (by decide) ?_
    exact wg_iret (d67_73 L xs) rfl rfl ⟨by unfold c_sg; rw [decide_eq_false h45, decide_eq_false h63, decide_eq_false h126, decide_eq_false (show ¬ c = 43 by omega)]; rfl, by unfold c_res; rw [if_neg h45, if_neg h63, if_neg h126]; rfl⟩
  · refine wg_iconst (d67_68 L xs) (x := 1) (by decide) ?_
    refine wg_goto (d67_69 L xs) (t := 73) (by decide) ?_
    exact wg_iret (d67_73 L xs) rfl rfl ⟨by unfold c_sg; rw [decide_eq_false h45, decide_eq_false h63, decide_eq_false h126, decide_eq_true (show c = 43 by omega)]; rfl, by unfold c_res; rw [if_neg h45, if_neg h63, if_neg h126]; rfl⟩
theorem tm_sg {c : Nat} (Hr : isM r) (hc : c < 65536) : ca L xs (d + 1) 67 [.ref r, .int (nI c)] s (fun v s' => v = some (.int (nI (bI (c_sg c)))) ∧ mg_I s r 1 (nI (c_res c)) = s') := by
  by_cases h1 : c = 45
  · subst h1; exact tm_sg45 Hr
  · by_cases h2 : c = 63
    · subst h2; exact tm_sg63 Hr
    · by_cases h3 : c = 126
      · subst h3; exact tm_sg126 Hr
      · exact tm_sgo Hr hc h1 h2 h3
theorem tm_kind {fr to : Nat} (H : isT a) (hl : hold s a l) (hto : to < 2 ^ 30) (hf : fr ≤ to) : ca L xs (d + 3) 68 [.ref a, .int (nI fr), .int (nI to)] s (fun v s' => v = some (.int (oI (t_kind (gl l) fr to))) ∧ s = s') := by
  refine wg_call (Nat.le_of_ble_eq_true rfl) ?_
  have hb2 := bI_lt (t_word (gl l) fr to w_all)
  have hb3 := bI_lt (t_word (gl l) fr to w_inc)
  have hb4 := bI_lt (t_word (gl l) fr to w_a)
  have hb5 := bI_lt (t_word (gl l) fr to w_mx)
  have hb6 := bI_lt (t_word (gl l) fr to w_ip4)
  have hb7 := bI_lt (t_word (gl l) fr to w_exi)
  show wp L xs (d + 2) 68 0 [some (.ref a), some (.int (nI fr)), some (.int (nI to))] [] s _
  refine wg_aload_n (d68_0 L xs) rfl ?_
  refine wg_iload_n (d68_1 L xs) rfl ?_
  refine wg_iload_n (d68_2 L xs) rfl ?_
  refine wg_ldcs (d68_3 L xs) (k0 := 2) rfl ?_
  refine wg_invv (d68_5 L xs) (kd := 7) (mj := 57) (n := 3) rfl (Or.inl rfl) (ys := [.ref (ax_big + 1 + 2), .int (nI to), .int (nI fr)]) (r := []) rfl rfl H.1 (tx_c H) rfl (Nat.le_of_ble_eq_true rfl) (ts_word (k0 := 2) H hl rfl rfl hto hf) ?_
  rintro _ _ ⟨rfl, rfl⟩
  refine wn_if_eq (d68_8 L xs) (x := bI (t_word (gl l) fr to w_all)) (by omega) (t := 13) (by decide) (fun h1 => ?_) (fun h1 => ?_)
  · refine wg_aload_n (d68_13 L xs) rfl ?_
    refine wg_iload_n (d68_14 L xs) rfl ?_
    refine wg_iload_n (d68_15 L xs) rfl ?_
    refine wg_ldcs (d68_16 L xs) (k0 := 3) rfl ?_
    refine wg_invv (d68_18 L xs) (kd := 7) (mj := 57) (n := 3) rfl (Or.inl rfl) (ys := [.ref (ax_big + 1 + 3), .int (nI to), .int (nI fr)]) (r := []) rfl rfl H.1 (tx_c H) rfl (Nat.le_of_ble_eq_true rfl) (ts_word (k0 := 3) H hl rfl rfl hto hf) ?_
    rintro _ _ ⟨rfl, rfl⟩
    refine wn_if_eq (d68_21 L xs) (x := bI (t_word (gl l) fr to w_inc)) (by omega) (t := 26) (by decide) (fun h2 => ?_) (fun h2 => ?_)
    · refine wg_aload_n (d68_26 L xs) rfl ?_
      refine wg_iload_n (d68_27 L xs) rfl ?_
      refine wg_iload_n (d68_28 L xs) rfl ?_
      refine wg_ldcs (d68_29 L xs) (k0 := 4) rfl ?_
      refine wg_invv (d68_31 L xs) (kd := 7) (mj := 57) (n := 3) rfl (Or.inl rfl) (ys := [.ref (ax_big + 1 + 4), .int (nI to), .int (nI fr)]) (r := []) rfl rfl H.1 (tx_c H) rfl (Nat.le_of_ble_eq_true rfl) (ts_word (k0 := 4) H hl rfl rfl hto hf) ?_
      rintro _ _ ⟨rfl, rfl⟩
      refine wn_if_eq (d68_34 L xs) (x := bI (t_word (gl l) fr to w_a)) (by omega) (t := 39) (by decide) (fun h3 => ?_) (fun h3 => ?_)
      · refine wg_aload_n (d68_39 L xs) rfl ?_
        refine wg_iload_n (d68_40 L xs) rfl ?_
        refine wg_iload_n (d68_41 L xs) rfl ?_
        refine wg_ldcs (d68_42 L xs) (k0 := 5) rfl ?_
        refine wg_invv (d68_44 L xs) (kd := 7) (mj := 57) (n := 3) rfl (Or.inl rfl) (ys := [.ref (ax_big + 1 + 5), .int (nI to), .int (nI fr)]) (r := []) rfl rfl H.1 (tx_c H) rfl (Nat.le_of_ble_eq_true rfl) (ts_word (k0 := 5) H hl rfl rfl hto hf) ?_
        rintro _ _ ⟨rfl, rfl⟩
        refine wn_if_eq (d68_47 L xs) (x := bI (t_word (gl l) fr to w_mx)) (by omega) (t := 52) (by decide) (fun h4 => ?_) (fun h4 => ?_)
        · refine wg_aload_n (d68_52 L xs) rfl ?_
          refine wg_iload_n (d68_53 L xs) rfl ?_
          refine wg_iload_n (d68_54 L xs) rfl ?_
          refine wg_ldcs (d68_55 L xs) (k0 := 6) rfl ?_
          refine wg_invv (d68_57 L xs) (kd := 7) (mj := 57) (n := 3) rfl (Or.inl rfl) (ys := [.ref (ax_big + 1 + 6), .int (nI to), .int (nI fr)]) (r := []) rfl rfl H.1 (tx_c H) rfl (Nat.le_of_ble_eq_true rfl) (ts_word (k0 := 6) H hl rfl rfl hto hf) ?_
          rintro _ _ ⟨rfl, rfl⟩
          refine wn_if_eq (d68_60 L xs) (x := bI (t_word (gl l) fr to w_ip4)) (by omega) (t := 65) (by decide) (fun h5 => ?_) (fun h5 => ?_)
          · refine wg_aload_n (d68_65 L xs) rfl ?_
            refine wg_iload_n (d68_66 L xs) rfl ?_
            refine wg_iload_n (d68_67 L xs) rfl ?_
            refine wg_ldcs (d68_68 L xs) (k0 := 7) rfl ?_
            refine wg_invv (d68_70 L xs) (kd := 7) (mj := 57) (n := 3) rfl (Or.inl rfl) (ys := [.ref (ax_big + 1 + 7), .int (nI to), .int (nI fr)]) (r := []) rfl rfl H.1 (tx_c H) rfl (Nat.le_of_ble_eq_true rfl) (ts_word (k0 := 7) H hl rfl rfl hto hf) ?_
            rintro _ _ ⟨rfl, rfl⟩
            refine wn_if_eq (d68_73 L xs) (x := bI (t_word (gl l) fr to w_exi)) (by omega) (t := 80) (by decide) (fun h6 => ?_) (fun h6 => ?_)
            · refine wg_iconst (d68_80 L xs) (x := (-1)) (by decide) ?_
              exact wg_iret (d68_81 L xs) rfl rfl ⟨by unfold t_kind; rw [if_neg (by rw [bI_f (b := t_word (gl l) fr to w_all) (by omega)]; decide), if_neg (by rw [bI_f (b := t_word (gl l) fr to w_inc) (by omega)]; decide), if_neg (by rw [bI_f (b := t_word (gl l) fr to w_a) (by omega)]; decide), if_neg (by rw [bI_f (b := t_word (gl l) fr to w_mx) (by omega)]; decide), if_neg (by rw [bI_f (b := t_word (gl l) fr to w_ip4) (by omega)]; decide), if_neg (by rw [bI_f (b := t_word (gl l) fr to w_exi) (by omega)]; decide)]; rfl, rfl⟩
            · refine wg_iconst (d68_76 L xs) (x := 5) (by decide) ?_
              refine wg_goto (d68_77 L xs) (t := 81) (by decide) ?_
              exact wg_iret (d68_81 L xs) rfl rfl ⟨by unfold t_kind; rw [if_neg (by rw [bI_f (b := t_word (gl l) fr to w_all) (by omega)]; decide), if_neg (by rw [bI_f (b := t_word (gl l) fr to w_inc) (by omega)]; decide), if_neg (by rw [bI_f (b := t_word (gl l) fr to w_a) (by omega)]; decide), if_neg (by rw [bI_f (b := t_word (gl l) fr to w_mx) (by omega)]; decide), if_neg (by rw [bI_f (b := t_word (gl l) fr to w_ip4) (by omega)]; decide), if_pos (bI_t (b := t_word (gl l) fr to w_exi) (by omega))]; rfl, rfl⟩
          · refine wg_iconst (d68_63 L xs) (x := 4) (by decide) ?_
            exact wg_iret (d68_64 L xs) rfl rfl ⟨by unfold t_kind; rw [if_neg (by rw [bI_f (b := t_word (gl l) fr to w_all) (by omega)]; decide), if_neg (by rw [bI_f (b := t_word (gl l) fr to w_inc) (by omega)]; decide), if_neg (by rw [bI_f (b := t_word (gl l) fr to w_a) (by omega)]; decide), if_neg (by rw [bI_f (b := t_word (gl l) fr to w_mx) (by omega)]; decide), if_pos (bI_t (b := t_word (gl l) fr to w_ip4) (by omega))]; rfl, rfl⟩
        · refine wg_iconst (d68_50 L xs) (x := 3) (by decide) ?_
          exact wg_iret (d68_51 L xs) rfl rfl ⟨by unfold t_kind; rw [if_neg (by rw [bI_f (b := t_word (gl l) fr to w_all) (by omega)]; decide), if_neg (by rw [bI_f (b := t_word (gl l) fr to w_inc) (by omega)]; decide), if_neg (by rw [bI_f (b := t_word (gl l) fr to w_a) (by omega)]; decide), if_pos (bI_t (b := t_word (gl l) fr to w_mx) (by omega))]; rfl, rfl⟩
      · refine wg_iconst (d68_37 L xs) (x := 2) (by decide) ?_
        exact wg_iret (d68_38 L xs) rfl rfl ⟨by unfold t_kind; rw [if_neg (by rw [bI_f (b := t_word (gl l) fr to w_all) (by omega)]; decide), if_neg (by rw [bI_f (b := t_word (gl l) fr to w_inc) (by omega)]; decide), if_pos (bI_t (b := t_word (gl l) fr to w_a) (by omega))]; rfl, rfl⟩
    · refine wg_iconst (d68_24 L xs) (x := 1) (by decide) ?_
      exact wg_iret (d68_25 L xs) rfl rfl ⟨by unfold t_kind; rw [if_neg (by rw [bI_f (b := t_word (gl l) fr to w_all) (by omega)]; decide), if_pos (bI_t (b := t_word (gl l) fr to w_inc) (by omega))]; rfl, rfl⟩
  · refine wg_iconst (d68_11 L xs) (x := 0) (by decide) ?_
    exact wg_iret (d68_12 L xs) rfl rfl ⟨by unfold t_kind; rw [if_pos (bI_t (b := t_word (gl l) fr to w_all) (by omega))]; rfl, rfl⟩
theorem tm_adrn (Hr : isM r) : ca L xs (d + 1) 69 [.ref r, .long (oL none)] s (fun v' s' => v' = some (.int 0) ∧ mg_I s r 5 (oL none).toInt32 = s') := by
  refine wg_call (Nat.le_of_ble_eq_true rfl) ?_
  show wp L xs d 69 0 [some (.ref r), some (.long (oL none)), none] [] s _
  refine wg_aload_n (d69_0 L xs) rfl ?_
  refine wg_lload_n (d69_1 L xs) rfl ?_
  refine wg_l2i (d69_2 L xs) ?_
  refine wg_puti (d69_3 L xs) (cj := 4) (k0 := 5) rfl Hr.1 (tm_c Hr) (Nat.le_of_ble_eq_true rfl) rfl rfl (tm_cI5 Hr) ?_
  refine wg_lload_n (d69_6 L xs) rfl ?_
  refine wg_ldc2 (d69_7 L xs) (v := 18446744073709551615) rfl ?_
  refine wg_lcmp (d69_10 L xs) ?_
  refine wg_top (y := 0) lc_none ?_
  refine wg_if_eq (d69_11 L xs) (t := 18) (by decide) (fun _ => ?_) (fun hn => absurd (by decide) hn)
  refine wg_iconst (d69_18 L xs) (x := 0) (by decide) ?_
  exact wg_iret (d69_19 L xs) rfl rfl ⟨rfl, rfl⟩
theorem tm_adrs {v : Nat} (hv : v < 2 ^ 32) (Hr : isM r) : ca L xs (d + 1) 69 [.ref r, .long (oL (some v))] s (fun v' s' => v' = some (.int 1) ∧ mg_I s r 5 (oL (some v)).toInt32 = s') := by
  refine wg_call (Nat.le_of_ble_eq_true rfl) ?_
  show wp L xs d 69 0 [some (.ref r), some (.long (oL (some v))), none] [] s _
  refine wg_aload_n (d69_0 L xs) rfl ?_
  refine wg_lload_n (d69_1 L xs) rfl ?_
  refine wg_l2i (d69_2 L xs) ?_
  refine wg_puti (d69_3 L xs) (cj := 4) (k0 := 5) rfl Hr.1 (tm_c Hr) (Nat.le_of_ble_eq_true rfl) rfl rfl (tm_cI5 Hr) ?_
  refine wg_lload_n (d69_6 L xs) rfl ?_
  refine wg_ldc2 (d69_7 L xs) (v := 18446744073709551615) rfl ?_
  refine wg_lcmp (d69_10 L xs) ?_
  refine wg_top (y := 1) (lc_some hv) ?_
  refine wg_if_eq (d69_11 L xs) (t := 18) (by decide) (fun hp => absurd hp (by decide)) (fun _ => ?_)
  refine wg_iconst (d69_14 L xs) (x := 1) (by decide) ?_
  refine wg_goto (d69_15 L xs) (t := 19) (by decide) ?_
  exact wg_iret (d69_19 L xs) rfl rfl ⟨rfl, rfl⟩
end TM
