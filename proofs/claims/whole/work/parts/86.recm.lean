/-! words, letter by letter; the reference's targets, signs, mechanisms -/
theorem d123_0 (L : Nat) (xs : Nat → Int32) : decode (ax_code (mgT L xs) 123) 0 = .ok (.aload_n 0, 1) := by
  show decode prog_11_method_35_code 0 = _
  decide +kernel
theorem d123_1 (L : Nat) (xs : Nat → Int32) : decode (ax_code (mgT L xs) 123) 1 = .ok (.getfield 22, 3) := by
  show decode prog_11_method_35_code 1 = _
  decide +kernel
theorem d123_4 (L : Nat) (xs : Nat → Int32) : decode (ax_code (mgT L xs) 123) 4 = .ok (.iload_n 1, 1) := by
  show decode prog_11_method_35_code 4 = _
  decide +kernel
theorem d123_5 (L : Nat) (xs : Nat → Int32) : decode (ax_code (mgT L xs) 123) 5 = .ok (.iaload, 1) := by
  show decode prog_11_method_35_code 5 = _
  decide +kernel
theorem d123_6 (L : Nat) (xs : Nat → Int32) : decode (ax_code (mgT L xs) 123) 6 = .ok (.iconst 1, 1) := by
  show decode prog_11_method_35_code 6 = _
  decide +kernel
theorem d123_7 (L : Nat) (xs : Nat → Int32) : decode (ax_code (mgT L xs) 123) 7 = .ok (.iadd, 1) := by
  show decode prog_11_method_35_code 7 = _
  decide +kernel
theorem d123_8 (L : Nat) (xs : Nat → Int32) : decode (ax_code (mgT L xs) 123) 8 = .ok (.istore_n 2, 1) := by
  show decode prog_11_method_35_code 8 = _
  decide +kernel
theorem d123_9 (L : Nat) (xs : Nat → Int32) : decode (ax_code (mgT L xs) 123) 9 = .ok (.aload_n 0, 1) := by
  show decode prog_11_method_35_code 9 = _
  decide +kernel
theorem d123_10 (L : Nat) (xs : Nat → Int32) : decode (ax_code (mgT L xs) 123) 10 = .ok (.iload_n 1, 1) := by
  show decode prog_11_method_35_code 10 = _
  decide +kernel
theorem d123_11 (L : Nat) (xs : Nat → Int32) : decode (ax_code (mgT L xs) 123) 11 = .ok (.iload_n 2, 1) := by
  show decode prog_11_method_35_code 11 = _
  decide +kernel
theorem d123_12 (L : Nat) (xs : Nat → Int32) : decode (ax_code (mgT L xs) 123) 12 = .ok (.bipush 118, 2) := by
  show decode prog_11_method_35_code 12 = _
  decide +kernel
theorem d123_14 (L : Nat) (xs : Nat → Int32) : decode (ax_code (mgT L xs) 123) 14 = .ok (.bipush 61, 2) := by
  show decode prog_11_method_35_code 14 = _
  decide +kernel
theorem d123_16 (L : Nat) (xs : Nat → Int32) : decode (ax_code (mgT L xs) 123) 16 = .ok (.bipush 115, 2) := by
  show decode prog_11_method_35_code 16 = _
  decide +kernel
theorem d123_18 (L : Nat) (xs : Nat → Int32) : decode (ax_code (mgT L xs) 123) 18 = .ok (.invokevirtual 170, 3) := by
  show decode prog_11_method_35_code 18 = _
  decide +kernel
theorem d123_21 (L : Nat) (xs : Nat → Int32) : decode (ax_code (mgT L xs) 123) 21 = .ok (.ifCond .eq 24, 3) := by
  show decode prog_11_method_35_code 21 = _
  decide +kernel
theorem d123_24 (L : Nat) (xs : Nat → Int32) : decode (ax_code (mgT L xs) 123) 24 = .ok (.aload_n 0, 1) := by
  show decode prog_11_method_35_code 24 = _
  decide +kernel
theorem d123_25 (L : Nat) (xs : Nat → Int32) : decode (ax_code (mgT L xs) 123) 25 = .ok (.iload_n 1, 1) := by
  show decode prog_11_method_35_code 25 = _
  decide +kernel
theorem d123_26 (L : Nat) (xs : Nat → Int32) : decode (ax_code (mgT L xs) 123) 26 = .ok (.iload_n 2, 1) := by
  show decode prog_11_method_35_code 26 = _
  decide +kernel
theorem d123_27 (L : Nat) (xs : Nat → Int32) : decode (ax_code (mgT L xs) 123) 27 = .ok (.iconst 3, 1) := by
  show decode prog_11_method_35_code 27 = _
  decide +kernel
theorem d123_28 (L : Nat) (xs : Nat → Int32) : decode (ax_code (mgT L xs) 123) 28 = .ok (.iadd, 1) := by
  show decode prog_11_method_35_code 28 = _
  decide +kernel
theorem d123_29 (L : Nat) (xs : Nat → Int32) : decode (ax_code (mgT L xs) 123) 29 = .ok (.bipush 112, 2) := by
  show decode prog_11_method_35_code 29 = _
  decide +kernel
theorem d123_31 (L : Nat) (xs : Nat → Int32) : decode (ax_code (mgT L xs) 123) 31 = .ok (.bipush 102, 2) := by
  show decode prog_11_method_35_code 31 = _
  decide +kernel
theorem d123_33 (L : Nat) (xs : Nat → Int32) : decode (ax_code (mgT L xs) 123) 33 = .ok (.bipush 49, 2) := by
  show decode prog_11_method_35_code 33 = _
  decide +kernel
theorem d123_35 (L : Nat) (xs : Nat → Int32) : decode (ax_code (mgT L xs) 123) 35 = .ok (.invokevirtual 170, 3) := by
  show decode prog_11_method_35_code 35 = _
  decide +kernel
theorem d123_38 (L : Nat) (xs : Nat → Int32) : decode (ax_code (mgT L xs) 123) 38 = .ok (.ifCond .eq 7, 3) := by
  show decode prog_11_method_35_code 38 = _
  decide +kernel
theorem d123_41 (L : Nat) (xs : Nat → Int32) : decode (ax_code (mgT L xs) 123) 41 = .ok (.iconst 1, 1) := by
  show decode prog_11_method_35_code 41 = _
  decide +kernel
theorem d123_42 (L : Nat) (xs : Nat → Int32) : decode (ax_code (mgT L xs) 123) 42 = .ok (.goto 4, 3) := by
  show decode prog_11_method_35_code 42 = _
  decide +kernel
theorem d123_45 (L : Nat) (xs : Nat → Int32) : decode (ax_code (mgT L xs) 123) 45 = .ok (.iconst 0, 1) := by
  show decode prog_11_method_35_code 45 = _
  decide +kernel
theorem d123_46 (L : Nat) (xs : Nat → Int32) : decode (ax_code (mgT L xs) 123) 46 = .ok (.istore_n 3, 1) := by
  show decode prog_11_method_35_code 46 = _
  decide +kernel
theorem d123_47 (L : Nat) (xs : Nat → Int32) : decode (ax_code (mgT L xs) 123) 47 = .ok (.iload_n 3, 1) := by
  show decode prog_11_method_35_code 47 = _
  decide +kernel
theorem d123_48 (L : Nat) (xs : Nat → Int32) : decode (ax_code (mgT L xs) 123) 48 = .ok (.ifCond .eq 34, 3) := by
  show decode prog_11_method_35_code 48 = _
  decide +kernel
theorem d123_51 (L : Nat) (xs : Nat → Int32) : decode (ax_code (mgT L xs) 123) 51 = .ok (.aload_n 0, 1) := by
  show decode prog_11_method_35_code 51 = _
  decide +kernel
theorem d123_52 (L : Nat) (xs : Nat → Int32) : decode (ax_code (mgT L xs) 123) 52 = .ok (.getfield 19, 3) := by
  show decode prog_11_method_35_code 52 = _
  decide +kernel
theorem d123_55 (L : Nat) (xs : Nat → Int32) : decode (ax_code (mgT L xs) 123) 55 = .ok (.iload_n 1, 1) := by
  show decode prog_11_method_35_code 55 = _
  decide +kernel
theorem d123_56 (L : Nat) (xs : Nat → Int32) : decode (ax_code (mgT L xs) 123) 56 = .ok (.iaload, 1) := by
  show decode prog_11_method_35_code 56 = _
  decide +kernel
theorem d123_57 (L : Nat) (xs : Nat → Int32) : decode (ax_code (mgT L xs) 123) 57 = .ok (.iload_n 2, 1) := by
  show decode prog_11_method_35_code 57 = _
  decide +kernel
theorem d123_58 (L : Nat) (xs : Nat → Int32) : decode (ax_code (mgT L xs) 123) 58 = .ok (.bipush 6, 2) := by
  show decode prog_11_method_35_code 58 = _
  decide +kernel
theorem d123_60 (L : Nat) (xs : Nat → Int32) : decode (ax_code (mgT L xs) 123) 60 = .ok (.iadd, 1) := by
  show decode prog_11_method_35_code 60 = _
  decide +kernel
theorem d123_61 (L : Nat) (xs : Nat → Int32) : decode (ax_code (mgT L xs) 123) 61 = .ok (.if_icmp .eq 17, 3) := by
  show decode prog_11_method_35_code 61 = _
  decide +kernel
theorem d123_64 (L : Nat) (xs : Nat → Int32) : decode (ax_code (mgT L xs) 123) 64 = .ok (.aload_n 0, 1) := by
  show decode prog_11_method_35_code 64 = _
  decide +kernel
theorem d123_65 (L : Nat) (xs : Nat → Int32) : decode (ax_code (mgT L xs) 123) 65 = .ok (.iload_n 1, 1) := by
  show decode prog_11_method_35_code 65 = _
  decide +kernel
theorem d123_66 (L : Nat) (xs : Nat → Int32) : decode (ax_code (mgT L xs) 123) 66 = .ok (.iload_n 2, 1) := by
  show decode prog_11_method_35_code 66 = _
  decide +kernel
theorem d123_67 (L : Nat) (xs : Nat → Int32) : decode (ax_code (mgT L xs) 123) 67 = .ok (.bipush 6, 2) := by
  show decode prog_11_method_35_code 67 = _
  decide +kernel
theorem d123_69 (L : Nat) (xs : Nat → Int32) : decode (ax_code (mgT L xs) 123) 69 = .ok (.iadd, 1) := by
  show decode prog_11_method_35_code 69 = _
  decide +kernel
theorem d123_70 (L : Nat) (xs : Nat → Int32) : decode (ax_code (mgT L xs) 123) 70 = .ok (.invokevirtual 166, 3) := by
  show decode prog_11_method_35_code 70 = _
  decide +kernel
theorem d123_73 (L : Nat) (xs : Nat → Int32) : decode (ax_code (mgT L xs) 123) 73 = .ok (.bipush 32, 2) := by
  show decode prog_11_method_35_code 73 = _
  decide +kernel
theorem d123_75 (L : Nat) (xs : Nat → Int32) : decode (ax_code (mgT L xs) 123) 75 = .ok (.if_icmp .ne 7, 3) := by
  show decode prog_11_method_35_code 75 = _
  decide +kernel
theorem d123_78 (L : Nat) (xs : Nat → Int32) : decode (ax_code (mgT L xs) 123) 78 = .ok (.iconst 1, 1) := by
  show decode prog_11_method_35_code 78 = _
  decide +kernel
theorem d123_79 (L : Nat) (xs : Nat → Int32) : decode (ax_code (mgT L xs) 123) 79 = .ok (.goto 4, 3) := by
  show decode prog_11_method_35_code 79 = _
  decide +kernel
theorem d123_82 (L : Nat) (xs : Nat → Int32) : decode (ax_code (mgT L xs) 123) 82 = .ok (.iconst 0, 1) := by
  show decode prog_11_method_35_code 82 = _
  decide +kernel
theorem d123_83 (L : Nat) (xs : Nat → Int32) : decode (ax_code (mgT L xs) 123) 83 = .ok (.ireturn, 1) := by
  show decode prog_11_method_35_code 83 = _
  decide +kernel
theorem d129_0 (L : Nat) (xs : Nat → Int32) : decode (ax_code (mgT L xs) 129) 0 = .ok (.iload_n 3, 1) := by
  show decode prog_11_method_31_code 0 = _
  decide +kernel
theorem d129_1 (L : Nat) (xs : Nat → Int32) : decode (ax_code (mgT L xs) 129) 1 = .ok (.iload_n 2, 1) := by
  show decode prog_11_method_31_code 1 = _
  decide +kernel
theorem d129_2 (L : Nat) (xs : Nat → Int32) : decode (ax_code (mgT L xs) 129) 2 = .ok (.bipush 8, 2) := by
  show decode prog_11_method_31_code 2 = _
  decide +kernel
theorem d129_4 (L : Nat) (xs : Nat → Int32) : decode (ax_code (mgT L xs) 129) 4 = .ok (.iadd, 1) := by
  show decode prog_11_method_31_code 4 = _
  decide +kernel
theorem d129_5 (L : Nat) (xs : Nat → Int32) : decode (ax_code (mgT L xs) 129) 5 = .ok (.if_icmp .ne 67, 3) := by
  show decode prog_11_method_31_code 5 = _
  decide +kernel
theorem d129_8 (L : Nat) (xs : Nat → Int32) : decode (ax_code (mgT L xs) 129) 8 = .ok (.aload_n 0, 1) := by
  show decode prog_11_method_31_code 8 = _
  decide +kernel
theorem d129_9 (L : Nat) (xs : Nat → Int32) : decode (ax_code (mgT L xs) 129) 9 = .ok (.iload_n 1, 1) := by
  show decode prog_11_method_31_code 9 = _
  decide +kernel
theorem d129_10 (L : Nat) (xs : Nat → Int32) : decode (ax_code (mgT L xs) 129) 10 = .ok (.iload_n 2, 1) := by
  show decode prog_11_method_31_code 10 = _
  decide +kernel
theorem d129_11 (L : Nat) (xs : Nat → Int32) : decode (ax_code (mgT L xs) 129) 11 = .ok (.bipush 114, 2) := by
  show decode prog_11_method_31_code 11 = _
  decide +kernel
theorem d129_13 (L : Nat) (xs : Nat → Int32) : decode (ax_code (mgT L xs) 129) 13 = .ok (.bipush 101, 2) := by
  show decode prog_11_method_31_code 13 = _
  decide +kernel
theorem d129_15 (L : Nat) (xs : Nat → Int32) : decode (ax_code (mgT L xs) 129) 15 = .ok (.bipush 100, 2) := by
  show decode prog_11_method_31_code 15 = _
  decide +kernel
theorem d129_17 (L : Nat) (xs : Nat → Int32) : decode (ax_code (mgT L xs) 129) 17 = .ok (.invokevirtual 170, 3) := by
  show decode prog_11_method_31_code 17 = _
  decide +kernel
theorem d129_20 (L : Nat) (xs : Nat → Int32) : decode (ax_code (mgT L xs) 129) 20 = .ok (.ifCond .eq 52, 3) := by
  show decode prog_11_method_31_code 20 = _
  decide +kernel
theorem d129_23 (L : Nat) (xs : Nat → Int32) : decode (ax_code (mgT L xs) 129) 23 = .ok (.aload_n 0, 1) := by
  show decode prog_11_method_31_code 23 = _
  decide +kernel
theorem d129_24 (L : Nat) (xs : Nat → Int32) : decode (ax_code (mgT L xs) 129) 24 = .ok (.iload_n 1, 1) := by
  show decode prog_11_method_31_code 24 = _
  decide +kernel
theorem d129_25 (L : Nat) (xs : Nat → Int32) : decode (ax_code (mgT L xs) 129) 25 = .ok (.iload_n 2, 1) := by
  show decode prog_11_method_31_code 25 = _
  decide +kernel
theorem d129_26 (L : Nat) (xs : Nat → Int32) : decode (ax_code (mgT L xs) 129) 26 = .ok (.iconst 3, 1) := by
  show decode prog_11_method_31_code 26 = _
  decide +kernel
theorem d129_27 (L : Nat) (xs : Nat → Int32) : decode (ax_code (mgT L xs) 129) 27 = .ok (.iadd, 1) := by
  show decode prog_11_method_31_code 27 = _
  decide +kernel
theorem d129_28 (L : Nat) (xs : Nat → Int32) : decode (ax_code (mgT L xs) 129) 28 = .ok (.bipush 105, 2) := by
  show decode prog_11_method_31_code 28 = _
  decide +kernel
theorem d129_30 (L : Nat) (xs : Nat → Int32) : decode (ax_code (mgT L xs) 129) 30 = .ok (.bipush 114, 2) := by
  show decode prog_11_method_31_code 30 = _
  decide +kernel
theorem d129_32 (L : Nat) (xs : Nat → Int32) : decode (ax_code (mgT L xs) 129) 32 = .ok (.bipush 101, 2) := by
  show decode prog_11_method_31_code 32 = _
  decide +kernel
theorem d129_34 (L : Nat) (xs : Nat → Int32) : decode (ax_code (mgT L xs) 129) 34 = .ok (.invokevirtual 170, 3) := by
  show decode prog_11_method_31_code 34 = _
  decide +kernel
theorem d129_37 (L : Nat) (xs : Nat → Int32) : decode (ax_code (mgT L xs) 129) 37 = .ok (.ifCond .eq 35, 3) := by
  show decode prog_11_method_31_code 37 = _
  decide +kernel
theorem d129_40 (L : Nat) (xs : Nat → Int32) : decode (ax_code (mgT L xs) 129) 40 = .ok (.aload_n 0, 1) := by
  show decode prog_11_method_31_code 40 = _
  decide +kernel
theorem d129_41 (L : Nat) (xs : Nat → Int32) : decode (ax_code (mgT L xs) 129) 41 = .ok (.iload_n 1, 1) := by
  show decode prog_11_method_31_code 41 = _
  decide +kernel
theorem d129_42 (L : Nat) (xs : Nat → Int32) : decode (ax_code (mgT L xs) 129) 42 = .ok (.iload_n 2, 1) := by
  show decode prog_11_method_31_code 42 = _
  decide +kernel
theorem d129_43 (L : Nat) (xs : Nat → Int32) : decode (ax_code (mgT L xs) 129) 43 = .ok (.bipush 6, 2) := by
  show decode prog_11_method_31_code 43 = _
  decide +kernel
theorem d129_45 (L : Nat) (xs : Nat → Int32) : decode (ax_code (mgT L xs) 129) 45 = .ok (.iadd, 1) := by
  show decode prog_11_method_31_code 45 = _
  decide +kernel
theorem d129_46 (L : Nat) (xs : Nat → Int32) : decode (ax_code (mgT L xs) 129) 46 = .ok (.invokevirtual 166, 3) := by
  show decode prog_11_method_31_code 46 = _
  decide +kernel
theorem d129_49 (L : Nat) (xs : Nat → Int32) : decode (ax_code (mgT L xs) 129) 49 = .ok (.bipush 99, 2) := by
  show decode prog_11_method_31_code 49 = _
  decide +kernel
theorem d129_51 (L : Nat) (xs : Nat → Int32) : decode (ax_code (mgT L xs) 129) 51 = .ok (.if_icmp .ne 21, 3) := by
  show decode prog_11_method_31_code 51 = _
  decide +kernel
theorem d129_54 (L : Nat) (xs : Nat → Int32) : decode (ax_code (mgT L xs) 129) 54 = .ok (.aload_n 0, 1) := by
  show decode prog_11_method_31_code 54 = _
  decide +kernel
theorem d129_55 (L : Nat) (xs : Nat → Int32) : decode (ax_code (mgT L xs) 129) 55 = .ok (.iload_n 1, 1) := by
  show decode prog_11_method_31_code 55 = _
  decide +kernel
theorem d129_56 (L : Nat) (xs : Nat → Int32) : decode (ax_code (mgT L xs) 129) 56 = .ok (.iload_n 2, 1) := by
  show decode prog_11_method_31_code 56 = _
  decide +kernel
theorem d129_57 (L : Nat) (xs : Nat → Int32) : decode (ax_code (mgT L xs) 129) 57 = .ok (.bipush 7, 2) := by
  show decode prog_11_method_31_code 57 = _
  decide +kernel
theorem d129_59 (L : Nat) (xs : Nat → Int32) : decode (ax_code (mgT L xs) 129) 59 = .ok (.iadd, 1) := by
  show decode prog_11_method_31_code 59 = _
  decide +kernel
theorem d129_60 (L : Nat) (xs : Nat → Int32) : decode (ax_code (mgT L xs) 129) 60 = .ok (.invokevirtual 166, 3) := by
  show decode prog_11_method_31_code 60 = _
  decide +kernel
theorem d129_63 (L : Nat) (xs : Nat → Int32) : decode (ax_code (mgT L xs) 129) 63 = .ok (.bipush 116, 2) := by
  show decode prog_11_method_31_code 63 = _
  decide +kernel
theorem d129_65 (L : Nat) (xs : Nat → Int32) : decode (ax_code (mgT L xs) 129) 65 = .ok (.if_icmp .ne 7, 3) := by
  show decode prog_11_method_31_code 65 = _
  decide +kernel
theorem d129_68 (L : Nat) (xs : Nat → Int32) : decode (ax_code (mgT L xs) 129) 68 = .ok (.iconst 1, 1) := by
  show decode prog_11_method_31_code 68 = _
  decide +kernel
theorem d129_69 (L : Nat) (xs : Nat → Int32) : decode (ax_code (mgT L xs) 129) 69 = .ok (.goto 4, 3) := by
  show decode prog_11_method_31_code 69 = _
  decide +kernel
theorem d129_72 (L : Nat) (xs : Nat → Int32) : decode (ax_code (mgT L xs) 129) 72 = .ok (.iconst 0, 1) := by
  show decode prog_11_method_31_code 72 = _
  decide +kernel
theorem d129_73 (L : Nat) (xs : Nat → Int32) : decode (ax_code (mgT L xs) 129) 73 = .ok (.ireturn, 1) := by
  show decode prog_11_method_31_code 73 = _
  decide +kernel
theorem d130_0 (L : Nat) (xs : Nat → Int32) : decode (ax_code (mgT L xs) 130) 0 = .ok (.iload_n 2, 1) := by
  show decode prog_11_method_16_code 0 = _
  decide +kernel
theorem d130_1 (L : Nat) (xs : Nat → Int32) : decode (ax_code (mgT L xs) 130) 1 = .ok (.istore 5, 2) := by
  show decode prog_11_method_16_code 1 = _
  decide +kernel
theorem d130_3 (L : Nat) (xs : Nat → Int32) : decode (ax_code (mgT L xs) 130) 3 = .ok (.iload 5, 2) := by
  show decode prog_11_method_16_code 3 = _
  decide +kernel
theorem d130_5 (L : Nat) (xs : Nat → Int32) : decode (ax_code (mgT L xs) 130) 5 = .ok (.iload_n 3, 1) := by
  show decode prog_11_method_16_code 5 = _
  decide +kernel
theorem d130_6 (L : Nat) (xs : Nat → Int32) : decode (ax_code (mgT L xs) 130) 6 = .ok (.if_icmp .ge 72, 3) := by
  show decode prog_11_method_16_code 6 = _
  decide +kernel
theorem d130_9 (L : Nat) (xs : Nat → Int32) : decode (ax_code (mgT L xs) 130) 9 = .ok (.aload_n 0, 1) := by
  show decode prog_11_method_16_code 9 = _
  decide +kernel
theorem d130_10 (L : Nat) (xs : Nat → Int32) : decode (ax_code (mgT L xs) 130) 10 = .ok (.getfield 16, 3) := by
  show decode prog_11_method_16_code 10 = _
  decide +kernel
theorem d130_13 (L : Nat) (xs : Nat → Int32) : decode (ax_code (mgT L xs) 130) 13 = .ok (.bipush 100, 2) := by
  show decode prog_11_method_16_code 13 = _
  decide +kernel
theorem d130_15 (L : Nat) (xs : Nat → Int32) : decode (ax_code (mgT L xs) 130) 15 = .ok (.iload_n 1, 1) := by
  show decode prog_11_method_16_code 15 = _
  decide +kernel
theorem d130_16 (L : Nat) (xs : Nat → Int32) : decode (ax_code (mgT L xs) 130) 16 = .ok (.imul, 1) := by
  show decode prog_11_method_16_code 16 = _
  decide +kernel
theorem d130_17 (L : Nat) (xs : Nat → Int32) : decode (ax_code (mgT L xs) 130) 17 = .ok (.iload 5, 2) := by
  show decode prog_11_method_16_code 17 = _
  decide +kernel
theorem d130_19 (L : Nat) (xs : Nat → Int32) : decode (ax_code (mgT L xs) 130) 19 = .ok (.iadd, 1) := by
  show decode prog_11_method_16_code 19 = _
  decide +kernel
theorem d130_20 (L : Nat) (xs : Nat → Int32) : decode (ax_code (mgT L xs) 130) 20 = .ok (.iaload, 1) := by
  show decode prog_11_method_16_code 20 = _
  decide +kernel
theorem d130_21 (L : Nat) (xs : Nat → Int32) : decode (ax_code (mgT L xs) 130) 21 = .ok (.istore 6, 2) := by
  show decode prog_11_method_16_code 21 = _
  decide +kernel
theorem d130_23 (L : Nat) (xs : Nat → Int32) : decode (ax_code (mgT L xs) 130) 23 = .ok (.iload 6, 2) := by
  show decode prog_11_method_16_code 23 = _
  decide +kernel
theorem d130_25 (L : Nat) (xs : Nat → Int32) : decode (ax_code (mgT L xs) 130) 25 = .ok (.bipush 47, 2) := by
  show decode prog_11_method_16_code 25 = _
  decide +kernel
theorem d130_27 (L : Nat) (xs : Nat → Int32) : decode (ax_code (mgT L xs) 130) 27 = .ok (.if_icmp .ne 8, 3) := by
  show decode prog_11_method_16_code 27 = _
  decide +kernel
theorem d130_30 (L : Nat) (xs : Nat → Int32) : decode (ax_code (mgT L xs) 130) 30 = .ok (.iload 4, 2) := by
  show decode prog_11_method_16_code 30 = _
  decide +kernel
theorem d130_32 (L : Nat) (xs : Nat → Int32) : decode (ax_code (mgT L xs) 130) 32 = .ok (.ifCond .eq 10, 3) := by
  show decode prog_11_method_16_code 32 = _
  decide +kernel
theorem d130_35 (L : Nat) (xs : Nat → Int32) : decode (ax_code (mgT L xs) 130) 35 = .ok (.iload 6, 2) := by
  show decode prog_11_method_16_code 35 = _
  decide +kernel
theorem d130_37 (L : Nat) (xs : Nat → Int32) : decode (ax_code (mgT L xs) 130) 37 = .ok (.bipush 33, 2) := by
  show decode prog_11_method_16_code 37 = _
  decide +kernel
theorem d130_39 (L : Nat) (xs : Nat → Int32) : decode (ax_code (mgT L xs) 130) 39 = .ok (.if_icmp .ge 5, 3) := by
  show decode prog_11_method_16_code 39 = _
  decide +kernel
theorem d130_42 (L : Nat) (xs : Nat → Int32) : decode (ax_code (mgT L xs) 130) 42 = .ok (.iconst 0, 1) := by
  show decode prog_11_method_16_code 42 = _
  decide +kernel
theorem d130_43 (L : Nat) (xs : Nat → Int32) : decode (ax_code (mgT L xs) 130) 43 = .ok (.ireturn, 1) := by
  show decode prog_11_method_16_code 43 = _
  decide +kernel
theorem d130_44 (L : Nat) (xs : Nat → Int32) : decode (ax_code (mgT L xs) 130) 44 = .ok (.iload 6, 2) := by
  show decode prog_11_method_16_code 44 = _
  decide +kernel
theorem d130_46 (L : Nat) (xs : Nat → Int32) : decode (ax_code (mgT L xs) 130) 46 = .ok (.bipush 37, 2) := by
  show decode prog_11_method_16_code 46 = _
  decide +kernel
theorem d130_48 (L : Nat) (xs : Nat → Int32) : decode (ax_code (mgT L xs) 130) 48 = .ok (.if_icmp .ne 14, 3) := by
  show decode prog_11_method_16_code 48 = _
  decide +kernel
theorem d130_51 (L : Nat) (xs : Nat → Int32) : decode (ax_code (mgT L xs) 130) 51 = .ok (.aload_n 0, 1) := by
  show decode prog_11_method_16_code 51 = _
  decide +kernel
theorem d130_52 (L : Nat) (xs : Nat → Int32) : decode (ax_code (mgT L xs) 130) 52 = .ok (.iload_n 1, 1) := by
  show decode prog_11_method_16_code 52 = _
  decide +kernel
theorem d130_53 (L : Nat) (xs : Nat → Int32) : decode (ax_code (mgT L xs) 130) 53 = .ok (.iload 5, 2) := by
  show decode prog_11_method_16_code 53 = _
  decide +kernel
theorem d130_55 (L : Nat) (xs : Nat → Int32) : decode (ax_code (mgT L xs) 130) 55 = .ok (.iload_n 3, 1) := by
  show decode prog_11_method_16_code 55 = _
  decide +kernel
theorem d130_56 (L : Nat) (xs : Nat → Int32) : decode (ax_code (mgT L xs) 130) 56 = .ok (.invokevirtual 130, 3) := by
  show decode prog_11_method_16_code 56 = _
  decide +kernel
theorem d130_59 (L : Nat) (xs : Nat → Int32) : decode (ax_code (mgT L xs) 130) 59 = .ok (.goto 7, 3) := by
  show decode prog_11_method_16_code 59 = _
  decide +kernel
theorem d130_62 (L : Nat) (xs : Nat → Int32) : decode (ax_code (mgT L xs) 130) 62 = .ok (.iload 5, 2) := by
  show decode prog_11_method_16_code 62 = _
  decide +kernel
theorem d130_64 (L : Nat) (xs : Nat → Int32) : decode (ax_code (mgT L xs) 130) 64 = .ok (.iconst 1, 1) := by
  show decode prog_11_method_16_code 64 = _
  decide +kernel
theorem d130_65 (L : Nat) (xs : Nat → Int32) : decode (ax_code (mgT L xs) 130) 65 = .ok (.iadd, 1) := by
  show decode prog_11_method_16_code 65 = _
  decide +kernel
theorem d130_66 (L : Nat) (xs : Nat → Int32) : decode (ax_code (mgT L xs) 130) 66 = .ok (.istore 5, 2) := by
  show decode prog_11_method_16_code 66 = _
  decide +kernel
theorem d130_68 (L : Nat) (xs : Nat → Int32) : decode (ax_code (mgT L xs) 130) 68 = .ok (.iload 5, 2) := by
  show decode prog_11_method_16_code 68 = _
  decide +kernel
theorem d130_70 (L : Nat) (xs : Nat → Int32) : decode (ax_code (mgT L xs) 130) 70 = .ok (.ifCond .ge 5, 3) := by
  show decode prog_11_method_16_code 70 = _
  decide +kernel
theorem d130_73 (L : Nat) (xs : Nat → Int32) : decode (ax_code (mgT L xs) 130) 73 = .ok (.iconst 0, 1) := by
  show decode prog_11_method_16_code 73 = _
  decide +kernel
theorem d130_74 (L : Nat) (xs : Nat → Int32) : decode (ax_code (mgT L xs) 130) 74 = .ok (.ireturn, 1) := by
  show decode prog_11_method_16_code 74 = _
  decide +kernel
theorem d130_75 (L : Nat) (xs : Nat → Int32) : decode (ax_code (mgT L xs) 130) 75 = .ok (.goto (-72), 3) := by
  show decode prog_11_method_16_code 75 = _
  decide +kernel
theorem d130_78 (L : Nat) (xs : Nat → Int32) : decode (ax_code (mgT L xs) 130) 78 = .ok (.iconst 1, 1) := by
  show decode prog_11_method_16_code 78 = _
  decide +kernel
theorem d130_79 (L : Nat) (xs : Nat → Int32) : decode (ax_code (mgT L xs) 130) 79 = .ok (.ireturn, 1) := by
  show decode prog_11_method_16_code 79 = _
  decide +kernel
theorem d132_0 (L : Nat) (xs : Nat → Int32) : decode (ax_code (mgT L xs) 132) 0 = .ok (.iload_n 0, 1) := by
  show decode prog_11_method_27_code 0 = _
  decide +kernel
theorem d132_1 (L : Nat) (xs : Nat → Int32) : decode (ax_code (mgT L xs) 132) 1 = .ok (.bipush 43, 2) := by
  show decode prog_11_method_27_code 1 = _
  decide +kernel
theorem d132_3 (L : Nat) (xs : Nat → Int32) : decode (ax_code (mgT L xs) 132) 3 = .ok (.if_icmp .eq 21, 3) := by
  show decode prog_11_method_27_code 3 = _
  decide +kernel
theorem d132_6 (L : Nat) (xs : Nat → Int32) : decode (ax_code (mgT L xs) 132) 6 = .ok (.iload_n 0, 1) := by
  show decode prog_11_method_27_code 6 = _
  decide +kernel
theorem d132_7 (L : Nat) (xs : Nat → Int32) : decode (ax_code (mgT L xs) 132) 7 = .ok (.bipush 45, 2) := by
  show decode prog_11_method_27_code 7 = _
  decide +kernel
theorem d132_9 (L : Nat) (xs : Nat → Int32) : decode (ax_code (mgT L xs) 132) 9 = .ok (.if_icmp .eq 15, 3) := by
  show decode prog_11_method_27_code 9 = _
  decide +kernel
theorem d132_12 (L : Nat) (xs : Nat → Int32) : decode (ax_code (mgT L xs) 132) 12 = .ok (.iload_n 0, 1) := by
  show decode prog_11_method_27_code 12 = _
  decide +kernel
theorem d132_13 (L : Nat) (xs : Nat → Int32) : decode (ax_code (mgT L xs) 132) 13 = .ok (.bipush 63, 2) := by
  show decode prog_11_method_27_code 13 = _
  decide +kernel
theorem d132_15 (L : Nat) (xs : Nat → Int32) : decode (ax_code (mgT L xs) 132) 15 = .ok (.if_icmp .eq 9, 3) := by
  show decode prog_11_method_27_code 15 = _
  decide +kernel
theorem d132_18 (L : Nat) (xs : Nat → Int32) : decode (ax_code (mgT L xs) 132) 18 = .ok (.iload_n 0, 1) := by
  show decode prog_11_method_27_code 18 = _
  decide +kernel
theorem d132_19 (L : Nat) (xs : Nat → Int32) : decode (ax_code (mgT L xs) 132) 19 = .ok (.bipush 126, 2) := by
  show decode prog_11_method_27_code 19 = _
  decide +kernel
theorem d132_21 (L : Nat) (xs : Nat → Int32) : decode (ax_code (mgT L xs) 132) 21 = .ok (.if_icmp .ne 7, 3) := by
  show decode prog_11_method_27_code 21 = _
  decide +kernel
theorem d132_24 (L : Nat) (xs : Nat → Int32) : decode (ax_code (mgT L xs) 132) 24 = .ok (.iconst 1, 1) := by
  show decode prog_11_method_27_code 24 = _
  decide +kernel
theorem d132_25 (L : Nat) (xs : Nat → Int32) : decode (ax_code (mgT L xs) 132) 25 = .ok (.goto 4, 3) := by
  show decode prog_11_method_27_code 25 = _
  decide +kernel
theorem d132_28 (L : Nat) (xs : Nat → Int32) : decode (ax_code (mgT L xs) 132) 28 = .ok (.iconst 0, 1) := by
  show decode prog_11_method_27_code 28 = _
  decide +kernel
theorem d132_29 (L : Nat) (xs : Nat → Int32) : decode (ax_code (mgT L xs) 132) 29 = .ok (.ireturn, 1) := by
  show decode prog_11_method_27_code 29 = _
  decide +kernel
theorem d135_0 (L : Nat) (xs : Nat → Int32) : decode (ax_code (mgT L xs) 135) 0 = .ok (.iload_n 2, 1) := by
  show decode prog_11_method_29_code 0 = _
  decide +kernel
theorem d135_1 (L : Nat) (xs : Nat → Int32) : decode (ax_code (mgT L xs) 135) 1 = .ok (.istore 4, 2) := by
  show decode prog_11_method_29_code 1 = _
  decide +kernel
theorem d135_3 (L : Nat) (xs : Nat → Int32) : decode (ax_code (mgT L xs) 135) 3 = .ok (.iload 4, 2) := by
  show decode prog_11_method_29_code 3 = _
  decide +kernel
theorem d135_5 (L : Nat) (xs : Nat → Int32) : decode (ax_code (mgT L xs) 135) 5 = .ok (.iload_n 3, 1) := by
  show decode prog_11_method_29_code 5 = _
  decide +kernel
theorem d135_6 (L : Nat) (xs : Nat → Int32) : decode (ax_code (mgT L xs) 135) 6 = .ok (.if_icmp .ge 21, 3) := by
  show decode prog_11_method_29_code 6 = _
  decide +kernel
theorem d135_9 (L : Nat) (xs : Nat → Int32) : decode (ax_code (mgT L xs) 135) 9 = .ok (.aload_n 0, 1) := by
  show decode prog_11_method_29_code 9 = _
  decide +kernel
theorem d135_10 (L : Nat) (xs : Nat → Int32) : decode (ax_code (mgT L xs) 135) 10 = .ok (.iload_n 1, 1) := by
  show decode prog_11_method_29_code 10 = _
  decide +kernel
theorem d135_11 (L : Nat) (xs : Nat → Int32) : decode (ax_code (mgT L xs) 135) 11 = .ok (.iload 4, 2) := by
  show decode prog_11_method_29_code 11 = _
  decide +kernel
theorem d135_13 (L : Nat) (xs : Nat → Int32) : decode (ax_code (mgT L xs) 135) 13 = .ok (.invokevirtual 166, 3) := by
  show decode prog_11_method_29_code 13 = _
  decide +kernel
theorem d135_16 (L : Nat) (xs : Nat → Int32) : decode (ax_code (mgT L xs) 135) 16 = .ok (.bipush 47, 2) := by
  show decode prog_11_method_29_code 16 = _
  decide +kernel
theorem d135_18 (L : Nat) (xs : Nat → Int32) : decode (ax_code (mgT L xs) 135) 18 = .ok (.if_icmp .eq 9, 3) := by
  show decode prog_11_method_29_code 18 = _
  decide +kernel
theorem d135_21 (L : Nat) (xs : Nat → Int32) : decode (ax_code (mgT L xs) 135) 21 = .ok (.iinc 4 1, 3) := by
  show decode prog_11_method_29_code 21 = _
  decide +kernel
theorem d135_24 (L : Nat) (xs : Nat → Int32) : decode (ax_code (mgT L xs) 135) 24 = .ok (.goto (-21), 3) := by
  show decode prog_11_method_29_code 24 = _
  decide +kernel
theorem d135_27 (L : Nat) (xs : Nat → Int32) : decode (ax_code (mgT L xs) 135) 27 = .ok (.iload 4, 2) := by
  show decode prog_11_method_29_code 27 = _
  decide +kernel
theorem d135_29 (L : Nat) (xs : Nat → Int32) : decode (ax_code (mgT L xs) 135) 29 = .ok (.ireturn, 1) := by
  show decode prog_11_method_29_code 29 = _
  decide +kernel
theorem bI_n {b : Bool} {P : Prop} (h : b = true ↔ P) : (P ∧ bI b = 1) ∨ (¬ P ∧ bI b = 0) := by
  cases b with
  | true => left; exact ⟨h.mp rfl, rfl⟩
  | false => right; exact ⟨fun p => absurd (h.mpr p) (by decide), rfl⟩
theorem f_wl_iff {g : Nat → Nat} {w : List Nat} {fr : Nat} : ∀ (m i : Nat), f_wl g w fr i m = true ↔ ∀ k, k < m → g (i + k) = w.getD (i + k - fr) 0 := by
  intro m
  induction m with
  | zero => intro i; exact ⟨fun _ k hk => by omega, fun _ => rfl⟩
  | succ m ih =>
    intro i
    rw [f_wl, Bool.and_eq_true, decide_eq_true_eq, ih]
    constructor
    · rintro ⟨h1, h2⟩ k hk
      cases k with
      | zero => exact h1
      | succ k => have := h2 k (by omega); rw [show i + (k + 1) = i + 1 + k by omega]; exact this
    · intro h
      refine ⟨h 0 (by omega), fun k hk => ?_⟩
      have := h (k + 1) (by omega)
      rw [show i + (k + 1) = i + 1 + k by omega] at this
      exact this
theorem t_word_iff {g : Nat → Nat} {w : List Nat} {fr to : Nat} : t_word g fr to w = true ↔ (to - fr = w.length ∧ ∀ k, k < w.length → g (fr + k) = w.getD k 0) := by
  unfold t_word
  rw [Bool.and_eq_true, decide_eq_true_eq, f_wl_iff]
  constructor
  · rintro ⟨h1, h2⟩
    refine ⟨h1, fun k hk => ?_⟩
    have := h2 k (by omega)
    rw [Nat.add_sub_cancel_left] at this
    exact this
  · rintro ⟨h1, h2⟩
    refine ⟨h1, fun k hk => ?_⟩
    rw [Nat.add_sub_cancel_left]
    exact h2 k (by omega)
theorem wd_red {g : Nat → Nat} (fr to : Nat) : ((to - fr = 8 ∧ g fr = 114 ∧ g (fr + 1) = 101 ∧ g (fr + 2) = 100 ∧ g (fr + 3) = 105 ∧ g (fr + 4) = 114 ∧ g (fr + 5) = 101 ∧ g (fr + 6) = 99 ∧ g (fr + 7) = 116) ∧ bI (t_word g fr to w_red) = 1) ∨ (¬ (to - fr = 8 ∧ g fr = 114 ∧ g (fr + 1) = 101 ∧ g (fr + 2) = 100 ∧ g (fr + 3) = 105 ∧ g (fr + 4) = 114 ∧ g (fr + 5) = 101 ∧ g (fr + 6) = 99 ∧ g (fr + 7) = 116) ∧ bI (t_word g fr to w_red) = 0) := by
  refine bI_n (t_word_iff.trans ?_)
  constructor
  · rintro ⟨h1, h2⟩
    exact ⟨h1, h2 0 (by decide), h2 1 (by decide), h2 2 (by decide), h2 3 (by decide), h2 4 (by decide), h2 5 (by decide), h2 6 (by decide), h2 7 (by decide)⟩
  · rintro ⟨h1, g0, g1, g2, g3, g4, g5, g6, g7⟩
    refine ⟨h1, fun k hk => ?_⟩
    have hk2 : k < 8 := hk
    have h9 : k = 0 ∨ k = 1 ∨ k = 2 ∨ k = 3 ∨ k = 4 ∨ k = 5 ∨ k = 6 ∨ k = 7 := by omega
    rcases h9 with rfl | rfl | rfl | rfl | rfl | rfl | rfl | rfl
    · exact g0
    · exact g1
    · exact g2
    · exact g3
    · exact g4
    · exact g5
    · exact g6
    · exact g7
theorem wd_all {g : Nat → Nat} (fr to : Nat) : ((to - fr = 3 ∧ g fr = 97 ∧ g (fr + 1) = 108 ∧ g (fr + 2) = 108) ∧ bI (t_word g fr to w_all) = 1) ∨ (¬ (to - fr = 3 ∧ g fr = 97 ∧ g (fr + 1) = 108 ∧ g (fr + 2) = 108) ∧ bI (t_word g fr to w_all) = 0) := by
  refine bI_n (t_word_iff.trans ?_)
  constructor
  · rintro ⟨h1, h2⟩
    exact ⟨h1, h2 0 (by decide), h2 1 (by decide), h2 2 (by decide)⟩
  · rintro ⟨h1, g0, g1, g2⟩
    refine ⟨h1, fun k hk => ?_⟩
    have hk2 : k < 3 := hk
    have h9 : k = 0 ∨ k = 1 ∨ k = 2 := by omega
    rcases h9 with rfl | rfl | rfl
    · exact g0
    · exact g1
    · exact g2
theorem wd_inc {g : Nat → Nat} (fr to : Nat) : ((to - fr = 7 ∧ g fr = 105 ∧ g (fr + 1) = 110 ∧ g (fr + 2) = 99 ∧ g (fr + 3) = 108 ∧ g (fr + 4) = 117 ∧ g (fr + 5) = 100 ∧ g (fr + 6) = 101) ∧ bI (t_word g fr to w_inc) = 1) ∨ (¬ (to - fr = 7 ∧ g fr = 105 ∧ g (fr + 1) = 110 ∧ g (fr + 2) = 99 ∧ g (fr + 3) = 108 ∧ g (fr + 4) = 117 ∧ g (fr + 5) = 100 ∧ g (fr + 6) = 101) ∧ bI (t_word g fr to w_inc) = 0) := by
  refine bI_n (t_word_iff.trans ?_)
  constructor
  · rintro ⟨h1, h2⟩
    exact ⟨h1, h2 0 (by decide), h2 1 (by decide), h2 2 (by decide), h2 3 (by decide), h2 4 (by decide), h2 5 (by decide), h2 6 (by decide)⟩
  · rintro ⟨h1, g0, g1, g2, g3, g4, g5, g6⟩
    refine ⟨h1, fun k hk => ?_⟩
    have hk2 : k < 7 := hk
    have h9 : k = 0 ∨ k = 1 ∨ k = 2 ∨ k = 3 ∨ k = 4 ∨ k = 5 ∨ k = 6 := by omega
    rcases h9 with rfl | rfl | rfl | rfl | rfl | rfl | rfl
    · exact g0
    · exact g1
    · exact g2
    · exact g3
    · exact g4
    · exact g5
    · exact g6
theorem wd_a {g : Nat → Nat} (fr to : Nat) : ((to - fr = 1 ∧ g fr = 97) ∧ bI (t_word g fr to w_a) = 1) ∨ (¬ (to - fr = 1 ∧ g fr = 97) ∧ bI (t_word g fr to w_a) = 0) := by
  refine bI_n (t_word_iff.trans ?_)
  constructor
  · rintro ⟨h1, h2⟩
    exact ⟨h1, h2 0 (by decide)⟩
  · rintro ⟨h1, g0⟩
    refine ⟨h1, fun k hk => ?_⟩
    have hk2 : k < 1 := hk
    have h9 : k = 0 := by omega
    rcases h9 with rfl
    exact g0
theorem wd_mx {g : Nat → Nat} (fr to : Nat) : ((to - fr = 2 ∧ g fr = 109 ∧ g (fr + 1) = 120) ∧ bI (t_word g fr to w_mx) = 1) ∨ (¬ (to - fr = 2 ∧ g fr = 109 ∧ g (fr + 1) = 120) ∧ bI (t_word g fr to w_mx) = 0) := by
  refine bI_n (t_word_iff.trans ?_)
  constructor
  · rintro ⟨h1, h2⟩
    exact ⟨h1, h2 0 (by decide), h2 1 (by decide)⟩
  · rintro ⟨h1, g0, g1⟩
    refine ⟨h1, fun k hk => ?_⟩
    have hk2 : k < 2 := hk
    have h9 : k = 0 ∨ k = 1 := by omega
    rcases h9 with rfl | rfl
    · exact g0
    · exact g1
theorem wd_ip4 {g : Nat → Nat} (fr to : Nat) : ((to - fr = 3 ∧ g fr = 105 ∧ g (fr + 1) = 112 ∧ g (fr + 2) = 52) ∧ bI (t_word g fr to w_ip4) = 1) ∨ (¬ (to - fr = 3 ∧ g fr = 105 ∧ g (fr + 1) = 112 ∧ g (fr + 2) = 52) ∧ bI (t_word g fr to w_ip4) = 0) := by
  refine bI_n (t_word_iff.trans ?_)
  constructor
  · rintro ⟨h1, h2⟩
    exact ⟨h1, h2 0 (by decide), h2 1 (by decide), h2 2 (by decide)⟩
  · rintro ⟨h1, g0, g1, g2⟩
    refine ⟨h1, fun k hk => ?_⟩
    have hk2 : k < 3 := hk
    have h9 : k = 0 ∨ k = 1 ∨ k = 2 := by omega
    rcases h9 with rfl | rfl | rfl
    · exact g0
    · exact g1
    · exact g2
theorem wd_exi {g : Nat → Nat} (fr to : Nat) : ((to - fr = 6 ∧ g fr = 101 ∧ g (fr + 1) = 120 ∧ g (fr + 2) = 105 ∧ g (fr + 3) = 115 ∧ g (fr + 4) = 116 ∧ g (fr + 5) = 115) ∧ bI (t_word g fr to w_exi) = 1) ∨ (¬ (to - fr = 6 ∧ g fr = 101 ∧ g (fr + 1) = 120 ∧ g (fr + 2) = 105 ∧ g (fr + 3) = 115 ∧ g (fr + 4) = 116 ∧ g (fr + 5) = 115) ∧ bI (t_word g fr to w_exi) = 0) := by
  refine bI_n (t_word_iff.trans ?_)
  constructor
  · rintro ⟨h1, h2⟩
    exact ⟨h1, h2 0 (by decide), h2 1 (by decide), h2 2 (by decide), h2 3 (by decide), h2 4 (by decide), h2 5 (by decide)⟩
  · rintro ⟨h1, g0, g1, g2, g3, g4, g5⟩
    refine ⟨h1, fun k hk => ?_⟩
    have hk2 : k < 6 := hk
    have h9 : k = 0 ∨ k = 1 ∨ k = 2 ∨ k = 3 ∨ k = 4 ∨ k = 5 := by omega
    rcases h9 with rfl | rfl | rfl | rfl | rfl | rfl
    · exact g0
    · exact g1
    · exact g2
    · exact g3
    · exact g4
    · exact g5
theorem wd_spf {g : Nat → Nat} (fr to : Nat) : ((to - fr = 6 ∧ g fr = 118 ∧ g (fr + 1) = 61 ∧ g (fr + 2) = 115 ∧ g (fr + 3) = 112 ∧ g (fr + 4) = 102 ∧ g (fr + 5) = 49) ∧ bI (t_word g fr to w_spf) = 1) ∨ (¬ (to - fr = 6 ∧ g fr = 118 ∧ g (fr + 1) = 61 ∧ g (fr + 2) = 115 ∧ g (fr + 3) = 112 ∧ g (fr + 4) = 102 ∧ g (fr + 5) = 49) ∧ bI (t_word g fr to w_spf) = 0) := by
  refine bI_n (t_word_iff.trans ?_)
  constructor
  · rintro ⟨h1, h2⟩
    exact ⟨h1, h2 0 (by decide), h2 1 (by decide), h2 2 (by decide), h2 3 (by decide), h2 4 (by decide), h2 5 (by decide)⟩
  · rintro ⟨h1, g0, g1, g2, g3, g4, g5⟩
    refine ⟨h1, fun k hk => ?_⟩
    have hk2 : k < 6 := hk
    have h9 : k = 0 ∨ k = 1 ∨ k = 2 ∨ k = 3 ∨ k = 4 ∨ k = 5 := by omega
    rcases h9 with rfl | rfl | rfl | rfl | rfl | rfl
    · exact g0
    · exact g1
    · exact g2
    · exact g3
    · exact g4
    · exact g5
theorem wd_p {g : Nat → Nat} (fr to : Nat) : ((to - fr = 1 ∧ g fr = 112) ∧ bI (t_word g fr to w_p) = 1) ∨ (¬ (to - fr = 1 ∧ g fr = 112) ∧ bI (t_word g fr to w_p) = 0) := by
  refine bI_n (t_word_iff.trans ?_)
  constructor
  · rintro ⟨h1, h2⟩
    exact ⟨h1, h2 0 (by decide)⟩
  · rintro ⟨h1, g0⟩
    refine ⟨h1, fun k hk => ?_⟩
    have hk2 : k < 1 := hk
    have h9 : k = 0 := by omega
    rcases h9 with rfl
    exact g0
theorem wd_sp {g : Nat → Nat} (fr to : Nat) : ((to - fr = 2 ∧ g fr = 115 ∧ g (fr + 1) = 112) ∧ bI (t_word g fr to w_sp) = 1) ∨ (¬ (to - fr = 2 ∧ g fr = 115 ∧ g (fr + 1) = 112) ∧ bI (t_word g fr to w_sp) = 0) := by
  refine bI_n (t_word_iff.trans ?_)
  constructor
  · rintro ⟨h1, h2⟩
    exact ⟨h1, h2 0 (by decide), h2 1 (by decide)⟩
  · rintro ⟨h1, g0, g1⟩
    refine ⟨h1, fun k hk => ?_⟩
    have hk2 : k < 2 := hk
    have h9 : k = 0 ∨ k = 1 := by omega
    rcases h9 with rfl | rfl
    · exact g0
    · exact g1
theorem wd_aspf {g : Nat → Nat} (fr to : Nat) : ((to - fr = 4 ∧ g fr = 97 ∧ g (fr + 1) = 115 ∧ g (fr + 2) = 112 ∧ g (fr + 3) = 102) ∧ bI (t_word g fr to w_aspf) = 1) ∨ (¬ (to - fr = 4 ∧ g fr = 97 ∧ g (fr + 1) = 115 ∧ g (fr + 2) = 112 ∧ g (fr + 3) = 102) ∧ bI (t_word g fr to w_aspf) = 0) := by
  refine bI_n (t_word_iff.trans ?_)
  constructor
  · rintro ⟨h1, h2⟩
    exact ⟨h1, h2 0 (by decide), h2 1 (by decide), h2 2 (by decide), h2 3 (by decide)⟩
  · rintro ⟨h1, g0, g1, g2, g3⟩
    refine ⟨h1, fun k hk => ?_⟩
    have hk2 : k < 4 := hk
    have h9 : k = 0 ∨ k = 1 ∨ k = 2 ∨ k = 3 := by omega
    rcases h9 with rfl | rfl | rfl | rfl
    · exact g0
    · exact g1
    · exact g2
    · exact g3
theorem wd_pct {g : Nat → Nat} (fr to : Nat) : ((to - fr = 3 ∧ g fr = 112 ∧ g (fr + 1) = 99 ∧ g (fr + 2) = 116) ∧ bI (t_word g fr to w_pct) = 1) ∨ (¬ (to - fr = 3 ∧ g fr = 112 ∧ g (fr + 1) = 99 ∧ g (fr + 2) = 116) ∧ bI (t_word g fr to w_pct) = 0) := by
  refine bI_n (t_word_iff.trans ?_)
  constructor
  · rintro ⟨h1, h2⟩
    exact ⟨h1, h2 0 (by decide), h2 1 (by decide), h2 2 (by decide)⟩
  · rintro ⟨h1, g0, g1, g2⟩
    refine ⟨h1, fun k hk => ?_⟩
    have hk2 : k < 3 := hk
    have h9 : k = 0 ∨ k = 1 ∨ k = 2 := by omega
    rcases h9 with rfl | rfl | rfl
    · exact g0
    · exact g1
    · exact g2
theorem wd_none {g : Nat → Nat} (fr to : Nat) : ((to - fr = 4 ∧ g fr = 110 ∧ g (fr + 1) = 111 ∧ g (fr + 2) = 110 ∧ g (fr + 3) = 101) ∧ bI (t_word g fr to w_none) = 1) ∨ (¬ (to - fr = 4 ∧ g fr = 110 ∧ g (fr + 1) = 111 ∧ g (fr + 2) = 110 ∧ g (fr + 3) = 101) ∧ bI (t_word g fr to w_none) = 0) := by
  refine bI_n (t_word_iff.trans ?_)
  constructor
  · rintro ⟨h1, h2⟩
    exact ⟨h1, h2 0 (by decide), h2 1 (by decide), h2 2 (by decide), h2 3 (by decide)⟩
  · rintro ⟨h1, g0, g1, g2, g3⟩
    refine ⟨h1, fun k hk => ?_⟩
    have hk2 : k < 4 := hk
    have h9 : k = 0 ∨ k = 1 ∨ k = 2 ∨ k = 3 := by omega
    rcases h9 with rfl | rfl | rfl | rfl
    · exact g0
    · exact g1
    · exact g2
    · exact g3
theorem wd_quar {g : Nat → Nat} (fr to : Nat) : ((to - fr = 10 ∧ g fr = 113 ∧ g (fr + 1) = 117 ∧ g (fr + 2) = 97 ∧ g (fr + 3) = 114 ∧ g (fr + 4) = 97 ∧ g (fr + 5) = 110 ∧ g (fr + 6) = 116 ∧ g (fr + 7) = 105 ∧ g (fr + 8) = 110 ∧ g (fr + 9) = 101) ∧ bI (t_word g fr to w_quar) = 1) ∨ (¬ (to - fr = 10 ∧ g fr = 113 ∧ g (fr + 1) = 117 ∧ g (fr + 2) = 97 ∧ g (fr + 3) = 114 ∧ g (fr + 4) = 97 ∧ g (fr + 5) = 110 ∧ g (fr + 6) = 116 ∧ g (fr + 7) = 105 ∧ g (fr + 8) = 110 ∧ g (fr + 9) = 101) ∧ bI (t_word g fr to w_quar) = 0) := by
  refine bI_n (t_word_iff.trans ?_)
  constructor
  · rintro ⟨h1, h2⟩
    exact ⟨h1, h2 0 (by decide), h2 1 (by decide), h2 2 (by decide), h2 3 (by decide), h2 4 (by decide), h2 5 (by decide), h2 6 (by decide), h2 7 (by decide), h2 8 (by decide), h2 9 (by decide)⟩
  · rintro ⟨h1, g0, g1, g2, g3, g4, g5, g6, g7, g8, g9⟩
    refine ⟨h1, fun k hk => ?_⟩
    have hk2 : k < 10 := hk
    have h9 : k = 0 ∨ k = 1 ∨ k = 2 ∨ k = 3 ∨ k = 4 ∨ k = 5 ∨ k = 6 ∨ k = 7 ∨ k = 8 ∨ k = 9 := by omega
    rcases h9 with rfl | rfl | rfl | rfl | rfl | rfl | rfl | rfl | rfl | rfl
    · exact g0
    · exact g1
    · exact g2
    · exact g3
    · exact g4
    · exact g5
    · exact g6
    · exact g7
    · exact g8
    · exact g9
theorem wd_rej {g : Nat → Nat} (fr to : Nat) : ((to - fr = 6 ∧ g fr = 114 ∧ g (fr + 1) = 101 ∧ g (fr + 2) = 106 ∧ g (fr + 3) = 101 ∧ g (fr + 4) = 99 ∧ g (fr + 5) = 116) ∧ bI (t_word g fr to w_rej) = 1) ∨ (¬ (to - fr = 6 ∧ g fr = 114 ∧ g (fr + 1) = 101 ∧ g (fr + 2) = 106 ∧ g (fr + 3) = 101 ∧ g (fr + 4) = 99 ∧ g (fr + 5) = 116) ∧ bI (t_word g fr to w_rej) = 0) := by
  refine bI_n (t_word_iff.trans ?_)
  constructor
  · rintro ⟨h1, h2⟩
    exact ⟨h1, h2 0 (by decide), h2 1 (by decide), h2 2 (by decide), h2 3 (by decide), h2 4 (by decide), h2 5 (by decide)⟩
  · rintro ⟨h1, g0, g1, g2, g3, g4, g5⟩
    refine ⟨h1, fun k hk => ?_⟩
    have hk2 : k < 6 := hk
    have h9 : k = 0 ∨ k = 1 ∨ k = 2 ∨ k = 3 ∨ k = 4 ∨ k = 5 := by omega
    rcases h9 with rfl | rfl | rfl | rfl | rfl | rfl
    · exact g0
    · exact g1
    · exact g2
    · exact g3
    · exact g4
    · exact g5
theorem wd_r {g : Nat → Nat} (fr to : Nat) : ((to - fr = 1 ∧ g fr = 114) ∧ bI (t_word g fr to w_r) = 1) ∨ (¬ (to - fr = 1 ∧ g fr = 114) ∧ bI (t_word g fr to w_r) = 0) := by
  refine bI_n (t_word_iff.trans ?_)
  constructor
  · rintro ⟨h1, h2⟩
    exact ⟨h1, h2 0 (by decide)⟩
  · rintro ⟨h1, g0⟩
    refine ⟨h1, fun k hk => ?_⟩
    have hk2 : k < 1 := hk
    have h9 : k = 0 := by omega
    rcases h9 with rfl
    exact g0
theorem wd_s {g : Nat → Nat} (fr to : Nat) : ((to - fr = 1 ∧ g fr = 115) ∧ bI (t_word g fr to w_s) = 1) ∨ (¬ (to - fr = 1 ∧ g fr = 115) ∧ bI (t_word g fr to w_s) = 0) := by
  refine bI_n (t_word_iff.trans ?_)
  constructor
  · rintro ⟨h1, h2⟩
    exact ⟨h1, h2 0 (by decide)⟩
  · rintro ⟨h1, g0⟩
    refine ⟨h1, fun k hk => ?_⟩
    have hk2 : k < 1 := hk
    have h9 : k = 0 := by omega
    rcases h9 with rfl
    exact g0
theorem wd_dm {g : Nat → Nat} (fr to : Nat) : ((to - fr = 8 ∧ g fr = 118 ∧ g (fr + 1) = 61 ∧ g (fr + 2) = 68 ∧ g (fr + 3) = 77 ∧ g (fr + 4) = 65 ∧ g (fr + 5) = 82 ∧ g (fr + 6) = 67 ∧ g (fr + 7) = 49) ∧ bI (t_word g fr to w_dm) = 1) ∨ (¬ (to - fr = 8 ∧ g fr = 118 ∧ g (fr + 1) = 61 ∧ g (fr + 2) = 68 ∧ g (fr + 3) = 77 ∧ g (fr + 4) = 65 ∧ g (fr + 5) = 82 ∧ g (fr + 6) = 67 ∧ g (fr + 7) = 49) ∧ bI (t_word g fr to w_dm) = 0) := by
  refine bI_n (t_word_iff.trans ?_)
  constructor
  · rintro ⟨h1, h2⟩
    exact ⟨h1, h2 0 (by decide), h2 1 (by decide), h2 2 (by decide), h2 3 (by decide), h2 4 (by decide), h2 5 (by decide), h2 6 (by decide), h2 7 (by decide)⟩
  · rintro ⟨h1, g0, g1, g2, g3, g4, g5, g6, g7⟩
    refine ⟨h1, fun k hk => ?_⟩
    have hk2 : k < 8 := hk
    have h9 : k = 0 ∨ k = 1 ∨ k = 2 ∨ k = 3 ∨ k = 4 ∨ k = 5 ∨ k = 6 ∨ k = 7 := by omega
    rcases h9 with rfl | rfl | rfl | rfl | rfl | rfl | rfl | rfl
    · exact g0
    · exact g1
    · exact g2
    · exact g3
    · exact g4
    · exact g5
    · exact g6
    · exact g7
theorem ga_cs (D : List Nat) (i : Nat) : (i < D.length ∧ ga D i = gl D i) ∨ (D.length ≤ i ∧ ga D i = 32 ∧ gl D i = 0) := by
  by_cases h : i < D.length
  · exact Or.inl ⟨h, ga_in h⟩
  · exact Or.inr ⟨by omega, ga_out (by omega), gl_out (by omega)⟩
def f_tgs (D : List Nat) (sl : Bool) (j : Nat) : Nat → Nat → Bool
  | 0, _ => true
  | m + 1, i => if i < j then (if (gl D i = 47 ∧ bI sl = 0) ∨ gl D i < 33 then false else if gl D i = 37 then (match t_mac (gl D) i j with
      | none => false
      | some e => f_tgs D sl j m (e + 1)) else f_tgs D sl j m (i + 1)) else true
theorem tgs_eq {D : List Nat} {sl : Bool} {j : Nat} : ∀ (m i : Nat), (∀ k, i ≤ k → k < j → 33 ≤ gl D k) → (sl = true ∨ ∀ k, i ≤ k → k < j → ¬ gl D k = 47) → f_tgs D sl j m i = f_tgt (gl D) j m i := by
  intro m
  induction m with
  | zero => intro i _ _; rfl
  | succ m ih =>
    intro i h1 h2
    rw [f_tgs, f_tgt]
    split
    · rename_i hi
      have a1 := h1 i (Nat.le_refl _) hi
      rw [if_neg (by
        rintro (⟨e1, e2⟩ | e)
        · rcases h2 with h2 | h2
          · rw [h2] at e2; cases e2
          · exact h2 i (Nat.le_refl _) hi e1
        · omega)]
      split
      · cases hq : t_mac (gl D) i j with
        | none => rfl
        | some e =>
          have := t_mac_lt hq
          exact ih (e + 1) (fun k hk => h1 k (by omega)) (h2.imp_right (fun h k hk => h k (by omega)))
      · exact ih (i + 1) (fun k hk => h1 k (by omega)) (h2.imp_right (fun h k hk => h k (by omega)))
    · rfl
theorem t_mac_no {g : Nat → Nat} {i j e k : Nat} (h : t_mac g i j = some e) (h0 : g i = 37) (hk : i ≤ k) (hk2 : k ≤ e) : ¬ g k = 47 := by
  unfold t_mac at h
  split at h
  · rename_i h1
    split at h
    · rename_i h2
      obtain ⟨h2, h3, h4⟩ := h2
      cases h
      revert h3 h4 hk2
      unfold m_e2
      by_cases a1 : 49 ≤ g (i + 3) ∧ g (i + 3) ≤ 57
      · rw [if_pos a1]
        by_cases a2 : g (i + 4) = 114
        · rw [if_pos a2]
          intro hk2 _ h4
          have h9 : k = i ∨ k = i + 1 ∨ k = i + 2 ∨ k = i + 3 ∨ k = i + 4 ∨ k = i + 5 := by omega
          rcases h9 with rfl | rfl | rfl | rfl | rfl | rfl <;> omega
        · rw [if_neg a2]
          intro hk2 _ h4
          have h9 : k = i ∨ k = i + 1 ∨ k = i + 2 ∨ k = i + 3 ∨ k = i + 4 := by omega
          rcases h9 with rfl | rfl | rfl | rfl | rfl <;> omega
      · rw [if_neg a1]
        by_cases a2 : g (i + 3) = 114
        · rw [if_pos a2]
          intro hk2 _ h4
          have h9 : k = i ∨ k = i + 1 ∨ k = i + 2 ∨ k = i + 3 ∨ k = i + 4 := by omega
          rcases h9 with rfl | rfl | rfl | rfl | rfl <;> omega
        · rw [if_neg a2]
          intro hk2 _ h4
          have h9 : k = i ∨ k = i + 1 ∨ k = i + 2 ∨ k = i + 3 := by omega
          rcases h9 with rfl | rfl | rfl | rfl <;> omega
    · cases h
  · split at h
    · rename_i h1 h2
      cases h
      have h9 : k = i ∨ k = i + 1 := by omega
      rcases h9 with rfl | rfl <;> omega
    · cases h
theorem tgs_sl {D : List Nat} {j : Nat} : ∀ (m i k : Nat), j ≤ i + m → i ≤ k → k < j → gl D k = 47 → f_tgs D false j m i = false := by
  intro m
  induction m with
  | zero => intro i k h1 h2 h3; omega
  | succ m ih =>
    intro i k h1 h2 h3 h4
    rw [f_tgs, if_pos (by omega)]
    split
    · rfl
    · rename_i hn
      have hne : ¬ gl D i = 47 := fun e => hn (Or.inl ⟨e, rfl⟩)
      have hki : ¬ k = i := fun e => hne (by rw [← e]; exact h4)
      split
      · rename_i h37
        cases hq : t_mac (gl D) i j with
        | none => rfl
        | some e =>
          have := t_mac_lt hq
          have h9 : e < k := by
            by_cases hke : k ≤ e
            · exact absurd h4 (t_mac_no hq h37 h2 hke)
            · omega
          exact ih (e + 1) k (by omega) (by omega) h3 h4
      · exact ih (i + 1) k (by omega) (by omega) h3 h4
section RM
variable {L : Nat} {xs : Nat → Int32} {d r c : Nat} {D : List Nat} {s : mg_s}
theorem md_tgt_l {k0 j : Nat} {sl : Bool} (hR : isRec s r c D) (hj : j ≤ D.length) : ∀ (m i : Nat) (c6 : Option Value), j ≤ i + m → i ≤ j → wp L xs (d + 1) 130 3 [some (.ref 141), some (.int (nI r)), some (.int (nI k0)), some (.int (nI (c + j))), some (.int (nI (bI sl))), some (.int (nI (c + i))), c6] [] s (fun v s' => v = some (.int (nI (bI (f_tgs D sl j m i)))) ∧ s = s') := by
  have hr16 := hR.1
  have hc1 := hR.2.1
  have hcl := hR.2.2.1
  have hb := bI_lt sl
  intro m
  induction m with
  | zero =>
    intro i c6 hm hi
    refine wg_iload (d130_3 L xs) rfl ?_
    refine wg_iload_n (d130_5 L xs) rfl ?_
    refine wn_icmp_ge (d130_6 L xs) (x := c + i) (y := c + j) (by omega) (by omega) (t := 78) (by decide) (fun h1 => ?_) (fun h1 => by omega)
    refine wg_iconst (d130_78 L xs) (x := 1) (by decide) ?_
    exact wg_iret (d130_79 L xs) rfl rfl ⟨rfl, rfl⟩
  | succ m ih =>
    intro i c6 hm hi
    have hg := rec_gl hR i
    rw [f_tgs]
    refine wg_iload (d130_3 L xs) rfl ?_
    refine wg_iload_n (d130_5 L xs) rfl ?_
    refine wn_icmp_ge (d130_6 L xs) (x := c + i) (y := c + j) (by omega) (by omega) (t := 78) (by decide) (fun h1 => ?_) (fun h1 => ?_)
    · refine wg_iconst (d130_78 L xs) (x := 1) (by decide) ?_
      exact wg_iret (d130_79 L xs) rfl rfl ⟨by rw [if_neg (by omega)]; rfl, rfl⟩
    · refine wg_aload_n (d130_9 L xs) rfl ?_
      refine wg_get (d130_10 L xs) (kd := 1) (cj := 9) (k0 := 5) rfl (Or.inl rfl) (by decide) rfl rfl ?_
      refine wg_bipush (d130_13 L xs) (x := 100) (by decide) ?_
      refine wg_iload_n (d130_15 L xs) rfl ?_
      refine wg_imul (d130_16 L xs) ?_
      refine wg_top (y := (nI (100 * r))) (pk_mul 100 r) ?_
      refine wg_iload (d130_17 L xs) rfl ?_
      refine wg_iadd (d130_19 L xs) ?_
      refine wg_top (y := (nI ((100 * r) + (c + i)))) (nI_add (100 * r) (c + i)) ?_
      refine wg_iald (d130_20 L xs) (n := 1600) (by decide) rfl (vp_in_nI (n := (100 * r) + (c + i)) (by omega) (by omega)) ?_
      refine wg_top (y := (nI (gl D i))) (by rw [nI_nat (n := (100 * r) + (c + i)) (by omega)]; exact (rec_at hR (i := i) (by omega) (by omega))) ?_
      refine wg_istore (d130_21 L xs) (ls' := [some (.ref 141), some (.int (nI r)), some (.int (nI k0)), some (.int (nI (c + j))), some (.int (nI (bI sl))), some (.int (nI (c + i))), some (.int (nI (gl D i)))]) (Nat.le_of_ble_eq_true rfl) rfl ?_
      refine wg_iload (d130_23 L xs) rfl ?_
      refine wg_bipush (d130_25 L xs) (x := 47) (by decide) ?_
      refine wn_icmp_ne (d130_27 L xs) (x := gl D i) (y := 47) (by omega) (by omega) (t := 35) (by decide) (fun h2 => ?_) (fun h2 => ?_)
      · refine wg_iload (d130_35 L xs) rfl ?_
        refine wg_bipush (d130_37 L xs) (x := 33) (by decide) ?_
        refine wn_icmp_ge (d130_39 L xs) (x := gl D i) (y := 33) (by omega) (by omega) (t := 44) (by decide) (fun h3 => ?_) (fun h3 => ?_)
        · refine wg_iload (d130_44 L xs) rfl ?_
          refine wg_bipush (d130_46 L xs) (x := 37) (by decide) ?_
          refine wn_icmp_ne (d130_48 L xs) (x := gl D i) (y := 37) (by omega) (by omega) (t := 62) (by decide) (fun h4 => ?_) (fun h4 => ?_)
          · refine wg_iload (d130_62 L xs) rfl ?_
            refine wg_iconst (d130_64 L xs) (x := 1) (by decide) ?_
            refine wg_iadd (d130_65 L xs) ?_
            refine wg_top (y := (nI (c + i + 1))) (nI_add (c + i) 1) ?_
            refine wg_istore (d130_66 L xs) (ls' := [some (.ref 141), some (.int (nI r)), some (.int (nI k0)), some (.int (nI (c + j))), some (.int (nI (bI sl))), some (.int (nI (c + i + 1))), some (.int (nI (gl D i)))]) (Nat.le_of_ble_eq_true rfl) rfl ?_
            refine wg_iload (d130_68 L xs) rfl ?_
            refine wn_if_ge (d130_70 L xs) (x := c + i + 1) (by omega) (t := 75) (by decide) (fun h5 => ?_) (fun h5 => by omega)
            refine wg_goto (d130_75 L xs) (t := 3) (by decide) ?_
            rw [if_pos (by omega), if_neg (by omega), if_neg (by omega)]; exact ih (i + 1) _ (by omega) (by omega)
          · rw [if_pos (by omega), if_neg (by omega), if_pos (by omega)]
            cases hq : t_mac (gl D) i j with
            | none =>
              refine wg_aload_n (d130_51 L xs) rfl ?_
              refine wg_iload_n (d130_52 L xs) rfl ?_
              refine wg_iload (d130_53 L xs) rfl ?_
              refine wg_iload_n (d130_55 L xs) rfl ?_
              refine wg_invv (d130_56 L xs) (kd := 7) (mj := 131) (n := 3) rfl (Or.inl rfl) (ys := [.int (nI (c + j)), .int (nI (c + i)), .int (nI r)]) (r := []) rfl rfl (by decide) rfl rfl (Nat.le_of_ble_eq_true rfl) (by have h := md_mac (L := L) (xs := xs) (d := d) (i := i) (j := j) hR hj (by omega); rw [hq] at h; exact h) ?_
              rintro _ _ ⟨rfl, rfl⟩
              refine wg_goto (d130_59 L xs) (t := 66) (by decide) ?_
              refine wg_istore (d130_66 L xs) (ls' := [some (.ref 141), some (.int (nI r)), some (.int (nI k0)), some (.int (nI (c + j))), some (.int (nI (bI sl))), some (.int (-1)), some (.int (nI (gl D i)))]) (Nat.le_of_ble_eq_true rfl) rfl ?_
              refine wg_iload (d130_68 L xs) rfl ?_
              refine wg_if_ge (d130_70 L xs) (t := 75) (by decide) (fun hp => absurd hp (by decide)) (fun _ => ?_)
              refine wg_iconst (d130_73 L xs) (x := 0) (by decide) ?_
              exact wg_iret (d130_74 L xs) rfl rfl ⟨rfl, rfl⟩
            | some e =>
              have he := t_mac_lt hq
              refine wg_aload_n (d130_51 L xs) rfl ?_
              refine wg_iload_n (d130_52 L xs) rfl ?_
              refine wg_iload (d130_53 L xs) rfl ?_
              refine wg_iload_n (d130_55 L xs) rfl ?_
              refine wg_invv (d130_56 L xs) (kd := 7) (mj := 131) (n := 3) rfl (Or.inl rfl) (ys := [.int (nI (c + j)), .int (nI (c + i)), .int (nI r)]) (r := []) rfl rfl (by decide) rfl rfl (Nat.le_of_ble_eq_true rfl) (by have h := md_mac (L := L) (xs := xs) (d := d) (i := i) (j := j) hR hj (by omega); rw [hq] at h; exact h) ?_
              rintro _ _ ⟨rfl, rfl⟩
              refine wg_goto (d130_59 L xs) (t := 66) (by decide) ?_
              refine wg_istore (d130_66 L xs) (ls' := [some (.ref 141), some (.int (nI r)), some (.int (nI k0)), some (.int (nI (c + j))), some (.int (nI (bI sl))), some (.int (nI (c + e + 1))), some (.int (nI (gl D i)))]) (Nat.le_of_ble_eq_true rfl) rfl ?_
              refine wg_iload (d130_68 L xs) rfl ?_
              refine wn_if_ge (d130_70 L xs) (x := c + e + 1) (by omega) (t := 75) (by decide) (fun h1 => ?_) (fun h1 => by omega)
              refine wg_goto (d130_75 L xs) (t := 3) (by decide) ?_
              exact ih (e + 1) _ (by omega) (by omega)
        · refine wg_iconst (d130_42 L xs) (x := 0) (by decide) ?_
          exact wg_iret (d130_43 L xs) rfl rfl ⟨by rw [if_pos (by omega), if_pos (by omega)]; rfl, rfl⟩
      · refine wg_iload (d130_30 L xs) rfl ?_
        refine wn_if_eq (d130_32 L xs) (x := bI sl) (by omega) (t := 42) (by decide) (fun h6 => ?_) (fun h6 => ?_)
        · refine wg_iconst (d130_42 L xs) (x := 0) (by decide) ?_
          exact wg_iret (d130_43 L xs) rfl rfl ⟨by rw [if_pos (by omega), if_pos (by omega)]; rfl, rfl⟩
        · refine wg_iload (d130_35 L xs) rfl ?_
          refine wg_bipush (d130_37 L xs) (x := 33) (by decide) ?_
          refine wn_icmp_ge (d130_39 L xs) (x := gl D i) (y := 33) (by omega) (by omega) (t := 44) (by decide) (fun h7 => ?_) (fun h7 => ?_)
          · refine wg_iload (d130_44 L xs) rfl ?_
            refine wg_bipush (d130_46 L xs) (x := 37) (by decide) ?_
            refine wn_icmp_ne (d130_48 L xs) (x := gl D i) (y := 37) (by omega) (by omega) (t := 62) (by decide) (fun h8 => ?_) (fun h8 => ?_)
            · refine wg_iload (d130_62 L xs) rfl ?_
              refine wg_iconst (d130_64 L xs) (x := 1) (by decide) ?_
              refine wg_iadd (d130_65 L xs) ?_
              refine wg_top (y := (nI (c + i + 1))) (nI_add (c + i) 1) ?_
              refine wg_istore (d130_66 L xs) (ls' := [some (.ref 141), some (.int (nI r)), some (.int (nI k0)), some (.int (nI (c + j))), some (.int (nI (bI sl))), some (.int (nI (c + i + 1))), some (.int (nI (gl D i)))]) (Nat.le_of_ble_eq_true rfl) rfl ?_
              refine wg_iload (d130_68 L xs) rfl ?_
              refine wn_if_ge (d130_70 L xs) (x := c + i + 1) (by omega) (t := 75) (by decide) (fun h9 => ?_) (fun h9 => by omega)
              refine wg_goto (d130_75 L xs) (t := 3) (by decide) ?_
              rw [if_pos (by omega), if_neg (by omega), if_neg (by omega)]; exact ih (i + 1) _ (by omega) (by omega)
            · rw [if_pos (by omega), if_neg (by omega), if_pos (by omega)]
              cases hq : t_mac (gl D) i j with
              | none =>
                refine wg_aload_n (d130_51 L xs) rfl ?_
                refine wg_iload_n (d130_52 L xs) rfl ?_
                refine wg_iload (d130_53 L xs) rfl ?_
                refine wg_iload_n (d130_55 L xs) rfl ?_
                refine wg_invv (d130_56 L xs) (kd := 7) (mj := 131) (n := 3) rfl (Or.inl rfl) (ys := [.int (nI (c + j)), .int (nI (c + i)), .int (nI r)]) (r := []) rfl rfl (by decide) rfl rfl (Nat.le_of_ble_eq_true rfl) (by have h := md_mac (L := L) (xs := xs) (d := d) (i := i) (j := j) hR hj (by omega); rw [hq] at h; exact h) ?_
                rintro _ _ ⟨rfl, rfl⟩
                refine wg_goto (d130_59 L xs) (t := 66) (by decide) ?_
                refine wg_istore (d130_66 L xs) (ls' := [some (.ref 141), some (.int (nI r)), some (.int (nI k0)), some (.int (nI (c + j))), some (.int (nI (bI sl))), some (.int (-1)), some (.int (nI (gl D i)))]) (Nat.le_of_ble_eq_true rfl) rfl ?_
                refine wg_iload (d130_68 L xs) rfl ?_
                refine wg_if_ge (d130_70 L xs) (t := 75) (by decide) (fun hp => absurd hp (by decide)) (fun _ => ?_)
                refine wg_iconst (d130_73 L xs) (x := 0) (by decide) ?_
                exact wg_iret (d130_74 L xs) rfl rfl ⟨rfl, rfl⟩
              | some e =>
                have he := t_mac_lt hq
                refine wg_aload_n (d130_51 L xs) rfl ?_
                refine wg_iload_n (d130_52 L xs) rfl ?_
                refine wg_iload (d130_53 L xs) rfl ?_
                refine wg_iload_n (d130_55 L xs) rfl ?_
                refine wg_invv (d130_56 L xs) (kd := 7) (mj := 131) (n := 3) rfl (Or.inl rfl) (ys := [.int (nI (c + j)), .int (nI (c + i)), .int (nI r)]) (r := []) rfl rfl (by decide) rfl rfl (Nat.le_of_ble_eq_true rfl) (by have h := md_mac (L := L) (xs := xs) (d := d) (i := i) (j := j) hR hj (by omega); rw [hq] at h; exact h) ?_
                rintro _ _ ⟨rfl, rfl⟩
                refine wg_goto (d130_59 L xs) (t := 66) (by decide) ?_
                refine wg_istore (d130_66 L xs) (ls' := [some (.ref 141), some (.int (nI r)), some (.int (nI k0)), some (.int (nI (c + j))), some (.int (nI (bI sl))), some (.int (nI (c + e + 1))), some (.int (nI (gl D i)))]) (Nat.le_of_ble_eq_true rfl) rfl ?_
                refine wg_iload (d130_68 L xs) rfl ?_
                refine wn_if_ge (d130_70 L xs) (x := c + e + 1) (by omega) (t := 75) (by decide) (fun h1 => ?_) (fun h1 => by omega)
                refine wg_goto (d130_75 L xs) (t := 3) (by decide) ?_
                exact ih (e + 1) _ (by omega) (by omega)
          · refine wg_iconst (d130_42 L xs) (x := 0) (by decide) ?_
            exact wg_iret (d130_43 L xs) rfl rfl ⟨by rw [if_pos (by omega), if_pos (by omega)]; rfl, rfl⟩
theorem md_tgt {i j : Nat} {sl : Bool} (hR : isRec s r c D) (hj : j ≤ D.length) (hi : i ≤ j) : ca L xs (d + 2) 130 [.ref 141, .int (nI r), .int (nI (c + i)), .int (nI (c + j)), .int (nI (bI sl))] s (fun v s' => v = some (.int (nI (bI (f_tgs D sl j (j - i) i)))) ∧ s = s') := by
  refine wg_call (Nat.le_of_ble_eq_true rfl) ?_
  show wp L xs (d + 1) 130 0 [some (.ref 141), some (.int (nI r)), some (.int (nI (c + i))), some (.int (nI (c + j))), some (.int (nI (bI sl))), none, none] [] s _
  refine wg_iload_n (d130_0 L xs) rfl ?_
  refine wg_istore (d130_1 L xs) (ls' := [some (.ref 141), some (.int (nI r)), some (.int (nI (c + i))), some (.int (nI (c + j))), some (.int (nI (bI sl))), some (.int (nI (c + i))), none]) (Nat.le_of_ble_eq_true rfl) rfl ?_
  exact md_tgt_l hR hj (j - i) i _ (by omega) hi
theorem md_red {i e : Nat} (hR : isRec s r c D) (he : e < D.length) (hi : i < e) : ca L xs (d + 3) 129 [.ref 141, .int (nI r), .int (nI (c + i)), .int (nI (c + e))] s (fun v s' => v = some (.int (nI (bI (t_word (gl D) i e w_red)))) ∧ s = s') := by
  refine wg_call (Nat.le_of_ble_eq_true rfl) ?_
  have hr16 := hR.1
  have hc1 := hR.2.1
  have hcl := hR.2.2.1
  have hga0 := ga_cs D i
  have hgl0 := ga_lt hR i
  have hga1 := ga_cs D (i + 1)
  have hgl1 := ga_lt hR (i + 1)
  have hga2 := ga_cs D (i + 2)
  have hgl2 := ga_lt hR (i + 2)
  have hga3 := ga_cs D (i + 3)
  have hgl3 := ga_lt hR (i + 3)
  have hga4 := ga_cs D (i + 4)
  have hgl4 := ga_lt hR (i + 4)
  have hga5 := ga_cs D (i + 5)
  have hgl5 := ga_lt hR (i + 5)
  have hga6 := ga_cs D (i + 6)
  have hgl6 := ga_lt hR (i + 6)
  have hga7 := ga_cs D (i + 7)
  have hgl7 := ga_lt hR (i + 7)
  have hw1 := w3_n D i 114 101 100
  have hw2 := w3_n D (i + 3) 105 114 101
  have hwd := wd_red (g := gl D) i e
  simp only [Nat.add_assoc, Nat.reduceAdd] at hw2
  show wp L xs (d + 2) 129 0 [some (.ref 141), some (.int (nI r)), some (.int (nI (c + i))), some (.int (nI (c + e)))] [] s _
  refine wg_iload_n (d129_0 L xs) rfl ?_
  refine wg_iload_n (d129_1 L xs) rfl ?_
  refine wg_bipush (d129_2 L xs) (x := 8) (by decide) ?_
  refine wg_iadd (d129_4 L xs) ?_
  refine wg_top (y := (nI (c + i + 8))) (nI_add (c + i) 8) ?_
  refine wn_icmp_ne (d129_5 L xs) (x := c + e) (y := c + i + 8) (by omega) (by omega) (t := 72) (by decide) (fun h1 => ?_) (fun h1 => ?_)
  · refine wg_iconst (d129_72 L xs) (x := 0) (by decide) ?_
    exact wg_iret (d129_73 L xs) rfl rfl ⟨by rw [show bI (t_word (gl D) i e w_red) = 0 by omega]; rfl, rfl⟩
  · refine wg_aload_n (d129_8 L xs) rfl ?_
    refine wg_iload_n (d129_9 L xs) rfl ?_
    refine wg_iload_n (d129_10 L xs) rfl ?_
    refine wg_bipush (d129_11 L xs) (x := 114) (by decide) ?_
    refine wg_bipush (d129_13 L xs) (x := 101) (by decide) ?_
    refine wg_bipush (d129_15 L xs) (x := 100) (by decide) ?_
    refine wg_invv (d129_17 L xs) (kd := 7) (mj := 124) (n := 5) rfl (Or.inl rfl) (ys := [.int 100, .int 101, .int 114, .int (nI (c + i)), .int (nI r)]) (r := []) rfl rfl (by decide) rfl rfl (Nat.le_of_ble_eq_true rfl) (md_word (i := i) (x := 114) (y := 101) (z := 100) hR (by omega) (by omega) (by omega) (by omega) (by omega)) ?_
    rintro _ _ ⟨rfl, rfl⟩
    refine wn_if_eq (d129_20 L xs) (x := bI (w3 D i 114 101 100)) (by omega) (t := 72) (by decide) (fun h2 => ?_) (fun h2 => ?_)
    · refine wg_iconst (d129_72 L xs) (x := 0) (by decide) ?_
      exact wg_iret (d129_73 L xs) rfl rfl ⟨by rw [show bI (t_word (gl D) i e w_red) = 0 by omega]; rfl, rfl⟩
    · refine wg_aload_n (d129_23 L xs) rfl ?_
      refine wg_iload_n (d129_24 L xs) rfl ?_
      refine wg_iload_n (d129_25 L xs) rfl ?_
      refine wg_iconst (d129_26 L xs) (x := 3) (by decide) ?_
      refine wg_iadd (d129_27 L xs) ?_
      refine wg_top (y := (nI (c + i + 3))) (nI_add (c + i) 3) ?_
      refine wg_bipush (d129_28 L xs) (x := 105) (by decide) ?_
      refine wg_bipush (d129_30 L xs) (x := 114) (by decide) ?_
      refine wg_bipush (d129_32 L xs) (x := 101) (by decide) ?_
      refine wg_invv (d129_34 L xs) (kd := 7) (mj := 124) (n := 5) rfl (Or.inl rfl) (ys := [.int 101, .int 114, .int 105, .int (nI (c + i + 3)), .int (nI r)]) (r := []) rfl rfl (by decide) rfl rfl (Nat.le_of_ble_eq_true rfl) (md_word (i := i + 3) (x := 105) (y := 114) (z := 101) hR (by omega) (by omega) (by omega) (by omega) (by omega)) ?_
      rintro _ _ ⟨rfl, rfl⟩
      refine wn_if_eq (d129_37 L xs) (x := bI (w3 D (i + 3) 105 114 101)) (by omega) (t := 72) (by decide) (fun h3 => ?_) (fun h3 => ?_)
      · refine wg_iconst (d129_72 L xs) (x := 0) (by decide) ?_
        exact wg_iret (d129_73 L xs) rfl rfl ⟨by rw [show bI (t_word (gl D) i e w_red) = 0 by omega]; rfl, rfl⟩
      · refine wg_aload_n (d129_40 L xs) rfl ?_
        refine wg_iload_n (d129_41 L xs) rfl ?_
        refine wg_iload_n (d129_42 L xs) rfl ?_
        refine wg_bipush (d129_43 L xs) (x := 6) (by decide) ?_
        refine wg_iadd (d129_45 L xs) ?_
        refine wg_top (y := (nI (c + i + 6))) (nI_add (c + i) 6) ?_
        refine wg_invv (d129_46 L xs) (kd := 7) (mj := 125) (n := 2) rfl (Or.inl rfl) (ys := [.int (nI (c + i + 6)), .int (nI r)]) (r := []) rfl rfl (by decide) rfl rfl (Nat.le_of_ble_eq_true rfl) (md_at (i := i + 6) hR (by omega) (by omega)) ?_
        rintro _ _ ⟨rfl, rfl⟩
        refine wg_bipush (d129_49 L xs) (x := 99) (by decide) ?_
        refine wn_icmp_ne (d129_51 L xs) (x := ga D (i + 6)) (y := 99) (by omega) (by omega) (t := 72) (by decide) (fun h4 => ?_) (fun h4 => ?_)
        · refine wg_iconst (d129_72 L xs) (x := 0) (by decide) ?_
          exact wg_iret (d129_73 L xs) rfl rfl ⟨by rw [show bI (t_word (gl D) i e w_red) = 0 by omega]; rfl, rfl⟩
        · refine wg_aload_n (d129_54 L xs) rfl ?_
          refine wg_iload_n (d129_55 L xs) rfl ?_
          refine wg_iload_n (d129_56 L xs) rfl ?_
          refine wg_bipush (d129_57 L xs) (x := 7) (by decide) ?_
          refine wg_iadd (d129_59 L xs) ?_
          refine wg_top (y := (nI (c + i + 7))) (nI_add (c + i) 7) ?_
          refine wg_invv (d129_60 L xs) (kd := 7) (mj := 125) (n := 2) rfl (Or.inl rfl) (ys := [.int (nI (c + i + 7)), .int (nI r)]) (r := []) rfl rfl (by decide) rfl rfl (Nat.le_of_ble_eq_true rfl) (md_at (i := i + 7) hR (by omega) (by omega)) ?_
          rintro _ _ ⟨rfl, rfl⟩
          refine wg_bipush (d129_63 L xs) (x := 116) (by decide) ?_
          refine wn_icmp_ne (d129_65 L xs) (x := ga D (i + 7)) (y := 116) (by omega) (by omega) (t := 72) (by decide) (fun h5 => ?_) (fun h5 => ?_)
          · refine wg_iconst (d129_72 L xs) (x := 0) (by decide) ?_
            exact wg_iret (d129_73 L xs) rfl rfl ⟨by rw [show bI (t_word (gl D) i e w_red) = 0 by omega]; rfl, rfl⟩
          · refine wg_iconst (d129_68 L xs) (x := 1) (by decide) ?_
            refine wg_goto (d129_69 L xs) (t := 73) (by decide) ?_
            exact wg_iret (d129_73 L xs) rfl rfl ⟨by rw [show bI (t_word (gl D) i e w_red) = 1 by omega]; rfl, rfl⟩
theorem md_sign {x : Nat} (hx : x < 2 ^ 20) : ca L xs (d + 1) 132 [.int (nI x)] s (fun v s' => v = some (.int (nI (bI (c_sg x)))) ∧ s = s') := by
  refine wg_call (Nat.le_of_ble_eq_true rfl) ?_
  have hs : ((x = 45 ∨ x = 63 ∨ x = 126 ∨ x = 43) ∧ bI (c_sg x) = 1) ∨ (¬ (x = 45 ∨ x = 63 ∨ x = 126 ∨ x = 43) ∧ bI (c_sg x) = 0) := bI_n (by unfold c_sg; simp [or_assoc])
  show wp L xs d 132 0 [some (.int (nI x))] [] s _
  refine wg_iload_n (d132_0 L xs) rfl ?_
  refine wg_bipush (d132_1 L xs) (x := 43) (by decide) ?_
  refine wn_icmp_eq (d132_3 L xs) (x := x) (y := 43) (by omega) (by omega) (t := 24) (by decide) (fun h1 => ?_) (fun h1 => ?_)
  · refine wg_iconst (d132_24 L xs) (x := 1) (by decide) ?_
    refine wg_goto (d132_25 L xs) (t := 29) (by decide) ?_
    exact wg_iret (d132_29 L xs) rfl rfl ⟨by rw [show bI (c_sg x) = 1 by omega]; rfl, rfl⟩
  · refine wg_iload_n (d132_6 L xs) rfl ?_
    refine wg_bipush (d132_7 L xs) (x := 45) (by decide) ?_
    refine wn_icmp_eq (d132_9 L xs) (x := x) (y := 45) (by omega) (by omega) (t := 24) (by decide) (fun h2 => ?_) (fun h2 => ?_)
    · refine wg_iconst (d132_24 L xs) (x := 1) (by decide) ?_
      refine wg_goto (d132_25 L xs) (t := 29) (by decide) ?_
      exact wg_iret (d132_29 L xs) rfl rfl ⟨by rw [show bI (c_sg x) = 1 by omega]; rfl, rfl⟩
    · refine wg_iload_n (d132_12 L xs) rfl ?_
      refine wg_bipush (d132_13 L xs) (x := 63) (by decide) ?_
      refine wn_icmp_eq (d132_15 L xs) (x := x) (y := 63) (by omega) (by omega) (t := 24) (by decide) (fun h3 => ?_) (fun h3 => ?_)
      · refine wg_iconst (d132_24 L xs) (x := 1) (by decide) ?_
        refine wg_goto (d132_25 L xs) (t := 29) (by decide) ?_
        exact wg_iret (d132_29 L xs) rfl rfl ⟨by rw [show bI (c_sg x) = 1 by omega]; rfl, rfl⟩
      · refine wg_iload_n (d132_18 L xs) rfl ?_
        refine wg_bipush (d132_19 L xs) (x := 126) (by decide) ?_
        refine wn_icmp_ne (d132_21 L xs) (x := x) (y := 126) (by omega) (by omega) (t := 28) (by decide) (fun h4 => ?_) (fun h4 => ?_)
        · refine wg_iconst (d132_28 L xs) (x := 0) (by decide) ?_
          exact wg_iret (d132_29 L xs) rfl rfl ⟨by rw [show bI (c_sg x) = 0 by omega]; rfl, rfl⟩
        · refine wg_iconst (d132_24 L xs) (x := 1) (by decide) ?_
          refine wg_goto (d132_25 L xs) (t := 29) (by decide) ?_
          exact wg_iret (d132_29 L xs) rfl rfl ⟨by rw [show bI (c_sg x) = 1 by omega]; rfl, rfl⟩
theorem md_slash_l {k0 j : Nat} (hR : isRec s r c D) (hj : j ≤ D.length) : ∀ (m i : Nat), i + m = j → wp L xs (d + 1) 135 3 [some (.ref 141), some (.int (nI r)), some (.int (nI k0)), some (.int (nI (c + j))), some (.int (nI (c + i)))] [] s (fun v s' => v = some (.int (nI (c + f_find (gl D) 47 i m))) ∧ s = s') := by
  have hr16 := hR.1
  have hc1 := hR.2.1
  have hcl := hR.2.2.1
  intro m
  induction m with
  | zero =>
    intro i hi
    refine wg_iload (d135_3 L xs) rfl ?_
    refine wg_iload_n (d135_5 L xs) rfl ?_
    refine wn_icmp_ge (d135_6 L xs) (x := c + i) (y := c + j) (by omega) (by omega) (t := 27) (by decide) (fun h1 => ?_) (fun h1 => by omega)
    refine wg_iload (d135_27 L xs) rfl ?_
    exact wg_iret (d135_29 L xs) rfl rfl ⟨rfl, rfl⟩
  | succ m ih =>
    intro i hi
    have hga := ga_cs D i
    have hgl := ga_lt hR i
    rw [f_find]
    refine wg_iload (d135_3 L xs) rfl ?_
    refine wg_iload_n (d135_5 L xs) rfl ?_
    refine wn_icmp_ge (d135_6 L xs) (x := c + i) (y := c + j) (by omega) (by omega) (t := 27) (by decide) (fun h1 => by omega) (fun h1 => ?_)
    refine wg_aload_n (d135_9 L xs) rfl ?_
    refine wg_iload_n (d135_10 L xs) rfl ?_
    refine wg_iload (d135_11 L xs) rfl ?_
    refine wg_invv (d135_13 L xs) (kd := 7) (mj := 125) (n := 2) rfl (Or.inl rfl) (ys := [.int (nI (c + i)), .int (nI r)]) (r := []) rfl rfl (by decide) rfl rfl (Nat.le_of_ble_eq_true rfl) (md_at (i := i) hR (by omega) (by omega)) ?_
    rintro _ _ ⟨rfl, rfl⟩
    refine wg_bipush (d135_16 L xs) (x := 47) (by decide) ?_
    refine wn_icmp_eq (d135_18 L xs) (x := ga D i) (y := 47) (by omega) (by omega) (t := 27) (by decide) (fun h2 => ?_) (fun h2 => ?_)
    · refine wg_iload (d135_27 L xs) rfl ?_
      exact wg_iret (d135_29 L xs) rfl rfl ⟨by rw [if_pos (by omega)], rfl⟩
    · refine wg_iinc (d135_21 L xs) (y := (nI (c + i + 1))) (ls' := [some (.ref 141), some (.int (nI r)), some (.int (nI k0)), some (.int (nI (c + j))), some (.int (nI (c + i + 1)))]) rfl (nI_add (c + i) 1) rfl ?_
      refine wg_goto (d135_24 L xs) (t := 3) (by decide) ?_
      rw [if_neg (by omega)]; exact ih (i + 1) (by omega)
theorem md_slash {i j : Nat} (hR : isRec s r c D) (hj : j ≤ D.length) (hi : i ≤ j) : ca L xs (d + 2) 135 [.ref 141, .int (nI r), .int (nI (c + i)), .int (nI (c + j))] s (fun v s' => v = some (.int (nI (c + f_find (gl D) 47 i (j - i)))) ∧ s = s') := by
  refine wg_call (Nat.le_of_ble_eq_true rfl) ?_
  show wp L xs (d + 1) 135 0 [some (.ref 141), some (.int (nI r)), some (.int (nI (c + i))), some (.int (nI (c + j))), none] [] s _
  refine wg_iload_n (d135_0 L xs) rfl ?_
  refine wg_istore (d135_1 L xs) (ls' := [some (.ref 141), some (.int (nI r)), some (.int (nI (c + i))), some (.int (nI (c + j))), some (.int (nI (c + i)))]) (Nat.le_of_ble_eq_true rfl) rfl ?_
  exact md_slash_l hR hj _ i (by omega)
theorem md_counts (hR : isRec s r c D) : ca L xs (d + 3) 123 [.ref 141, .int (nI r)] s (fun v s' => v = some (.int (nI (bI (t_rec D)))) ∧ s = s') := by
  refine wg_call (Nat.le_of_ble_eq_true rfl) ?_
  have hr16 := hR.1
  have hc1 := hR.2.1
  have hcl := hR.2.2.1
  have hga0 := ga_cs D 0
  have hga1 := ga_cs D 1
  have hga2 := ga_cs D 2
  have hga3 := ga_cs D 3
  have hga4 := ga_cs D 4
  have hga5 := ga_cs D 5
  have hga6 := ga_cs D 6
  have hgl6 := ga_lt hR 6
  have hw1 := w3_n D 0 118 61 115
  have hw2 := w3_n D 3 112 102 49
  have hwd := wd_spf (g := gl D) 0 (min 6 D.length)
  simp only [Nat.zero_add, Nat.reduceAdd] at hw1 hw2 hwd
  have hrc : ((bI (t_word (gl D) 0 (min 6 D.length) w_spf) = 1 ∧ (D.length = 6 ∨ gl D 6 = 32)) ∧ bI (t_rec D) = 1) ∨ (¬ (bI (t_word (gl D) 0 (min 6 D.length) w_spf) = 1 ∧ (D.length = 6 ∨ gl D 6 = 32)) ∧ bI (t_rec D) = 0) := bI_n (by
    unfold t_rec
    rw [Bool.and_eq_true, Bool.or_eq_true, decide_eq_true_eq, decide_eq_true_eq]
    constructor
    · rintro ⟨h1, h2⟩; exact ⟨by rw [h1]; rfl, h2⟩
    · rintro ⟨h1, h2⟩; exact ⟨bI_t (by omega), h2⟩)
  show wp L xs (d + 2) 123 0 [some (.ref 141), some (.int (nI r)), none, none] [] s _
  refine wg_aload_n (d123_0 L xs) rfl ?_
  refine wg_get (d123_1 L xs) (kd := 1) (cj := 9) (k0 := 7) rfl (Or.inl rfl) (by decide) rfl rfl ?_
  refine wg_iload_n (d123_4 L xs) rfl ?_
  refine wg_iald (d123_5 L xs) (n := 16) (by decide) rfl (vp_in_nI (n := r) (by omega) (by omega)) ?_
  refine wg_top (y := (nI (c - 1))) (by rw [nI_nat (n := r) (by omega)]; exact hR.2.2.2.2.1) ?_
  refine wg_iconst (d123_6 L xs) (x := 1) (by decide) ?_
  refine wg_iadd (d123_7 L xs) ?_
  refine wg_top (y := (nI c)) (by rw [show c = (c - 1) + 1 by omega]; exact nI_add _ 1) ?_
  refine wg_istore_n (d123_8 L xs) (ls' := [some (.ref 141), some (.int (nI r)), some (.int (nI c)), none]) (Nat.le_of_ble_eq_true rfl) rfl ?_
  refine wg_aload_n (d123_9 L xs) rfl ?_
  refine wg_iload_n (d123_10 L xs) rfl ?_
  refine wg_iload_n (d123_11 L xs) rfl ?_
  refine wg_bipush (d123_12 L xs) (x := 118) (by decide) ?_
  refine wg_bipush (d123_14 L xs) (x := 61) (by decide) ?_
  refine wg_bipush (d123_16 L xs) (x := 115) (by decide) ?_
  refine wg_invv (d123_18 L xs) (kd := 7) (mj := 124) (n := 5) rfl (Or.inl rfl) (ys := [.int 115, .int 61, .int 118, .int (nI c), .int (nI r)]) (r := []) rfl rfl (by decide) rfl rfl (Nat.le_of_ble_eq_true rfl) (md_word (i := 0) (x := 118) (y := 61) (z := 115) hR (by omega) (by omega) (by omega) (by omega) (by omega)) ?_
  rintro _ _ ⟨rfl, rfl⟩
  refine wn_if_eq (d123_21 L xs) (x := bI (w3 D 0 118 61 115)) (by omega) (t := 45) (by decide) (fun h1 => ?_) (fun h1 => ?_)
  · refine wg_iconst (d123_45 L xs) (x := 0) (by decide) ?_
    refine wg_istore_n (d123_46 L xs) (ls' := [some (.ref 141), some (.int (nI r)), some (.int (nI c)), some (.int 0)]) (Nat.le_of_ble_eq_true rfl) rfl ?_
    refine wg_iload_n (d123_47 L xs) rfl ?_
    refine wg_if_eq (d123_48 L xs) (t := 82) (by decide) (fun _ => ?_) (fun hn => absurd (by decide) hn)
    refine wg_iconst (d123_82 L xs) (x := 0) (by decide) ?_
    exact wg_iret (d123_83 L xs) rfl rfl ⟨by rw [show bI (t_rec D) = 0 by omega]; rfl, rfl⟩
  · refine wg_aload_n (d123_24 L xs) rfl ?_
    refine wg_iload_n (d123_25 L xs) rfl ?_
    refine wg_iload_n (d123_26 L xs) rfl ?_
    refine wg_iconst (d123_27 L xs) (x := 3) (by decide) ?_
    refine wg_iadd (d123_28 L xs) ?_
    refine wg_top (y := (nI (c + 3))) (nI_add c 3) ?_
    refine wg_bipush (d123_29 L xs) (x := 112) (by decide) ?_
    refine wg_bipush (d123_31 L xs) (x := 102) (by decide) ?_
    refine wg_bipush (d123_33 L xs) (x := 49) (by decide) ?_
    refine wg_invv (d123_35 L xs) (kd := 7) (mj := 124) (n := 5) rfl (Or.inl rfl) (ys := [.int 49, .int 102, .int 112, .int (nI (c + 3)), .int (nI r)]) (r := []) rfl rfl (by decide) rfl rfl (Nat.le_of_ble_eq_true rfl) (md_word (i := 3) (x := 112) (y := 102) (z := 49) hR (by omega) (by omega) (by omega) (by omega) (by omega)) ?_
    rintro _ _ ⟨rfl, rfl⟩
    refine wn_if_eq (d123_38 L xs) (x := bI (w3 D 3 112 102 49)) (by omega) (t := 45) (by decide) (fun h3 => ?_) (fun h3 => ?_)
    · refine wg_iconst (d123_45 L xs) (x := 0) (by decide) ?_
      refine wg_istore_n (d123_46 L xs) (ls' := [some (.ref 141), some (.int (nI r)), some (.int (nI c)), some (.int 0)]) (Nat.le_of_ble_eq_true rfl) rfl ?_
      refine wg_iload_n (d123_47 L xs) rfl ?_
      refine wg_if_eq (d123_48 L xs) (t := 82) (by decide) (fun _ => ?_) (fun hn => absurd (by decide) hn)
      refine wg_iconst (d123_82 L xs) (x := 0) (by decide) ?_
      exact wg_iret (d123_83 L xs) rfl rfl ⟨by rw [show bI (t_rec D) = 0 by omega]; rfl, rfl⟩
    · refine wg_iconst (d123_41 L xs) (x := 1) (by decide) ?_
      refine wg_goto (d123_42 L xs) (t := 46) (by decide) ?_
      refine wg_istore_n (d123_46 L xs) (ls' := [some (.ref 141), some (.int (nI r)), some (.int (nI c)), some (.int 1)]) (Nat.le_of_ble_eq_true rfl) rfl ?_
      refine wg_iload_n (d123_47 L xs) rfl ?_
      refine wg_if_eq (d123_48 L xs) (t := 82) (by decide) (fun hp => absurd hp (by decide)) (fun _ => ?_)
      refine wg_aload_n (d123_51 L xs) rfl ?_
      refine wg_get (d123_52 L xs) (kd := 1) (cj := 9) (k0 := 6) rfl (Or.inl rfl) (by decide) rfl rfl ?_
      refine wg_iload_n (d123_55 L xs) rfl ?_
      refine wg_iald (d123_56 L xs) (n := 16) (by decide) rfl (vp_in_nI (n := r) (by omega) (by omega)) ?_
      refine wg_top (y := (nI (c + D.length))) (by rw [nI_nat (n := r) (by omega)]; exact hR.2.2.2.2.2.1) ?_
      refine wg_iload_n (d123_57 L xs) rfl ?_
      refine wg_bipush (d123_58 L xs) (x := 6) (by decide) ?_
      refine wg_iadd (d123_60 L xs) ?_
      refine wg_top (y := (nI (c + 6))) (nI_add c 6) ?_
      refine wn_icmp_eq (d123_61 L xs) (x := c + D.length) (y := c + 6) (by omega) (by omega) (t := 78) (by decide) (fun h6 => ?_) (fun h6 => ?_)
      · refine wg_iconst (d123_78 L xs) (x := 1) (by decide) ?_
        refine wg_goto (d123_79 L xs) (t := 83) (by decide) ?_
        exact wg_iret (d123_83 L xs) rfl rfl ⟨by rw [show bI (t_rec D) = 1 by omega]; rfl, rfl⟩
      · refine wg_aload_n (d123_64 L xs) rfl ?_
        refine wg_iload_n (d123_65 L xs) rfl ?_
        refine wg_iload_n (d123_66 L xs) rfl ?_
        refine wg_bipush (d123_67 L xs) (x := 6) (by decide) ?_
        refine wg_iadd (d123_69 L xs) ?_
        refine wg_top (y := (nI (c + 6))) (nI_add c 6) ?_
        refine wg_invv (d123_70 L xs) (kd := 7) (mj := 125) (n := 2) rfl (Or.inl rfl) (ys := [.int (nI (c + 6)), .int (nI r)]) (r := []) rfl rfl (by decide) rfl rfl (Nat.le_of_ble_eq_true rfl) (md_at (i := 6) hR (by omega) (by omega)) ?_
        rintro _ _ ⟨rfl, rfl⟩
        refine wg_bipush (d123_73 L xs) (x := 32) (by decide) ?_
        refine wn_icmp_ne (d123_75 L xs) (x := ga D 6) (y := 32) (by omega) (by omega) (t := 82) (by decide) (fun h7 => ?_) (fun h7 => ?_)
        · refine wg_iconst (d123_82 L xs) (x := 0) (by decide) ?_
          exact wg_iret (d123_83 L xs) rfl rfl ⟨by rw [show bI (t_rec D) = 0 by omega]; rfl, rfl⟩
        · refine wg_iconst (d123_78 L xs) (x := 1) (by decide) ?_
          refine wg_goto (d123_79 L xs) (t := 83) (by decide) ?_
          exact wg_iret (d123_83 L xs) rfl rfl ⟨by rw [show bI (t_rec D) = 1 by omega]; rfl, rfl⟩
end RM
