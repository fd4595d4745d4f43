theorem d15_0 (L : Nat) (xs : Nat → Int32) : decode (ax_code (mgT L xs) 15) 0 = .ok (.aload_n 0, 1) := by
  show decode prog_9_method_2_code 0 = _
  decide +kernel
theorem d15_1 (L : Nat) (xs : Nat → Int32) : decode (ax_code (mgT L xs) 15) 1 = .ok (.getfield 15, 3) := by
  show decode prog_9_method_2_code 1 = _
  decide +kernel
theorem d15_4 (L : Nat) (xs : Nat → Int32) : decode (ax_code (mgT L xs) 15) 4 = .ok (.ireturn, 1) := by
  show decode prog_9_method_2_code 4 = _
  decide +kernel
theorem d17_0 (L : Nat) (xs : Nat → Int32) : decode (ax_code (mgT L xs) 17) 0 = .ok (.aload_n 0, 1) := by
  show decode prog_1_method_3_code 0 = _
  decide +kernel
theorem d17_1 (L : Nat) (xs : Nat → Int32) : decode (ax_code (mgT L xs) 17) 1 = .ok (.getfield 14, 3) := by
  show decode prog_1_method_3_code 1 = _
  decide +kernel
theorem d17_4 (L : Nat) (xs : Nat → Int32) : decode (ax_code (mgT L xs) 17) 4 = .ok (.invokevirtual 55, 3) := by
  show decode prog_1_method_3_code 4 = _
  decide +kernel
theorem d17_7 (L : Nat) (xs : Nat → Int32) : decode (ax_code (mgT L xs) 17) 7 = .ok (.return_, 1) := by
  show decode prog_1_method_3_code 7 = _
  decide +kernel
theorem d18_0 (L : Nat) (xs : Nat → Int32) : decode (ax_code (mgT L xs) 18) 0 = .ok (.aload_n 0, 1) := by
  show decode prog_9_method_4_code 0 = _
  decide +kernel
theorem d18_1 (L : Nat) (xs : Nat → Int32) : decode (ax_code (mgT L xs) 18) 1 = .ok (.iconst 0, 1) := by
  show decode prog_9_method_4_code 1 = _
  decide +kernel
theorem d18_2 (L : Nat) (xs : Nat → Int32) : decode (ax_code (mgT L xs) 18) 2 = .ok (.putfield 15, 3) := by
  show decode prog_9_method_4_code 2 = _
  decide +kernel
theorem d18_5 (L : Nat) (xs : Nat → Int32) : decode (ax_code (mgT L xs) 18) 5 = .ok (.return_, 1) := by
  show decode prog_9_method_4_code 5 = _
  decide +kernel
theorem d19_0 (L : Nat) (xs : Nat → Int32) : decode (ax_code (mgT L xs) 19) 0 = .ok (.aload_n 0, 1) := by
  show decode prog_1_method_4_code 0 = _
  decide +kernel
theorem d19_1 (L : Nat) (xs : Nat → Int32) : decode (ax_code (mgT L xs) 19) 1 = .ok (.getfield 14, 3) := by
  show decode prog_1_method_4_code 1 = _
  decide +kernel
theorem d19_4 (L : Nat) (xs : Nat → Int32) : decode (ax_code (mgT L xs) 19) 4 = .ok (.invokevirtual 47, 3) := by
  show decode prog_1_method_4_code 4 = _
  decide +kernel
theorem d19_7 (L : Nat) (xs : Nat → Int32) : decode (ax_code (mgT L xs) 19) 7 = .ok (.ireturn, 1) := by
  show decode prog_1_method_4_code 7 = _
  decide +kernel
theorem d20_0 (L : Nat) (xs : Nat → Int32) : decode (ax_code (mgT L xs) 20) 0 = .ok (.aload_n 0, 1) := by
  show decode prog_1_method_6_code 0 = _
  decide +kernel
theorem d20_1 (L : Nat) (xs : Nat → Int32) : decode (ax_code (mgT L xs) 20) 1 = .ok (.getfield 21, 3) := by
  show decode prog_1_method_6_code 1 = _
  decide +kernel
theorem d20_4 (L : Nat) (xs : Nat → Int32) : decode (ax_code (mgT L xs) 20) 4 = .ok (.iload_n 1, 1) := by
  show decode prog_1_method_6_code 4 = _
  decide +kernel
theorem d20_5 (L : Nat) (xs : Nat → Int32) : decode (ax_code (mgT L xs) 20) 5 = .ok (.invokevirtual 75, 3) := by
  show decode prog_1_method_6_code 5 = _
  decide +kernel
theorem d20_8 (L : Nat) (xs : Nat → Int32) : decode (ax_code (mgT L xs) 20) 8 = .ok (.ireturn, 1) := by
  show decode prog_1_method_6_code 8 = _
  decide +kernel
theorem d21_0 (L : Nat) (xs : Nat → Int32) : decode (ax_code (mgT L xs) 21) 0 = .ok (.iload_n 1, 1) := by
  show decode prog_7_method_7_code 0 = _
  decide +kernel
theorem d21_1 (L : Nat) (xs : Nat → Int32) : decode (ax_code (mgT L xs) 21) 1 = .ok (.ifCond .lt 11, 3) := by
  show decode prog_7_method_7_code 1 = _
  decide +kernel
theorem d21_4 (L : Nat) (xs : Nat → Int32) : decode (ax_code (mgT L xs) 21) 4 = .ok (.iload_n 1, 1) := by
  show decode prog_7_method_7_code 4 = _
  decide +kernel
theorem d21_5 (L : Nat) (xs : Nat → Int32) : decode (ax_code (mgT L xs) 21) 5 = .ok (.aload_n 0, 1) := by
  show decode prog_7_method_7_code 5 = _
  decide +kernel
theorem d21_6 (L : Nat) (xs : Nat → Int32) : decode (ax_code (mgT L xs) 21) 6 = .ok (.getfield 27, 3) := by
  show decode prog_7_method_7_code 6 = _
  decide +kernel
theorem d21_9 (L : Nat) (xs : Nat → Int32) : decode (ax_code (mgT L xs) 21) 9 = .ok (.if_icmp .lt 5, 3) := by
  show decode prog_7_method_7_code 9 = _
  decide +kernel
theorem d21_12 (L : Nat) (xs : Nat → Int32) : decode (ax_code (mgT L xs) 21) 12 = .ok (.iconst 0, 1) := by
  show decode prog_7_method_7_code 12 = _
  decide +kernel
theorem d21_13 (L : Nat) (xs : Nat → Int32) : decode (ax_code (mgT L xs) 21) 13 = .ok (.ireturn, 1) := by
  show decode prog_7_method_7_code 13 = _
  decide +kernel
theorem d22_0 (L : Nat) (xs : Nat → Int32) : decode (ax_code (mgT L xs) 22) 0 = .ok (.aload_n 0, 1) := by
  show decode prog_1_method_8_code 0 = _
  decide +kernel
theorem d22_1 (L : Nat) (xs : Nat → Int32) : decode (ax_code (mgT L xs) 22) 1 = .ok (.getfield 30, 3) := by
  show decode prog_1_method_8_code 1 = _
  decide +kernel
theorem d22_4 (L : Nat) (xs : Nat → Int32) : decode (ax_code (mgT L xs) 22) 4 = .ok (.invokevirtual 92, 3) := by
  show decode prog_1_method_8_code 4 = _
  decide +kernel
theorem d22_7 (L : Nat) (xs : Nat → Int32) : decode (ax_code (mgT L xs) 22) 7 = .ok (.ifCond .ne 5, 3) := by
  show decode prog_1_method_8_code 7 = _
  decide +kernel
theorem d22_10 (L : Nat) (xs : Nat → Int32) : decode (ax_code (mgT L xs) 22) 10 = .ok (.iconst (-1), 1) := by
  show decode prog_1_method_8_code 10 = _
  decide +kernel
theorem d22_11 (L : Nat) (xs : Nat → Int32) : decode (ax_code (mgT L xs) 22) 11 = .ok (.ireturn, 1) := by
  show decode prog_1_method_8_code 11 = _
  decide +kernel
theorem d23_0 (L : Nat) (xs : Nat → Int32) : decode (ax_code (mgT L xs) 23) 0 = .ok (.aload_n 0, 1) := by
  show decode prog_2_method_2_code 0 = _
  decide +kernel
theorem d23_1 (L : Nat) (xs : Nat → Int32) : decode (ax_code (mgT L xs) 23) 1 = .ok (.getfield 29, 3) := by
  show decode prog_2_method_2_code 1 = _
  decide +kernel
theorem d23_4 (L : Nat) (xs : Nat → Int32) : decode (ax_code (mgT L xs) 23) 4 = .ok (.iconst (-1), 1) := by
  show decode prog_2_method_2_code 4 = _
  decide +kernel
theorem d23_5 (L : Nat) (xs : Nat → Int32) : decode (ax_code (mgT L xs) 23) 5 = .ok (.if_icmp .eq 7, 3) := by
  show decode prog_2_method_2_code 5 = _
  decide +kernel
theorem d23_12 (L : Nat) (xs : Nat → Int32) : decode (ax_code (mgT L xs) 23) 12 = .ok (.iconst 0, 1) := by
  show decode prog_2_method_2_code 12 = _
  decide +kernel
theorem d23_13 (L : Nat) (xs : Nat → Int32) : decode (ax_code (mgT L xs) 23) 13 = .ok (.ireturn, 1) := by
  show decode prog_2_method_2_code 13 = _
  decide +kernel
theorem d29_0 (L : Nat) (xs : Nat → Int32) : decode (ax_code (mgT L xs) 29) 0 = .ok (.aload_n 0, 1) := by
  show decode prog_1_method_9_code 0 = _
  decide +kernel
theorem d29_1 (L : Nat) (xs : Nat → Int32) : decode (ax_code (mgT L xs) 29) 1 = .ok (.getfield 21, 3) := by
  show decode prog_1_method_9_code 1 = _
  decide +kernel
theorem d29_4 (L : Nat) (xs : Nat → Int32) : decode (ax_code (mgT L xs) 29) 4 = .ok (.invokevirtual 110, 3) := by
  show decode prog_1_method_9_code 4 = _
  decide +kernel
theorem d29_7 (L : Nat) (xs : Nat → Int32) : decode (ax_code (mgT L xs) 29) 7 = .ok (.astore_n 2, 1) := by
  show decode prog_1_method_9_code 7 = _
  decide +kernel
theorem d29_8 (L : Nat) (xs : Nat → Int32) : decode (ax_code (mgT L xs) 29) 8 = .ok (.aload_n 2, 1) := by
  show decode prog_1_method_9_code 8 = _
  decide +kernel
theorem d29_9 (L : Nat) (xs : Nat → Int32) : decode (ax_code (mgT L xs) 29) 9 = .ok (.invokevirtual 47, 3) := by
  show decode prog_1_method_9_code 9 = _
  decide +kernel
theorem d29_12 (L : Nat) (xs : Nat → Int32) : decode (ax_code (mgT L xs) 29) 12 = .ok (.ifCond .ne 5, 3) := by
  show decode prog_1_method_9_code 12 = _
  decide +kernel
theorem d29_15 (L : Nat) (xs : Nat → Int32) : decode (ax_code (mgT L xs) 29) 15 = .ok (.iconst (-1), 1) := by
  show decode prog_1_method_9_code 15 = _
  decide +kernel
theorem d29_16 (L : Nat) (xs : Nat → Int32) : decode (ax_code (mgT L xs) 29) 16 = .ok (.ireturn, 1) := by
  show decode prog_1_method_9_code 16 = _
  decide +kernel
theorem d30_0 (L : Nat) (xs : Nat → Int32) : decode (ax_code (mgT L xs) 30) 0 = .ok (.aload_n 0, 1) := by
  show decode prog_7_method_4_code 0 = _
  decide +kernel
theorem d30_1 (L : Nat) (xs : Nat → Int32) : decode (ax_code (mgT L xs) 30) 1 = .ok (.getfield 22, 3) := by
  show decode prog_7_method_4_code 1 = _
  decide +kernel
theorem d30_4 (L : Nat) (xs : Nat → Int32) : decode (ax_code (mgT L xs) 30) 4 = .ok (.areturn, 1) := by
  show decode prog_7_method_4_code 4 = _
  decide +kernel
theorem d32_0 (L : Nat) (xs : Nat → Int32) : decode (ax_code (mgT L xs) 32) 0 = .ok (.iload_n 1, 1) := by
  show decode prog_1_method_11_code 0 = _
  decide +kernel
theorem d32_1 (L : Nat) (xs : Nat → Int32) : decode (ax_code (mgT L xs) 32) 1 = .ok (.iconst (-1), 1) := by
  show decode prog_1_method_11_code 1 = _
  decide +kernel
theorem d32_2 (L : Nat) (xs : Nat → Int32) : decode (ax_code (mgT L xs) 32) 2 = .ok (.if_icmp .ne 11, 3) := by
  show decode prog_1_method_11_code 2 = _
  decide +kernel
theorem d32_5 (L : Nat) (xs : Nat → Int32) : decode (ax_code (mgT L xs) 32) 5 = .ok (.aload_n 0, 1) := by
  show decode prog_1_method_11_code 5 = _
  decide +kernel
theorem d32_6 (L : Nat) (xs : Nat → Int32) : decode (ax_code (mgT L xs) 32) 6 = .ok (.getfield 21, 3) := by
  show decode prog_1_method_11_code 6 = _
  decide +kernel
theorem d32_9 (L : Nat) (xs : Nat → Int32) : decode (ax_code (mgT L xs) 32) 9 = .ok (.invokevirtual 65, 3) := by
  show decode prog_1_method_11_code 9 = _
  decide +kernel
theorem d32_12 (L : Nat) (xs : Nat → Int32) : decode (ax_code (mgT L xs) 32) 12 = .ok (.ireturn, 1) := by
  show decode prog_1_method_11_code 12 = _
  decide +kernel
theorem d32_13 (L : Nat) (xs : Nat → Int32) : decode (ax_code (mgT L xs) 32) 13 = .ok (.aload_n 0, 1) := by
  show decode prog_1_method_11_code 13 = _
  decide +kernel
theorem d32_14 (L : Nat) (xs : Nat → Int32) : decode (ax_code (mgT L xs) 32) 14 = .ok (.getfield 21, 3) := by
  show decode prog_1_method_11_code 14 = _
  decide +kernel
theorem d32_17 (L : Nat) (xs : Nat → Int32) : decode (ax_code (mgT L xs) 32) 17 = .ok (.iload_n 1, 1) := by
  show decode prog_1_method_11_code 17 = _
  decide +kernel
theorem d32_18 (L : Nat) (xs : Nat → Int32) : decode (ax_code (mgT L xs) 32) 18 = .ok (.invokevirtual 122, 3) := by
  show decode prog_1_method_11_code 18 = _
  decide +kernel
theorem d32_21 (L : Nat) (xs : Nat → Int32) : decode (ax_code (mgT L xs) 32) 21 = .ok (.astore_n 2, 1) := by
  show decode prog_1_method_11_code 21 = _
  decide +kernel
theorem d32_22 (L : Nat) (xs : Nat → Int32) : decode (ax_code (mgT L xs) 32) 22 = .ok (.aload_n 2, 1) := by
  show decode prog_1_method_11_code 22 = _
  decide +kernel
theorem d32_23 (L : Nat) (xs : Nat → Int32) : decode (ax_code (mgT L xs) 32) 23 = .ok (.ifnonnull 7, 3) := by
  show decode prog_1_method_11_code 23 = _
  decide +kernel
theorem d32_26 (L : Nat) (xs : Nat → Int32) : decode (ax_code (mgT L xs) 32) 26 = .ok (.iconst (-1), 1) := by
  show decode prog_1_method_11_code 26 = _
  decide +kernel
theorem d32_27 (L : Nat) (xs : Nat → Int32) : decode (ax_code (mgT L xs) 32) 27 = .ok (.goto 7, 3) := by
  show decode prog_1_method_11_code 27 = _
  decide +kernel
theorem d32_34 (L : Nat) (xs : Nat → Int32) : decode (ax_code (mgT L xs) 32) 34 = .ok (.ireturn, 1) := by
  show decode prog_1_method_11_code 34 = _
  decide +kernel
theorem d33_0 (L : Nat) (xs : Nat → Int32) : decode (ax_code (mgT L xs) 33) 0 = .ok (.aload_n 0, 1) := by
  show decode prog_7_method_2_code 0 = _
  decide +kernel
theorem d33_1 (L : Nat) (xs : Nat → Int32) : decode (ax_code (mgT L xs) 33) 1 = .ok (.getfield 27, 3) := by
  show decode prog_7_method_2_code 1 = _
  decide +kernel
theorem d33_4 (L : Nat) (xs : Nat → Int32) : decode (ax_code (mgT L xs) 33) 4 = .ok (.ireturn, 1) := by
  show decode prog_7_method_2_code 4 = _
  decide +kernel
theorem d34_0 (L : Nat) (xs : Nat → Int32) : decode (ax_code (mgT L xs) 34) 0 = .ok (.iload_n 1, 1) := by
  show decode prog_7_method_3_code 0 = _
  decide +kernel
theorem d34_1 (L : Nat) (xs : Nat → Int32) : decode (ax_code (mgT L xs) 34) 1 = .ok (.ifCond .lt 20, 3) := by
  show decode prog_7_method_3_code 1 = _
  decide +kernel
theorem d34_4 (L : Nat) (xs : Nat → Int32) : decode (ax_code (mgT L xs) 34) 4 = .ok (.iload_n 1, 1) := by
  show decode prog_7_method_3_code 4 = _
  decide +kernel
theorem d34_5 (L : Nat) (xs : Nat → Int32) : decode (ax_code (mgT L xs) 34) 5 = .ok (.aload_n 0, 1) := by
  show decode prog_7_method_3_code 5 = _
  decide +kernel
theorem d34_6 (L : Nat) (xs : Nat → Int32) : decode (ax_code (mgT L xs) 34) 6 = .ok (.getfield 27, 3) := by
  show decode prog_7_method_3_code 6 = _
  decide +kernel
theorem d34_9 (L : Nat) (xs : Nat → Int32) : decode (ax_code (mgT L xs) 34) 9 = .ok (.if_icmp .ge 12, 3) := by
  show decode prog_7_method_3_code 9 = _
  decide +kernel
theorem d34_21 (L : Nat) (xs : Nat → Int32) : decode (ax_code (mgT L xs) 34) 21 = .ok (.aconst_null, 1) := by
  show decode prog_7_method_3_code 21 = _
  decide +kernel
theorem d34_22 (L : Nat) (xs : Nat → Int32) : decode (ax_code (mgT L xs) 34) 22 = .ok (.areturn, 1) := by
  show decode prog_7_method_3_code 22 = _
  decide +kernel
