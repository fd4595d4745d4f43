/-! the reference: small methods of a check -/
theorem d137_0 (L : Nat) (xs : Nat → Int32) : decode (ax_code (mgT L xs) 137) 0 = .ok (.iload_n 0, 1) := by
  show decode prog_11_method_38_code 0 = _
  decide +kernel
theorem d137_1 (L : Nat) (xs : Nat → Int32) : decode (ax_code (mgT L xs) 137) 1 = .ok (.bipush 45, 2) := by
  show decode prog_11_method_38_code 1 = _
  decide +kernel
theorem d137_3 (L : Nat) (xs : Nat → Int32) : decode (ax_code (mgT L xs) 137) 3 = .ok (.if_icmp .ne 7, 3) := by
  show decode prog_11_method_38_code 3 = _
  decide +kernel
theorem d137_6 (L : Nat) (xs : Nat → Int32) : decode (ax_code (mgT L xs) 137) 6 = .ok (.iconst 3, 1) := by
  show decode prog_11_method_38_code 6 = _
  decide +kernel
theorem d137_7 (L : Nat) (xs : Nat → Int32) : decode (ax_code (mgT L xs) 137) 7 = .ok (.goto 24, 3) := by
  show decode prog_11_method_38_code 7 = _
  decide +kernel
theorem d137_10 (L : Nat) (xs : Nat → Int32) : decode (ax_code (mgT L xs) 137) 10 = .ok (.iload_n 0, 1) := by
  show decode prog_11_method_38_code 10 = _
  decide +kernel
theorem d137_11 (L : Nat) (xs : Nat → Int32) : decode (ax_code (mgT L xs) 137) 11 = .ok (.bipush 126, 2) := by
  show decode prog_11_method_38_code 11 = _
  decide +kernel
theorem d137_13 (L : Nat) (xs : Nat → Int32) : decode (ax_code (mgT L xs) 137) 13 = .ok (.if_icmp .ne 7, 3) := by
  show decode prog_11_method_38_code 13 = _
  decide +kernel
theorem d137_16 (L : Nat) (xs : Nat → Int32) : decode (ax_code (mgT L xs) 137) 16 = .ok (.iconst 4, 1) := by
  show decode prog_11_method_38_code 16 = _
  decide +kernel
theorem d137_17 (L : Nat) (xs : Nat → Int32) : decode (ax_code (mgT L xs) 137) 17 = .ok (.goto 14, 3) := by
  show decode prog_11_method_38_code 17 = _
  decide +kernel
theorem d137_20 (L : Nat) (xs : Nat → Int32) : decode (ax_code (mgT L xs) 137) 20 = .ok (.iload_n 0, 1) := by
  show decode prog_11_method_38_code 20 = _
  decide +kernel
theorem d137_21 (L : Nat) (xs : Nat → Int32) : decode (ax_code (mgT L xs) 137) 21 = .ok (.bipush 63, 2) := by
  show decode prog_11_method_38_code 21 = _
  decide +kernel
theorem d137_23 (L : Nat) (xs : Nat → Int32) : decode (ax_code (mgT L xs) 137) 23 = .ok (.if_icmp .ne 7, 3) := by
  show decode prog_11_method_38_code 23 = _
  decide +kernel
theorem d137_26 (L : Nat) (xs : Nat → Int32) : decode (ax_code (mgT L xs) 137) 26 = .ok (.iconst 1, 1) := by
  show decode prog_11_method_38_code 26 = _
  decide +kernel
theorem d137_27 (L : Nat) (xs : Nat → Int32) : decode (ax_code (mgT L xs) 137) 27 = .ok (.goto 4, 3) := by
  show decode prog_11_method_38_code 27 = _
  decide +kernel
theorem d137_30 (L : Nat) (xs : Nat → Int32) : decode (ax_code (mgT L xs) 137) 30 = .ok (.iconst 2, 1) := by
  show decode prog_11_method_38_code 30 = _
  decide +kernel
theorem d137_31 (L : Nat) (xs : Nat → Int32) : decode (ax_code (mgT L xs) 137) 31 = .ok (.ireturn, 1) := by
  show decode prog_11_method_38_code 31 = _
  decide +kernel
theorem d139_0 (L : Nat) (xs : Nat → Int32) : decode (ax_code (mgT L xs) 139) 0 = .ok (.iload_n 2, 1) := by
  show decode prog_11_method_40_code 0 = _
  decide +kernel
theorem d139_1 (L : Nat) (xs : Nat → Int32) : decode (ax_code (mgT L xs) 139) 1 = .ok (.ifCond .eq 23, 3) := by
  show decode prog_11_method_40_code 1 = _
  decide +kernel
theorem d139_4 (L : Nat) (xs : Nat → Int32) : decode (ax_code (mgT L xs) 139) 4 = .ok (.iload_n 0, 1) := by
  show decode prog_11_method_40_code 4 = _
  decide +kernel
theorem d139_5 (L : Nat) (xs : Nat → Int32) : decode (ax_code (mgT L xs) 139) 5 = .ok (.iload_n 1, 1) := by
  show decode prog_11_method_40_code 5 = _
  decide +kernel
theorem d139_6 (L : Nat) (xs : Nat → Int32) : decode (ax_code (mgT L xs) 139) 6 = .ok (.ixor, 1) := by
  show decode prog_11_method_40_code 6 = _
  decide +kernel
theorem d139_7 (L : Nat) (xs : Nat → Int32) : decode (ax_code (mgT L xs) 139) 7 = .ok (.bipush 32, 2) := by
  show decode prog_11_method_40_code 7 = _
  decide +kernel
theorem d139_9 (L : Nat) (xs : Nat → Int32) : decode (ax_code (mgT L xs) 139) 9 = .ok (.iload_n 2, 1) := by
  show decode prog_11_method_40_code 9 = _
  decide +kernel
theorem d139_10 (L : Nat) (xs : Nat → Int32) : decode (ax_code (mgT L xs) 139) 10 = .ok (.ifCond .ne 8, 3) := by
  show decode prog_11_method_40_code 10 = _
  decide +kernel
theorem d139_18 (L : Nat) (xs : Nat → Int32) : decode (ax_code (mgT L xs) 139) 18 = .ok (.iload_n 2, 1) := by
  show decode prog_11_method_40_code 18 = _
  decide +kernel
theorem d139_19 (L : Nat) (xs : Nat → Int32) : decode (ax_code (mgT L xs) 139) 19 = .ok (.isub, 1) := by
  show decode prog_11_method_40_code 19 = _
  decide +kernel
theorem d139_20 (L : Nat) (xs : Nat → Int32) : decode (ax_code (mgT L xs) 139) 20 = .ok (.iushr, 1) := by
  show decode prog_11_method_40_code 20 = _
  decide +kernel
theorem d139_21 (L : Nat) (xs : Nat → Int32) : decode (ax_code (mgT L xs) 139) 21 = .ok (.ifCond .ne 7, 3) := by
  show decode prog_11_method_40_code 21 = _
  decide +kernel
theorem d139_24 (L : Nat) (xs : Nat → Int32) : decode (ax_code (mgT L xs) 139) 24 = .ok (.iconst 1, 1) := by
  show decode prog_11_method_40_code 24 = _
  decide +kernel
theorem d139_25 (L : Nat) (xs : Nat → Int32) : decode (ax_code (mgT L xs) 139) 25 = .ok (.goto 4, 3) := by
  show decode prog_11_method_40_code 25 = _
  decide +kernel
theorem d139_28 (L : Nat) (xs : Nat → Int32) : decode (ax_code (mgT L xs) 139) 28 = .ok (.iconst 0, 1) := by
  show decode prog_11_method_40_code 28 = _
  decide +kernel
theorem d139_29 (L : Nat) (xs : Nat → Int32) : decode (ax_code (mgT L xs) 139) 29 = .ok (.ireturn, 1) := by
  show decode prog_11_method_40_code 29 = _
  decide +kernel
theorem d140_0 (L : Nat) (xs : Nat → Int32) : decode (ax_code (mgT L xs) 140) 0 = .ok (.aload_n 0, 1) := by
  show decode prog_11_method_39_code 0 = _
  decide +kernel
theorem d140_1 (L : Nat) (xs : Nat → Int32) : decode (ax_code (mgT L xs) 140) 1 = .ok (.getfield 227, 3) := by
  show decode prog_11_method_39_code 1 = _
  decide +kernel
theorem d140_4 (L : Nat) (xs : Nat → Int32) : decode (ax_code (mgT L xs) 140) 4 = .ok (.bipush 10, 2) := by
  show decode prog_11_method_39_code 4 = _
  decide +kernel
theorem d140_6 (L : Nat) (xs : Nat → Int32) : decode (ax_code (mgT L xs) 140) 6 = .ok (.if_icmp .ne 11, 3) := by
  show decode prog_11_method_39_code 6 = _
  decide +kernel
theorem d140_9 (L : Nat) (xs : Nat → Int32) : decode (ax_code (mgT L xs) 140) 9 = .ok (.aload_n 0, 1) := by
  show decode prog_11_method_39_code 9 = _
  decide +kernel
theorem d140_10 (L : Nat) (xs : Nat → Int32) : decode (ax_code (mgT L xs) 140) 10 = .ok (.bipush 6, 2) := by
  show decode prog_11_method_39_code 10 = _
  decide +kernel
theorem d140_12 (L : Nat) (xs : Nat → Int32) : decode (ax_code (mgT L xs) 140) 12 = .ok (.invokevirtual 215, 3) := by
  show decode prog_11_method_39_code 12 = _
  decide +kernel
theorem d140_15 (L : Nat) (xs : Nat → Int32) : decode (ax_code (mgT L xs) 140) 15 = .ok (.iconst 0, 1) := by
  show decode prog_11_method_39_code 15 = _
  decide +kernel
theorem d140_16 (L : Nat) (xs : Nat → Int32) : decode (ax_code (mgT L xs) 140) 16 = .ok (.ireturn, 1) := by
  show decode prog_11_method_39_code 16 = _
  decide +kernel
theorem d140_17 (L : Nat) (xs : Nat → Int32) : decode (ax_code (mgT L xs) 140) 17 = .ok (.aload_n 0, 1) := by
  show decode prog_11_method_39_code 17 = _
  decide +kernel
theorem d140_18 (L : Nat) (xs : Nat → Int32) : decode (ax_code (mgT L xs) 140) 18 = .ok (.dup, 1) := by
  show decode prog_11_method_39_code 18 = _
  decide +kernel
theorem d140_19 (L : Nat) (xs : Nat → Int32) : decode (ax_code (mgT L xs) 140) 19 = .ok (.getfield 227, 3) := by
  show decode prog_11_method_39_code 19 = _
  decide +kernel
theorem d140_22 (L : Nat) (xs : Nat → Int32) : decode (ax_code (mgT L xs) 140) 22 = .ok (.iconst 1, 1) := by
  show decode prog_11_method_39_code 22 = _
  decide +kernel
theorem d140_23 (L : Nat) (xs : Nat → Int32) : decode (ax_code (mgT L xs) 140) 23 = .ok (.iadd, 1) := by
  show decode prog_11_method_39_code 23 = _
  decide +kernel
theorem d140_24 (L : Nat) (xs : Nat → Int32) : decode (ax_code (mgT L xs) 140) 24 = .ok (.putfield 227, 3) := by
  show decode prog_11_method_39_code 24 = _
  decide +kernel
theorem d140_27 (L : Nat) (xs : Nat → Int32) : decode (ax_code (mgT L xs) 140) 27 = .ok (.iconst 1, 1) := by
  show decode prog_11_method_39_code 27 = _
  decide +kernel
theorem d140_28 (L : Nat) (xs : Nat → Int32) : decode (ax_code (mgT L xs) 140) 28 = .ok (.ireturn, 1) := by
  show decode prog_11_method_39_code 28 = _
  decide +kernel
theorem d146_0 (L : Nat) (xs : Nat → Int32) : decode (ax_code (mgT L xs) 146) 0 = .ok (.aload_n 0, 1) := by
  show decode prog_11_method_22_code 0 = _
  decide +kernel
theorem d146_1 (L : Nat) (xs : Nat → Int32) : decode (ax_code (mgT L xs) 146) 1 = .ok (.getfield 140, 3) := by
  show decode prog_11_method_22_code 1 = _
  decide +kernel
theorem d146_4 (L : Nat) (xs : Nat → Int32) : decode (ax_code (mgT L xs) 146) 4 = .ok (.iconst 1, 1) := by
  show decode prog_11_method_22_code 4 = _
  decide +kernel
theorem d146_5 (L : Nat) (xs : Nat → Int32) : decode (ax_code (mgT L xs) 146) 5 = .ok (.isub, 1) := by
  show decode prog_11_method_22_code 5 = _
  decide +kernel
theorem d146_6 (L : Nat) (xs : Nat → Int32) : decode (ax_code (mgT L xs) 146) 6 = .ok (.istore_n 1, 1) := by
  show decode prog_11_method_22_code 6 = _
  decide +kernel
theorem d146_7 (L : Nat) (xs : Nat → Int32) : decode (ax_code (mgT L xs) 146) 7 = .ok (.aload_n 0, 1) := by
  show decode prog_11_method_22_code 7 = _
  decide +kernel
theorem d146_8 (L : Nat) (xs : Nat → Int32) : decode (ax_code (mgT L xs) 146) 8 = .ok (.aload_n 0, 1) := by
  show decode prog_11_method_22_code 8 = _
  decide +kernel
theorem d146_9 (L : Nat) (xs : Nat → Int32) : decode (ax_code (mgT L xs) 146) 9 = .ok (.getfield 49, 3) := by
  show decode prog_11_method_22_code 9 = _
  decide +kernel
theorem d146_12 (L : Nat) (xs : Nat → Int32) : decode (ax_code (mgT L xs) 146) 12 = .ok (.iload_n 1, 1) := by
  show decode prog_11_method_22_code 12 = _
  decide +kernel
theorem d146_13 (L : Nat) (xs : Nat → Int32) : decode (ax_code (mgT L xs) 146) 13 = .ok (.iaload, 1) := by
  show decode prog_11_method_22_code 13 = _
  decide +kernel
theorem d146_14 (L : Nat) (xs : Nat → Int32) : decode (ax_code (mgT L xs) 146) 14 = .ok (.putfield 114, 3) := by
  show decode prog_11_method_22_code 14 = _
  decide +kernel
theorem d146_17 (L : Nat) (xs : Nat → Int32) : decode (ax_code (mgT L xs) 146) 17 = .ok (.iconst 0, 1) := by
  show decode prog_11_method_22_code 17 = _
  decide +kernel
theorem d146_18 (L : Nat) (xs : Nat → Int32) : decode (ax_code (mgT L xs) 146) 18 = .ok (.istore_n 2, 1) := by
  show decode prog_11_method_22_code 18 = _
  decide +kernel
theorem d146_19 (L : Nat) (xs : Nat → Int32) : decode (ax_code (mgT L xs) 146) 19 = .ok (.iload_n 2, 1) := by
  show decode prog_11_method_22_code 19 = _
  decide +kernel
theorem d146_20 (L : Nat) (xs : Nat → Int32) : decode (ax_code (mgT L xs) 146) 20 = .ok (.aload_n 0, 1) := by
  show decode prog_11_method_22_code 20 = _
  decide +kernel
theorem d146_21 (L : Nat) (xs : Nat → Int32) : decode (ax_code (mgT L xs) 146) 21 = .ok (.getfield 114, 3) := by
  show decode prog_11_method_22_code 21 = _
  decide +kernel
theorem d146_24 (L : Nat) (xs : Nat → Int32) : decode (ax_code (mgT L xs) 146) 24 = .ok (.if_icmp .ge 26, 3) := by
  show decode prog_11_method_22_code 24 = _
  decide +kernel
theorem d146_27 (L : Nat) (xs : Nat → Int32) : decode (ax_code (mgT L xs) 146) 27 = .ok (.aload_n 0, 1) := by
  show decode prog_11_method_22_code 27 = _
  decide +kernel
theorem d146_28 (L : Nat) (xs : Nat → Int32) : decode (ax_code (mgT L xs) 146) 28 = .ok (.getfield 28, 3) := by
  show decode prog_11_method_22_code 28 = _
  decide +kernel
theorem d146_31 (L : Nat) (xs : Nat → Int32) : decode (ax_code (mgT L xs) 146) 31 = .ok (.iload_n 2, 1) := by
  show decode prog_11_method_22_code 31 = _
  decide +kernel
theorem d146_32 (L : Nat) (xs : Nat → Int32) : decode (ax_code (mgT L xs) 146) 32 = .ok (.aload_n 0, 1) := by
  show decode prog_11_method_22_code 32 = _
  decide +kernel
theorem d146_33 (L : Nat) (xs : Nat → Int32) : decode (ax_code (mgT L xs) 146) 33 = .ok (.getfield 46, 3) := by
  show decode prog_11_method_22_code 33 = _
  decide +kernel
theorem d146_36 (L : Nat) (xs : Nat → Int32) : decode (ax_code (mgT L xs) 146) 36 = .ok (.bipush 48, 2) := by
  show decode prog_11_method_22_code 36 = _
  decide +kernel
theorem d146_38 (L : Nat) (xs : Nat → Int32) : decode (ax_code (mgT L xs) 146) 38 = .ok (.iload_n 1, 1) := by
  show decode prog_11_method_22_code 38 = _
  decide +kernel
theorem d146_39 (L : Nat) (xs : Nat → Int32) : decode (ax_code (mgT L xs) 146) 39 = .ok (.imul, 1) := by
  show decode prog_11_method_22_code 39 = _
  decide +kernel
theorem d146_40 (L : Nat) (xs : Nat → Int32) : decode (ax_code (mgT L xs) 146) 40 = .ok (.iload_n 2, 1) := by
  show decode prog_11_method_22_code 40 = _
  decide +kernel
theorem d146_41 (L : Nat) (xs : Nat → Int32) : decode (ax_code (mgT L xs) 146) 41 = .ok (.iadd, 1) := by
  show decode prog_11_method_22_code 41 = _
  decide +kernel
theorem d146_42 (L : Nat) (xs : Nat → Int32) : decode (ax_code (mgT L xs) 146) 42 = .ok (.iaload, 1) := by
  show decode prog_11_method_22_code 42 = _
  decide +kernel
theorem d146_43 (L : Nat) (xs : Nat → Int32) : decode (ax_code (mgT L xs) 146) 43 = .ok (.iastore, 1) := by
  show decode prog_11_method_22_code 43 = _
  decide +kernel
theorem d146_44 (L : Nat) (xs : Nat → Int32) : decode (ax_code (mgT L xs) 146) 44 = .ok (.iinc 2 1, 3) := by
  show decode prog_11_method_22_code 44 = _
  decide +kernel
theorem d146_47 (L : Nat) (xs : Nat → Int32) : decode (ax_code (mgT L xs) 146) 47 = .ok (.goto (-28), 3) := by
  show decode prog_11_method_22_code 47 = _
  decide +kernel
theorem d146_50 (L : Nat) (xs : Nat → Int32) : decode (ax_code (mgT L xs) 146) 50 = .ok (.return_, 1) := by
  show decode prog_11_method_22_code 50 = _
  decide +kernel
theorem d148_0 (L : Nat) (xs : Nat → Int32) : decode (ax_code (mgT L xs) 148) 0 = .ok (.aload_n 0, 1) := by
  show decode prog_11_method_42_code 0 = _
  decide +kernel
theorem d148_1 (L : Nat) (xs : Nat → Int32) : decode (ax_code (mgT L xs) 148) 1 = .ok (.dup, 1) := by
  show decode prog_11_method_42_code 1 = _
  decide +kernel
theorem d148_2 (L : Nat) (xs : Nat → Int32) : decode (ax_code (mgT L xs) 148) 2 = .ok (.getfield 237, 3) := by
  show decode prog_11_method_42_code 2 = _
  decide +kernel
theorem d148_5 (L : Nat) (xs : Nat → Int32) : decode (ax_code (mgT L xs) 148) 5 = .ok (.iconst 1, 1) := by
  show decode prog_11_method_42_code 5 = _
  decide +kernel
theorem d148_6 (L : Nat) (xs : Nat → Int32) : decode (ax_code (mgT L xs) 148) 6 = .ok (.iadd, 1) := by
  show decode prog_11_method_42_code 6 = _
  decide +kernel
theorem d148_7 (L : Nat) (xs : Nat → Int32) : decode (ax_code (mgT L xs) 148) 7 = .ok (.putfield 237, 3) := by
  show decode prog_11_method_42_code 7 = _
  decide +kernel
theorem d148_10 (L : Nat) (xs : Nat → Int32) : decode (ax_code (mgT L xs) 148) 10 = .ok (.aload_n 0, 1) := by
  show decode prog_11_method_42_code 10 = _
  decide +kernel
theorem d148_11 (L : Nat) (xs : Nat → Int32) : decode (ax_code (mgT L xs) 148) 11 = .ok (.getfield 237, 3) := by
  show decode prog_11_method_42_code 11 = _
  decide +kernel
theorem d148_14 (L : Nat) (xs : Nat → Int32) : decode (ax_code (mgT L xs) 148) 14 = .ok (.iconst 3, 1) := by
  show decode prog_11_method_42_code 14 = _
  decide +kernel
theorem d148_15 (L : Nat) (xs : Nat → Int32) : decode (ax_code (mgT L xs) 148) 15 = .ok (.if_icmp .ne 11, 3) := by
  show decode prog_11_method_42_code 15 = _
  decide +kernel
theorem d148_18 (L : Nat) (xs : Nat → Int32) : decode (ax_code (mgT L xs) 148) 18 = .ok (.aload_n 0, 1) := by
  show decode prog_11_method_42_code 18 = _
  decide +kernel
theorem d148_19 (L : Nat) (xs : Nat → Int32) : decode (ax_code (mgT L xs) 148) 19 = .ok (.bipush 6, 2) := by
  show decode prog_11_method_42_code 19 = _
  decide +kernel
theorem d148_21 (L : Nat) (xs : Nat → Int32) : decode (ax_code (mgT L xs) 148) 21 = .ok (.invokevirtual 215, 3) := by
  show decode prog_11_method_42_code 21 = _
  decide +kernel
theorem d148_24 (L : Nat) (xs : Nat → Int32) : decode (ax_code (mgT L xs) 148) 24 = .ok (.iconst (-1), 1) := by
  show decode prog_11_method_42_code 24 = _
  decide +kernel
theorem d148_25 (L : Nat) (xs : Nat → Int32) : decode (ax_code (mgT L xs) 148) 25 = .ok (.ireturn, 1) := by
  show decode prog_11_method_42_code 25 = _
  decide +kernel
theorem d148_26 (L : Nat) (xs : Nat → Int32) : decode (ax_code (mgT L xs) 148) 26 = .ok (.iconst 0, 1) := by
  show decode prog_11_method_42_code 26 = _
  decide +kernel
theorem d148_27 (L : Nat) (xs : Nat → Int32) : decode (ax_code (mgT L xs) 148) 27 = .ok (.ireturn, 1) := by
  show decode prog_11_method_42_code 27 = _
  decide +kernel
theorem d149_0 (L : Nat) (xs : Nat → Int32) : decode (ax_code (mgT L xs) 149) 0 = .ok (.aload_n 0, 1) := by
  show decode prog_11_method_44_code 0 = _
  decide +kernel
theorem d149_1 (L : Nat) (xs : Nat → Int32) : decode (ax_code (mgT L xs) 149) 1 = .ok (.getfield 13, 3) := by
  show decode prog_11_method_44_code 1 = _
  decide +kernel
theorem d149_4 (L : Nat) (xs : Nat → Int32) : decode (ax_code (mgT L xs) 149) 4 = .ok (.iload_n 1, 1) := by
  show decode prog_11_method_44_code 4 = _
  decide +kernel
theorem d149_5 (L : Nat) (xs : Nat → Int32) : decode (ax_code (mgT L xs) 149) 5 = .ok (.iaload, 1) := by
  show decode prog_11_method_44_code 5 = _
  decide +kernel
theorem d149_6 (L : Nat) (xs : Nat → Int32) : decode (ax_code (mgT L xs) 149) 6 = .ok (.iconst 1, 1) := by
  show decode prog_11_method_44_code 6 = _
  decide +kernel
theorem d149_7 (L : Nat) (xs : Nat → Int32) : decode (ax_code (mgT L xs) 149) 7 = .ok (.if_icmp .ne 15, 3) := by
  show decode prog_11_method_44_code 7 = _
  decide +kernel
theorem d149_10 (L : Nat) (xs : Nat → Int32) : decode (ax_code (mgT L xs) 149) 10 = .ok (.aload_n 0, 1) := by
  show decode prog_11_method_44_code 10 = _
  decide +kernel
theorem d149_11 (L : Nat) (xs : Nat → Int32) : decode (ax_code (mgT L xs) 149) 11 = .ok (.iload_n 1, 1) := by
  show decode prog_11_method_44_code 11 = _
  decide +kernel
theorem d149_12 (L : Nat) (xs : Nat → Int32) : decode (ax_code (mgT L xs) 149) 12 = .ok (.invokevirtual 127, 3) := by
  show decode prog_11_method_44_code 12 = _
  decide +kernel
theorem d149_15 (L : Nat) (xs : Nat → Int32) : decode (ax_code (mgT L xs) 149) 15 = .ok (.ifCond .eq 7, 3) := by
  show decode prog_11_method_44_code 15 = _
  decide +kernel
theorem d149_18 (L : Nat) (xs : Nat → Int32) : decode (ax_code (mgT L xs) 149) 18 = .ok (.iconst 1, 1) := by
  show decode prog_11_method_44_code 18 = _
  decide +kernel
theorem d149_19 (L : Nat) (xs : Nat → Int32) : decode (ax_code (mgT L xs) 149) 19 = .ok (.goto 4, 3) := by
  show decode prog_11_method_44_code 19 = _
  decide +kernel
theorem d149_22 (L : Nat) (xs : Nat → Int32) : decode (ax_code (mgT L xs) 149) 22 = .ok (.iconst 0, 1) := by
  show decode prog_11_method_44_code 22 = _
  decide +kernel
theorem d149_23 (L : Nat) (xs : Nat → Int32) : decode (ax_code (mgT L xs) 149) 23 = .ok (.ireturn, 1) := by
  show decode prog_11_method_44_code 23 = _
  decide +kernel
theorem d150_0 (L : Nat) (xs : Nat → Int32) : decode (ax_code (mgT L xs) 150) 0 = .ok (.aload_n 0, 1) := by
  show decode prog_11_method_45_code 0 = _
  decide +kernel
theorem d150_1 (L : Nat) (xs : Nat → Int32) : decode (ax_code (mgT L xs) 150) 1 = .ok (.getfield 76, 3) := by
  show decode prog_11_method_45_code 1 = _
  decide +kernel
theorem d150_4 (L : Nat) (xs : Nat → Int32) : decode (ax_code (mgT L xs) 150) 4 = .ok (.iconst 0, 1) := by
  show decode prog_11_method_45_code 4 = _
  decide +kernel
theorem d150_5 (L : Nat) (xs : Nat → Int32) : decode (ax_code (mgT L xs) 150) 5 = .ok (.aload_n 0, 1) := by
  show decode prog_11_method_45_code 5 = _
  decide +kernel
theorem d150_6 (L : Nat) (xs : Nat → Int32) : decode (ax_code (mgT L xs) 150) 6 = .ok (.getfield 114, 3) := by
  show decode prog_11_method_45_code 6 = _
  decide +kernel
theorem d150_9 (L : Nat) (xs : Nat → Int32) : decode (ax_code (mgT L xs) 150) 9 = .ok (.iastore, 1) := by
  show decode prog_11_method_45_code 9 = _
  decide +kernel
theorem d150_10 (L : Nat) (xs : Nat → Int32) : decode (ax_code (mgT L xs) 150) 10 = .ok (.iconst 0, 1) := by
  show decode prog_11_method_45_code 10 = _
  decide +kernel
theorem d150_11 (L : Nat) (xs : Nat → Int32) : decode (ax_code (mgT L xs) 150) 11 = .ok (.istore_n 1, 1) := by
  show decode prog_11_method_45_code 11 = _
  decide +kernel
theorem d150_12 (L : Nat) (xs : Nat → Int32) : decode (ax_code (mgT L xs) 150) 12 = .ok (.iload_n 1, 1) := by
  show decode prog_11_method_45_code 12 = _
  decide +kernel
theorem d150_13 (L : Nat) (xs : Nat → Int32) : decode (ax_code (mgT L xs) 150) 13 = .ok (.aload_n 0, 1) := by
  show decode prog_11_method_45_code 13 = _
  decide +kernel
theorem d150_14 (L : Nat) (xs : Nat → Int32) : decode (ax_code (mgT L xs) 150) 14 = .ok (.getfield 114, 3) := by
  show decode prog_11_method_45_code 14 = _
  decide +kernel
theorem d150_17 (L : Nat) (xs : Nat → Int32) : decode (ax_code (mgT L xs) 150) 17 = .ok (.if_icmp .ge 23, 3) := by
  show decode prog_11_method_45_code 17 = _
  decide +kernel
theorem d150_20 (L : Nat) (xs : Nat → Int32) : decode (ax_code (mgT L xs) 150) 20 = .ok (.aload_n 0, 1) := by
  show decode prog_11_method_45_code 20 = _
  decide +kernel
theorem d150_21 (L : Nat) (xs : Nat → Int32) : decode (ax_code (mgT L xs) 150) 21 = .ok (.getfield 76, 3) := by
  show decode prog_11_method_45_code 21 = _
  decide +kernel
theorem d150_24 (L : Nat) (xs : Nat → Int32) : decode (ax_code (mgT L xs) 150) 24 = .ok (.iconst 1, 1) := by
  show decode prog_11_method_45_code 24 = _
  decide +kernel
theorem d150_25 (L : Nat) (xs : Nat → Int32) : decode (ax_code (mgT L xs) 150) 25 = .ok (.iload_n 1, 1) := by
  show decode prog_11_method_45_code 25 = _
  decide +kernel
theorem d150_26 (L : Nat) (xs : Nat → Int32) : decode (ax_code (mgT L xs) 150) 26 = .ok (.iadd, 1) := by
  show decode prog_11_method_45_code 26 = _
  decide +kernel
theorem d150_27 (L : Nat) (xs : Nat → Int32) : decode (ax_code (mgT L xs) 150) 27 = .ok (.aload_n 0, 1) := by
  show decode prog_11_method_45_code 27 = _
  decide +kernel
theorem d150_28 (L : Nat) (xs : Nat → Int32) : decode (ax_code (mgT L xs) 150) 28 = .ok (.getfield 28, 3) := by
  show decode prog_11_method_45_code 28 = _
  decide +kernel
theorem d150_31 (L : Nat) (xs : Nat → Int32) : decode (ax_code (mgT L xs) 150) 31 = .ok (.iload_n 1, 1) := by
  show decode prog_11_method_45_code 31 = _
  decide +kernel
theorem d150_32 (L : Nat) (xs : Nat → Int32) : decode (ax_code (mgT L xs) 150) 32 = .ok (.iaload, 1) := by
  show decode prog_11_method_45_code 32 = _
  decide +kernel
theorem d150_33 (L : Nat) (xs : Nat → Int32) : decode (ax_code (mgT L xs) 150) 33 = .ok (.iastore, 1) := by
  show decode prog_11_method_45_code 33 = _
  decide +kernel
theorem d150_34 (L : Nat) (xs : Nat → Int32) : decode (ax_code (mgT L xs) 150) 34 = .ok (.iinc 1 1, 3) := by
  show decode prog_11_method_45_code 34 = _
  decide +kernel
theorem d150_37 (L : Nat) (xs : Nat → Int32) : decode (ax_code (mgT L xs) 150) 37 = .ok (.goto (-25), 3) := by
  show decode prog_11_method_45_code 37 = _
  decide +kernel
theorem d150_40 (L : Nat) (xs : Nat → Int32) : decode (ax_code (mgT L xs) 150) 40 = .ok (.return_, 1) := by
  show decode prog_11_method_45_code 40 = _
  decide +kernel
theorem d152_0 (L : Nat) (xs : Nat → Int32) : decode (ax_code (mgT L xs) 152) 0 = .ok (.aload_n 0, 1) := by
  show decode prog_11_method_46_code 0 = _
  decide +kernel
theorem d152_1 (L : Nat) (xs : Nat → Int32) : decode (ax_code (mgT L xs) 152) 1 = .ok (.aload_n 0, 1) := by
  show decode prog_11_method_46_code 1 = _
  decide +kernel
theorem d152_2 (L : Nat) (xs : Nat → Int32) : decode (ax_code (mgT L xs) 152) 2 = .ok (.getfield 76, 3) := by
  show decode prog_11_method_46_code 2 = _
  decide +kernel
theorem d152_5 (L : Nat) (xs : Nat → Int32) : decode (ax_code (mgT L xs) 152) 5 = .ok (.iconst 0, 1) := by
  show decode prog_11_method_46_code 5 = _
  decide +kernel
theorem d152_6 (L : Nat) (xs : Nat → Int32) : decode (ax_code (mgT L xs) 152) 6 = .ok (.iaload, 1) := by
  show decode prog_11_method_46_code 6 = _
  decide +kernel
theorem d152_7 (L : Nat) (xs : Nat → Int32) : decode (ax_code (mgT L xs) 152) 7 = .ok (.putfield 114, 3) := by
  show decode prog_11_method_46_code 7 = _
  decide +kernel
theorem d152_10 (L : Nat) (xs : Nat → Int32) : decode (ax_code (mgT L xs) 152) 10 = .ok (.iconst 0, 1) := by
  show decode prog_11_method_46_code 10 = _
  decide +kernel
theorem d152_11 (L : Nat) (xs : Nat → Int32) : decode (ax_code (mgT L xs) 152) 11 = .ok (.istore_n 1, 1) := by
  show decode prog_11_method_46_code 11 = _
  decide +kernel
theorem d152_12 (L : Nat) (xs : Nat → Int32) : decode (ax_code (mgT L xs) 152) 12 = .ok (.iload_n 1, 1) := by
  show decode prog_11_method_46_code 12 = _
  decide +kernel
theorem d152_13 (L : Nat) (xs : Nat → Int32) : decode (ax_code (mgT L xs) 152) 13 = .ok (.aload_n 0, 1) := by
  show decode prog_11_method_46_code 13 = _
  decide +kernel
theorem d152_14 (L : Nat) (xs : Nat → Int32) : decode (ax_code (mgT L xs) 152) 14 = .ok (.getfield 114, 3) := by
  show decode prog_11_method_46_code 14 = _
  decide +kernel
theorem d152_17 (L : Nat) (xs : Nat → Int32) : decode (ax_code (mgT L xs) 152) 17 = .ok (.if_icmp .ge 23, 3) := by
  show decode prog_11_method_46_code 17 = _
  decide +kernel
theorem d152_20 (L : Nat) (xs : Nat → Int32) : decode (ax_code (mgT L xs) 152) 20 = .ok (.aload_n 0, 1) := by
  show decode prog_11_method_46_code 20 = _
  decide +kernel
theorem d152_21 (L : Nat) (xs : Nat → Int32) : decode (ax_code (mgT L xs) 152) 21 = .ok (.getfield 28, 3) := by
  show decode prog_11_method_46_code 21 = _
  decide +kernel
theorem d152_24 (L : Nat) (xs : Nat → Int32) : decode (ax_code (mgT L xs) 152) 24 = .ok (.iload_n 1, 1) := by
  show decode prog_11_method_46_code 24 = _
  decide +kernel
theorem d152_25 (L : Nat) (xs : Nat → Int32) : decode (ax_code (mgT L xs) 152) 25 = .ok (.aload_n 0, 1) := by
  show decode prog_11_method_46_code 25 = _
  decide +kernel
theorem d152_26 (L : Nat) (xs : Nat → Int32) : decode (ax_code (mgT L xs) 152) 26 = .ok (.getfield 76, 3) := by
  show decode prog_11_method_46_code 26 = _
  decide +kernel
theorem d152_29 (L : Nat) (xs : Nat → Int32) : decode (ax_code (mgT L xs) 152) 29 = .ok (.iconst 1, 1) := by
  show decode prog_11_method_46_code 29 = _
  decide +kernel
theorem d152_30 (L : Nat) (xs : Nat → Int32) : decode (ax_code (mgT L xs) 152) 30 = .ok (.iload_n 1, 1) := by
  show decode prog_11_method_46_code 30 = _
  decide +kernel
theorem d152_31 (L : Nat) (xs : Nat → Int32) : decode (ax_code (mgT L xs) 152) 31 = .ok (.iadd, 1) := by
  show decode prog_11_method_46_code 31 = _
  decide +kernel
theorem d152_32 (L : Nat) (xs : Nat → Int32) : decode (ax_code (mgT L xs) 152) 32 = .ok (.iaload, 1) := by
  show decode prog_11_method_46_code 32 = _
  decide +kernel
theorem d152_33 (L : Nat) (xs : Nat → Int32) : decode (ax_code (mgT L xs) 152) 33 = .ok (.iastore, 1) := by
  show decode prog_11_method_46_code 33 = _
  decide +kernel
theorem d152_34 (L : Nat) (xs : Nat → Int32) : decode (ax_code (mgT L xs) 152) 34 = .ok (.iinc 1 1, 3) := by
  show decode prog_11_method_46_code 34 = _
  decide +kernel
theorem d152_37 (L : Nat) (xs : Nat → Int32) : decode (ax_code (mgT L xs) 152) 37 = .ok (.goto (-25), 3) := by
  show decode prog_11_method_46_code 37 = _
  decide +kernel
theorem d152_40 (L : Nat) (xs : Nat → Int32) : decode (ax_code (mgT L xs) 152) 40 = .ok (.return_, 1) := by
  show decode prog_11_method_46_code 40 = _
  decide +kernel
section KD
variable {L : Nat} {xs : Nat → Int32} {d : Nat} {s : mg_s} {E : ckE} {Q : Option Value → mg_s → Prop}
theorem md_meaning {x : Nat} (hx : x < 2 ^ 20) : ca L xs (d + 1) 137 [.int (nI x)] s (fun v s' => v = some (.int (nI (c_res x))) ∧ s = s') := by
  refine wg_call (Nat.le_of_ble_eq_true rfl) ?_
  show wp L xs d 137 0 [some (.int (nI x))] [] s _
  refine wg_iload_n (d137_0 L xs) rfl ?_
  refine wg_bipush (d137_1 L xs) (x := 45) (by decide) ?_
  refine wn_icmp_ne (d137_3 L xs) (x := x) (y := 45) (by omega) (by omega) (t := 10) (by decide) (fun h1 => ?_) (fun h1 => ?_)
  · refine wg_iload_n (d137_10 L xs) rfl ?_
    refine wg_bipush (d137_11 L xs) (x := 126) (by decide) ?_
    refine wn_icmp_ne (d137_13 L xs) (x := x) (y := 126) (by omega) (by omega) (t := 20) (by decide) (fun h2 => ?_) (fun h2 => ?_)
    · refine wg_iload_n (d137_20 L xs) rfl ?_
      refine wg_bipush (d137_21 L xs) (x := 63) (by decide) ?_
      refine wn_icmp_ne (d137_23 L xs) (x := x) (y := 63) (by omega) (by omega) (t := 30) (by decide) (fun h3 => ?_) (fun h3 => ?_)
      · refine wg_iconst (d137_30 L xs) (x := 2) (by decide) ?_
        exact wg_iret (d137_31 L xs) rfl rfl ⟨by unfold c_res; rw [if_neg (by omega), if_neg (by omega), if_neg (by omega)]; rfl, rfl⟩
      · refine wg_iconst (d137_26 L xs) (x := 1) (by decide) ?_
        refine wg_goto (d137_27 L xs) (t := 31) (by decide) ?_
        exact wg_iret (d137_31 L xs) rfl rfl ⟨by unfold c_res; rw [if_neg (by omega), if_pos (by omega)]; rfl, rfl⟩
    · refine wg_iconst (d137_16 L xs) (x := 4) (by decide) ?_
      refine wg_goto (d137_17 L xs) (t := 31) (by decide) ?_
      exact wg_iret (d137_31 L xs) rfl rfl ⟨by unfold c_res; rw [if_neg (by omega), if_neg (by omega), if_pos (by omega)]; rfl, rfl⟩
  · refine wg_iconst (d137_6 L xs) (x := 3) (by decide) ?_
    refine wg_goto (d137_7 L xs) (t := 31) (by decide) ?_
    exact wg_iret (d137_31 L xs) rfl rfl ⟨by unfold c_res; rw [if_pos (by omega)]; rfl, rfl⟩
theorem md_look0 {n : Nat} (hn : s.1 141 37 = nI n) (h10 : n = 10) : ca L xs (d + 2) 140 [.ref 141] s (fun v s' => v = some (.int 0) ∧ mg_I (mg_I s 141 36 6) 141 23 0 = s') := by
  refine wg_call (Nat.le_of_ble_eq_true rfl) ?_
  show wp L xs (d + 1) 140 0 [some (.ref 141)] [] s _
  refine wg_aload_n (d140_0 L xs) rfl ?_
  refine wg_get (d140_1 L xs) (kd := 1) (cj := 9) (k0 := 37) rfl (Or.inl rfl) (by decide) rfl rfl ?_
  refine wg_top (y := (nI n)) hn ?_
  refine wg_bipush (d140_4 L xs) (x := 10) (by decide) ?_
  refine wn_icmp_ne (d140_6 L xs) (x := n) (y := 10) (by omega) (by omega) (t := 17) (by decide) (fun h1 => by omega) (fun h1 => ?_)
  refine wg_aload_n (d140_9 L xs) rfl ?_
  refine wg_bipush (d140_10 L xs) (x := 6) (by decide) ?_
  refine wg_invv (d140_12 L xs) (kd := 7) (mj := 119) (n := 1) rfl (Or.inl rfl) (ys := [.int 6]) (r := []) rfl rfl (by decide) rfl rfl (Nat.le_of_ble_eq_true rfl) (md_end) ?_
  rintro _ _ ⟨rfl, rfl⟩
  refine wg_iconst (d140_15 L xs) (x := 0) (by decide) ?_
  exact wg_iret (d140_16 L xs) rfl rfl ⟨rfl, rfl⟩
theorem md_look1 {n : Nat} (hn : s.1 141 37 = nI n) (h10 : n < 10) : ca L xs (d + 2) 140 [.ref 141] s (fun v s' => v = some (.int 1) ∧ mg_I s 141 37 (nI (n + 1)) = s') := by
  refine wg_call (Nat.le_of_ble_eq_true rfl) ?_
  show wp L xs (d + 1) 140 0 [some (.ref 141)] [] s _
  refine wg_aload_n (d140_0 L xs) rfl ?_
  refine wg_get (d140_1 L xs) (kd := 1) (cj := 9) (k0 := 37) rfl (Or.inl rfl) (by decide) rfl rfl ?_
  refine wg_top (y := (nI n)) hn ?_
  refine wg_bipush (d140_4 L xs) (x := 10) (by decide) ?_
  refine wn_icmp_ne (d140_6 L xs) (x := n) (y := 10) (by omega) (by omega) (t := 17) (by decide) (fun h1 => ?_) (fun h1 => by omega)
  refine wg_aload_n (d140_17 L xs) rfl ?_
  refine wg_dup (d140_18 L xs) rfl ?_
  refine wg_get (d140_19 L xs) (kd := 1) (cj := 9) (k0 := 37) rfl (Or.inl rfl) (by decide) rfl rfl ?_
  refine wg_top (y := (nI n)) hn ?_
  refine wg_iconst (d140_22 L xs) (x := 1) (by decide) ?_
  refine wg_iadd (d140_23 L xs) ?_
  refine wg_top (y := (nI (n + 1))) (nI_add n 1) ?_
  refine wg_puti (d140_24 L xs) (cj := 9) (k0 := 37) rfl (by decide) rfl (Nat.le_of_ble_eq_true rfl) rfl rfl rfl ?_
  refine wg_iconst (d140_27 L xs) (x := 1) (by decide) ?_
  exact wg_iret (d140_28 L xs) rfl rfl ⟨rfl, rfl⟩
theorem md_alike {x y : Int32} {n : Nat} (hn : n ≤ 32) : ca L xs (d + 1) 139 [.int x, .int y, .int (nI n)] s (fun v s' => v = some (.int (nI (bI (c_sb x y n)))) ∧ s = s') := by
  refine wg_call (Nat.le_of_ble_eq_true rfl) ?_
  show wp L xs d 139 0 [some (.int x), some (.int y), some (.int (nI n))] [] s _
  refine wg_iload_n (d139_0 L xs) rfl ?_
  refine wn_if_eq (d139_1 L xs) (x := n) (by omega) (t := 24) (by decide) (fun h1 => ?_) (fun h1 => ?_)
  · refine wg_iconst (d139_24 L xs) (x := 1) (by decide) ?_
    refine wg_goto (d139_25 L xs) (t := 29) (by decide) ?_
    exact wg_iret (d139_29 L xs) rfl rfl ⟨by unfold c_sb; rw [decide_eq_true (show n = 0 by omega)]; rfl, rfl⟩
  · refine wg_iload_n (d139_4 L xs) rfl ?_
    refine wg_iload_n (d139_5 L xs) rfl ?_
    refine wg_ixor (d139_6 L xs) ?_
    refine wg_bipush (d139_7 L xs) (x := 32) (by decide) ?_
    refine wg_iload_n (d139_9 L xs) rfl ?_
    refine wn_if_ne (d139_10 L xs) (x := n) (by omega) (t := 18) (by decide) (fun h2 => ?_) (fun h2 => by omega)
    refine wg_iload_n (d139_18 L xs) rfl ?_
    refine wg_isub (d139_19 L xs) ?_
    refine wg_top (y := (nI (32 - n))) (pk_sub (a := 32) (b := n) (by omega)) ?_
    refine wg_iushr (d139_20 L xs) ?_
    refine wg_if_ne (d139_21 L xs) (t := 28) (by decide) (fun h3 => ?_) (fun h3 => ?_)
    · refine wg_iconst (d139_28 L xs) (x := 0) (by decide) ?_
      exact wg_iret (d139_29 L xs) rfl rfl ⟨by unfold c_sb; rw [decide_eq_false (show ¬ n = 0 by omega), decide_eq_false h3]; rfl, rfl⟩
    · refine wg_iconst (d139_24 L xs) (x := 1) (by decide) ?_
      refine wg_goto (d139_25 L xs) (t := 29) (by decide) ?_
      exact wg_iret (d139_29 L xs) rfl rfl ⟨by unfold c_sb; rw [decide_eq_false (show ¬ n = 0 by omega), decide_eq_true (Decidable.of_not_not h3)]; rfl, rfl⟩
theorem md_empty0 {n : Nat} (hn : s.1 141 38 = nI n) (h3 : n < 2) : ca L xs (d + 2) 148 [.ref 141] s (fun v s' => v = some (.int 0) ∧ mg_I s 141 38 (nI (n + 1)) = s') := by
  refine wg_call (Nat.le_of_ble_eq_true rfl) ?_
  show wp L xs (d + 1) 148 0 [some (.ref 141)] [] s _
  refine wg_aload_n (d148_0 L xs) rfl ?_
  refine wg_dup (d148_1 L xs) rfl ?_
  refine wg_get (d148_2 L xs) (kd := 1) (cj := 9) (k0 := 38) rfl (Or.inl rfl) (by decide) rfl rfl ?_
  refine wg_top (y := (nI n)) hn ?_
  refine wg_iconst (d148_5 L xs) (x := 1) (by decide) ?_
  refine wg_iadd (d148_6 L xs) ?_
  refine wg_top (y := (nI (n + 1))) (nI_add n 1) ?_
  refine wg_puti (d148_7 L xs) (cj := 9) (k0 := 38) rfl (by decide) rfl (Nat.le_of_ble_eq_true rfl) rfl rfl rfl ?_
  refine wg_aload_n (d148_10 L xs) rfl ?_
  refine wg_get (d148_11 L xs) (kd := 1) (cj := 9) (k0 := 38) rfl (Or.inl rfl) (by decide) rfl rfl ?_
  refine wg_top (y := (nI (n + 1))) rfl ?_
  refine wg_iconst (d148_14 L xs) (x := 3) (by decide) ?_
  refine wn_icmp_ne (d148_15 L xs) (x := n + 1) (y := 3) (by omega) (by omega) (t := 26) (by decide) (fun h1 => ?_) (fun h1 => by omega)
  refine wg_iconst (d148_26 L xs) (x := 0) (by decide) ?_
  exact wg_iret (d148_27 L xs) rfl rfl ⟨rfl, rfl⟩
theorem md_empty6 {n : Nat} (hn : s.1 141 38 = nI n) (h3 : n = 2) : ca L xs (d + 2) 148 [.ref 141] s (fun v s' => v = some (.int (-1)) ∧ mg_I (mg_I (mg_I s 141 38 (nI (n + 1))) 141 36 6) 141 23 0 = s') := by
  refine wg_call (Nat.le_of_ble_eq_true rfl) ?_
  show wp L xs (d + 1) 148 0 [some (.ref 141)] [] s _
  refine wg_aload_n (d148_0 L xs) rfl ?_
  refine wg_dup (d148_1 L xs) rfl ?_
  refine wg_get (d148_2 L xs) (kd := 1) (cj := 9) (k0 := 38) rfl (Or.inl rfl) (by decide) rfl rfl ?_
  refine wg_top (y := (nI n)) hn ?_
  refine wg_iconst (d148_5 L xs) (x := 1) (by decide) ?_
  refine wg_iadd (d148_6 L xs) ?_
  refine wg_top (y := (nI (n + 1))) (nI_add n 1) ?_
  refine wg_puti (d148_7 L xs) (cj := 9) (k0 := 38) rfl (by decide) rfl (Nat.le_of_ble_eq_true rfl) rfl rfl rfl ?_
  refine wg_aload_n (d148_10 L xs) rfl ?_
  refine wg_get (d148_11 L xs) (kd := 1) (cj := 9) (k0 := 38) rfl (Or.inl rfl) (by decide) rfl rfl ?_
  refine wg_top (y := (nI (n + 1))) rfl ?_
  refine wg_iconst (d148_14 L xs) (x := 3) (by decide) ?_
  refine wn_icmp_ne (d148_15 L xs) (x := n + 1) (y := 3) (by omega) (by omega) (t := 26) (by decide) (fun h1 => by omega) (fun h1 => ?_)
  refine wg_aload_n (d148_18 L xs) rfl ?_
  refine wg_bipush (d148_19 L xs) (x := 6) (by decide) ?_
  refine wg_invv (d148_21 L xs) (kd := 7) (mj := 119) (n := 1) rfl (Or.inl rfl) (ys := [.int 6]) (r := []) rfl rfl (by decide) rfl rfl (Nat.le_of_ble_eq_true rfl) (md_end) ?_
  rintro _ _ ⟨rfl, rfl⟩
  refine wg_iconst (d148_24 L xs) (x := (-1)) (by decide) ?_
  exact wg_iret (d148_25 L xs) rfl rfl ⟨rfl, rfl⟩
theorem md_save_l {l : List Nat} (hcap : l.length ≤ 48) : ∀ (q k : Nat) (s : mg_s), k + q = l.length → s.1 141 10 = nI l.length → holdA s 148 0 l → (∀ j, j < k → s.2.1 164 (1 + j) = nI (gl l j)) → (∀ s', mfr s s' [] [164] → holdA s' 164 1 l → (∀ j, j < 1 ∨ 1 + l.length ≤ j → s'.2.1 164 j = s.2.1 164 j) → wp L xs d 150 40 [some (.ref 141), some (.int (nI l.length))] [] s' Q) → wp L xs d 150 12 [some (.ref 141), some (.int (nI k))] [] s Q := by
  intro q
  induction q with
  | zero =>
    intro k s hk h10 hsrc hdst kk
    have hk0 : k = l.length := by omega
    subst hk0
    refine wg_iload_n (d150_12 L xs) rfl ?_
    refine wg_aload_n (d150_13 L xs) rfl ?_
    refine wg_get (d150_14 L xs) (kd := 1) (cj := 9) (k0 := 10) rfl (Or.inl rfl) (by decide) rfl rfl ?_
    refine wg_top (y := (nI l.length)) h10 ?_
    refine wn_icmp_ge (d150_17 L xs) (x := l.length) (y := l.length) (by omega) (by omega) (t := 40) (by decide) (fun h1 => ?_) (fun h1 => by omega)
    exact kk s (mfr.rf s _ _) ⟨hsrc.1, hdst⟩ (fun _ _ => rfl)
  | succ q ih =>
    intro k s hk h10 hsrc hdst kk
    have hgk := gl_lt hsrc.1 k
    refine wg_iload_n (d150_12 L xs) rfl ?_
    refine wg_aload_n (d150_13 L xs) rfl ?_
    refine wg_get (d150_14 L xs) (kd := 1) (cj := 9) (k0 := 10) rfl (Or.inl rfl) (by decide) rfl rfl ?_
    refine wg_top (y := (nI l.length)) h10 ?_
    refine wn_icmp_ge (d150_17 L xs) (x := k) (y := l.length) (by omega) (by omega) (t := 40) (by decide) (fun h1 => by omega) (fun h1 => ?_)
    refine wg_aload_n (d150_20 L xs) rfl ?_
    refine wg_get (d150_21 L xs) (kd := 1) (cj := 9) (k0 := 47) rfl (Or.inl rfl) (by decide) rfl rfl ?_
    refine wg_iconst (d150_24 L xs) (x := 1) (by decide) ?_
    refine wg_iload_n (d150_25 L xs) rfl ?_
    refine wg_iadd (d150_26 L xs) ?_
    refine wg_top (y := (nI (1 + k))) (nI_add 1 k) ?_
    refine wg_aload_n (d150_27 L xs) rfl ?_
    refine wg_get (d150_28 L xs) (kd := 1) (cj := 9) (k0 := 11) rfl (Or.inl rfl) (by decide) rfl rfl ?_
    refine wg_iload_n (d150_31 L xs) rfl ?_
    refine wg_iald (d150_32 L xs) (n := 60) (by decide) rfl (vp_in_nI (n := k) (by omega) (by omega)) ?_
    refine wg_top (y := (nI (gl l k))) (by rw [nI_nat (n := k) (by omega)]; exact ((congrArg (s.2.1 148) (show k = 0 + k by omega)).trans (hsrc.2 k (by omega)))) ?_
    refine wg_iast (d150_33 L xs) (n := 60) (by decide) rfl (vp_in_nI (n := 1 + k) (by omega) (by omega)) rfl ?_
    rw [nI_nat (n := 1 + k) (by omega)]
    refine wg_iinc (d150_34 L xs) (y := (nI (k + 1))) (ls' := [some (.ref 141), some (.int (nI (k + 1)))]) rfl (nI_add k 1) rfl ?_
    refine wg_goto (d150_37 L xs) (t := 12) (by decide) ?_
    refine ih (k + 1) _ (by omega) h10 (holdA_A hsrc (by decide)) (fun j hj => ?_) (fun s' m1 m2 m3 => kk s' ((mfr_A s (by decide)).trans m1) m2 (fun j hj => (m3 j hj).trans (mA_ne _ _ (Or.inr (by omega)))))
    by_cases e : j = k
    · subst e; exact (congrArg ((mg_A s 164 (1 + j) (nI (gl l j))).2.1 164) (show 1 + j = (1 + j) by omega)).trans (mA_at _ _ _ _)
    · exact (mA_ne _ _ (Or.inr (by omega))).trans (hdst j (by omega))
theorem md_save {l : List Nat} (hcap : l.length ≤ 48) (h10 : s.1 141 10 = nI l.length) (hnm : holdA s 148 0 l) : ca L xs (d + 1) 150 [.ref 141] s (fun r s' => r = none ∧ mfr s s' [] [164] ∧ s'.2.1 164 0 = nI l.length ∧ holdA s' 164 1 l) := by
  refine wg_call (Nat.le_of_ble_eq_true rfl) ?_
  show wp L xs d 150 0 [some (.ref 141), none] [] s _
  refine wg_aload_n (d150_0 L xs) rfl ?_
  refine wg_get (d150_1 L xs) (kd := 1) (cj := 9) (k0 := 47) rfl (Or.inl rfl) (by decide) rfl rfl ?_
  refine wg_iconst (d150_4 L xs) (x := 0) (by decide) ?_
  refine wg_aload_n (d150_5 L xs) rfl ?_
  refine wg_get (d150_6 L xs) (kd := 1) (cj := 9) (k0 := 10) rfl (Or.inl rfl) (by decide) rfl rfl ?_
  refine wg_top (y := (nI l.length)) h10 ?_
  refine wg_iast (d150_9 L xs) (n := 60) (by decide) rfl (vp_in_nI (n := 0) (by omega) (by omega)) rfl ?_
  rw [show Int32.toNatClampNeg 0 = 0 from rfl]
  refine wg_iconst (d150_10 L xs) (x := 0) (by decide) ?_
  refine wg_istore_n (d150_11 L xs) (ls' := [some (.ref 141), some (.int 0)]) (Nat.le_of_ble_eq_true rfl) rfl ?_
  refine md_save_l hcap l.length 0 _ (by omega) h10 (holdA_A hnm (by decide)) (fun j hj => absurd hj (by omega)) (fun s' m1 m2 m3 => ?_)
  exact wg_vret (d150_40 L xs) rfl ⟨rfl, (mfr_A s (by decide)).trans m1, (m3 0 (Or.inl (by omega))).trans (mA_at _ _ _ _), m2⟩
theorem md_load_l {l : List Nat} (hcap : l.length ≤ 48) : ∀ (q k : Nat) (s : mg_s), k + q = l.length → s.1 141 10 = nI l.length → holdA s 164 1 l → (∀ j, j < k → s.2.1 148 (0 + j) = nI (gl l j)) → (∀ s', mfr s s' [] [148] → holdA s' 148 0 l → (∀ j, j < 0 ∨ 0 + l.length ≤ j → s'.2.1 148 j = s.2.1 148 j) → wp L xs d 152 40 [some (.ref 141), some (.int (nI l.length))] [] s' Q) → wp L xs d 152 12 [some (.ref 141), some (.int (nI k))] [] s Q := by
  intro q
  induction q with
  | zero =>
    intro k s hk h10 hsrc hdst kk
    have hk0 : k = l.length := by omega
    subst hk0
    refine wg_iload_n (d152_12 L xs) rfl ?_
    refine wg_aload_n (d152_13 L xs) rfl ?_
    refine wg_get (d152_14 L xs) (kd := 1) (cj := 9) (k0 := 10) rfl (Or.inl rfl) (by decide) rfl rfl ?_
    refine wg_top (y := (nI l.length)) h10 ?_
    refine wn_icmp_ge (d152_17 L xs) (x := l.length) (y := l.length) (by omega) (by omega) (t := 40) (by decide) (fun h1 => ?_) (fun h1 => by omega)
    exact kk s (mfr.rf s _ _) ⟨hsrc.1, hdst⟩ (fun _ _ => rfl)
  | succ q ih =>
    intro k s hk h10 hsrc hdst kk
    have hgk := gl_lt hsrc.1 k
    refine wg_iload_n (d152_12 L xs) rfl ?_
    refine wg_aload_n (d152_13 L xs) rfl ?_
    refine wg_get (d152_14 L xs) (kd := 1) (cj := 9) (k0 := 10) rfl (Or.inl rfl) (by decide) rfl rfl ?_
    refine wg_top (y := (nI l.length)) h10 ?_
    refine wn_icmp_ge (d152_17 L xs) (x := k) (y := l.length) (by omega) (by omega) (t := 40) (by decide) (fun h1 => by omega) (fun h1 => ?_)
    refine wg_aload_n (d152_20 L xs) rfl ?_
    refine wg_get (d152_21 L xs) (kd := 1) (cj := 9) (k0 := 11) rfl (Or.inl rfl) (by decide) rfl rfl ?_
    refine wg_iload_n (d152_24 L xs) rfl ?_
    refine wg_aload_n (d152_25 L xs) rfl ?_
    refine wg_get (d152_26 L xs) (kd := 1) (cj := 9) (k0 := 47) rfl (Or.inl rfl) (by decide) rfl rfl ?_
    refine wg_iconst (d152_29 L xs) (x := 1) (by decide) ?_
    refine wg_iload_n (d152_30 L xs) rfl ?_
    refine wg_iadd (d152_31 L xs) ?_
    refine wg_top (y := (nI (1 + k))) (nI_add 1 k) ?_
    refine wg_iald (d152_32 L xs) (n := 60) (by decide) rfl (vp_in_nI (n := 1 + k) (by omega) (by omega)) ?_
    refine wg_top (y := (nI (gl l k))) (by rw [nI_nat (n := 1 + k) (by omega)]; exact ((congrArg (s.2.1 164) (show 1 + k = 1 + k by omega)).trans (hsrc.2 k (by omega)))) ?_
    refine wg_iast (d152_33 L xs) (n := 60) (by decide) rfl (vp_in_nI (n := k) (by omega) (by omega)) rfl ?_
    rw [nI_nat (n := k) (by omega)]
    refine wg_iinc (d152_34 L xs) (y := (nI (k + 1))) (ls' := [some (.ref 141), some (.int (nI (k + 1)))]) rfl (nI_add k 1) rfl ?_
    refine wg_goto (d152_37 L xs) (t := 12) (by decide) ?_
    refine ih (k + 1) _ (by omega) h10 (holdA_A hsrc (by decide)) (fun j hj => ?_) (fun s' m1 m2 m3 => kk s' ((mfr_A s (by decide)).trans m1) m2 (fun j hj => (m3 j hj).trans (mA_ne _ _ (Or.inr (by omega)))))
    by_cases e : j = k
    · subst e; exact (congrArg ((mg_A s 148 j (nI (gl l j))).2.1 148) (show 0 + j = j by omega)).trans (mA_at _ _ _ _)
    · exact (mA_ne _ _ (Or.inr (by omega))).trans (hdst j (by omega))
theorem md_load {l : List Nat} (hcap : l.length ≤ 48) (h0 : s.2.1 164 0 = nI l.length) (hnm : holdA s 164 1 l) : ca L xs (d + 1) 152 [.ref 141] s (fun r s' => r = none ∧ mfr s s' [10] [148] ∧ s'.1 141 10 = nI l.length ∧ holdA s' 148 0 l) := by
  refine wg_call (Nat.le_of_ble_eq_true rfl) ?_
  show wp L xs d 152 0 [some (.ref 141), none] [] s _
  refine wg_aload_n (d152_0 L xs) rfl ?_
  refine wg_aload_n (d152_1 L xs) rfl ?_
  refine wg_get (d152_2 L xs) (kd := 1) (cj := 9) (k0 := 47) rfl (Or.inl rfl) (by decide) rfl rfl ?_
  refine wg_iconst (d152_5 L xs) (x := 0) (by decide) ?_
  refine wg_iald (d152_6 L xs) (n := 60) (by decide) rfl (vp_in_nI (n := 0) (by omega) (by omega)) ?_
  refine wg_top (y := (nI l.length)) h0 ?_
  refine wg_puti (d152_7 L xs) (cj := 9) (k0 := 10) rfl (by decide) rfl (Nat.le_of_ble_eq_true rfl) rfl rfl rfl ?_
  refine wg_iconst (d152_10 L xs) (x := 0) (by decide) ?_
  refine wg_istore_n (d152_11 L xs) (ls' := [some (.ref 141), some (.int 0)]) (Nat.le_of_ble_eq_true rfl) rfl ?_
  refine md_load_l hcap l.length 0 _ (by omega) rfl (holdA_of hnm rfl) (fun j hj => absurd hj (by omega)) (fun s' m1 m2 m3 => ?_)
  exact wg_vret (d152_40 L xs) rfl ⟨rfl, (mfr_I s (by decide)).trans (m1.more (by decide) (by decide)), m1.2.1 10 (by decide), m2⟩
theorem md_nd_l {l : List Nat} {f : Nat} (hf : f < 13) (hcap : l.length ≤ 48) : ∀ (q k : Nat) (s : mg_s), k + q = l.length → s.1 141 10 = nI l.length → holdA s 154 (48 * f) l → (∀ j, j < k → s.2.1 148 (0 + j) = nI (gl l j)) → (∀ s', mfr s s' [] [148] → holdA s' 148 0 l → (∀ j, j < 0 ∨ 0 + l.length ≤ j → s'.2.1 148 j = s.2.1 148 j) → wp L xs d 146 50 [some (.ref 141), some (.int (nI f)), some (.int (nI l.length))] [] s' Q) → wp L xs d 146 19 [some (.ref 141), some (.int (nI f)), some (.int (nI k))] [] s Q := by
  intro q
  induction q with
  | zero =>
    intro k s hk h10 hsrc hdst kk
    have hk0 : k = l.length := by omega
    subst hk0
    refine wg_iload_n (d146_19 L xs) rfl ?_
    refine wg_aload_n (d146_20 L xs) rfl ?_
    refine wg_get (d146_21 L xs) (kd := 1) (cj := 9) (k0 := 10) rfl (Or.inl rfl) (by decide) rfl rfl ?_
    refine wg_top (y := (nI l.length)) h10 ?_
    refine wn_icmp_ge (d146_24 L xs) (x := l.length) (y := l.length) (by omega) (by omega) (t := 50) (by decide) (fun h1 => ?_) (fun h1 => by omega)
    exact kk s (mfr.rf s _ _) ⟨hsrc.1, hdst⟩ (fun _ _ => rfl)
  | succ q ih =>
    intro k s hk h10 hsrc hdst kk
    have hgk := gl_lt hsrc.1 k
    refine wg_iload_n (d146_19 L xs) rfl ?_
    refine wg_aload_n (d146_20 L xs) rfl ?_
    refine wg_get (d146_21 L xs) (kd := 1) (cj := 9) (k0 := 10) rfl (Or.inl rfl) (by decide) rfl rfl ?_
    refine wg_top (y := (nI l.length)) h10 ?_
    refine wn_icmp_ge (d146_24 L xs) (x := k) (y := l.length) (by omega) (by omega) (t := 50) (by decide) (fun h1 => by omega) (fun h1 => ?_)
    refine wg_aload_n (d146_27 L xs) rfl ?_
    refine wg_get (d146_28 L xs) (kd := 1) (cj := 9) (k0 := 11) rfl (Or.inl rfl) (by decide) rfl rfl ?_
    refine wg_iload_n (d146_31 L xs) rfl ?_
    refine wg_aload_n (d146_32 L xs) rfl ?_
    refine wg_get (d146_33 L xs) (kd := 1) (cj := 9) (k0 := 24) rfl (Or.inl rfl) (by decide) rfl rfl ?_
    refine wg_bipush (d146_36 L xs) (x := 48) (by decide) ?_
    refine wg_iload_n (d146_38 L xs) rfl ?_
    refine wg_imul (d146_39 L xs) ?_
    refine wg_top (y := (nI (48 * f))) (pk_mul 48 f) ?_
    refine wg_iload_n (d146_40 L xs) rfl ?_
    refine wg_iadd (d146_41 L xs) ?_
    refine wg_top (y := (nI ((48 * f) + k))) (nI_add (48 * f) k) ?_
    refine wg_iald (d146_42 L xs) (n := 624) (by decide) rfl (vp_in_nI (n := (48 * f) + k) (by omega) (by omega)) ?_
    refine wg_top (y := (nI (gl l k))) (by rw [nI_nat (n := (48 * f) + k) (by omega)]; exact ((congrArg (s.2.1 154) (show (48 * f) + k = 48 * f + k by omega)).trans (hsrc.2 k (by omega)))) ?_
    refine wg_iast (d146_43 L xs) (n := 60) (by decide) rfl (vp_in_nI (n := k) (by omega) (by omega)) rfl ?_
    rw [nI_nat (n := k) (by omega)]
    refine wg_iinc (d146_44 L xs) (y := (nI (k + 1))) (ls' := [some (.ref 141), some (.int (nI f)), some (.int (nI (k + 1)))]) rfl (nI_add k 1) rfl ?_
    refine wg_goto (d146_47 L xs) (t := 19) (by decide) ?_
    refine ih (k + 1) _ (by omega) h10 (holdA_A hsrc (by decide)) (fun j hj => ?_) (fun s' m1 m2 m3 => kk s' ((mfr_A s (by decide)).trans m1) m2 (fun j hj => (m3 j hj).trans (mA_ne _ _ (Or.inr (by omega)))))
    by_cases e : j = k
    · subst e; exact (congrArg ((mg_A s 148 j (nI (gl l j))).2.1 148) (show 0 + j = j by omega)).trans (mA_at _ _ _ _)
    · exact (mA_ne _ _ (Or.inr (by omega))).trans (hdst j (by omega))
theorem md_named {l : List Nat} {f : Nat} (hf : f < 13) (hcap : l.length ≤ 48) (h23 : s.1 141 23 = nI (f + 1)) (h55 : s.2.1 155 f = nI l.length) (hnm : holdA s 154 (48 * f) l) : ca L xs (d + 1) 146 [.ref 141] s (fun r s' => r = none ∧ mfr s s' [10] [148] ∧ s'.1 141 10 = nI l.length ∧ holdA s' 148 0 l) := by
  refine wg_call (Nat.le_of_ble_eq_true rfl) ?_
  show wp L xs d 146 0 [some (.ref 141), none, none] [] s _
  refine wg_aload_n (d146_0 L xs) rfl ?_
  refine wg_get (d146_1 L xs) (kd := 1) (cj := 9) (k0 := 23) rfl (Or.inl rfl) (by decide) rfl rfl ?_
  refine wg_top (y := (nI (f + 1))) h23 ?_
  refine wg_iconst (d146_4 L xs) (x := 1) (by decide) ?_
  refine wg_isub (d146_5 L xs) ?_
  refine wg_top (y := (nI f)) (pk_sub (a := f + 1) (b := 1) (by omega)) ?_
  refine wg_istore_n (d146_6 L xs) (ls' := [some (.ref 141), some (.int (nI f)), none]) (Nat.le_of_ble_eq_true rfl) rfl ?_
  refine wg_aload_n (d146_7 L xs) rfl ?_
  refine wg_aload_n (d146_8 L xs) rfl ?_
  refine wg_get (d146_9 L xs) (kd := 1) (cj := 9) (k0 := 25) rfl (Or.inl rfl) (by decide) rfl rfl ?_
  refine wg_iload_n (d146_12 L xs) rfl ?_
  refine wg_iald (d146_13 L xs) (n := 13) (by decide) rfl (vp_in_nI (n := f) (by omega) (by omega)) ?_
  refine wg_top (y := (nI l.length)) (by rw [nI_nat (n := f) (by omega)]; exact h55) ?_
  refine wg_puti (d146_14 L xs) (cj := 9) (k0 := 10) rfl (by decide) rfl (Nat.le_of_ble_eq_true rfl) rfl rfl rfl ?_
  refine wg_iconst (d146_17 L xs) (x := 0) (by decide) ?_
  refine wg_istore_n (d146_18 L xs) (ls' := [some (.ref 141), some (.int (nI f)), some (.int 0)]) (Nat.le_of_ble_eq_true rfl) rfl ?_
  refine md_nd_l hf hcap l.length 0 _ (by omega) rfl (holdA_of hnm rfl) (fun j hj => absurd hj (by omega)) (fun s' m1 m2 m3 => ?_)
  exact wg_vret (d146_50 L xs) rfl ⟨rfl, (mfr_I s (by decide)).trans (m1.more (by decide) (by decide)), m1.2.1 10 (by decide), m2⟩
theorem md_isOf {l : List Nat} {k : Nat} {q : rowT} (h10 : s.1 141 10 = nI l.length) (hnm : holdA s 148 0 l) (hq : isRowM s k q) (hk : k < 16) (hl : l.length ≤ 60) (hnm2 : q.2.1.length ≤ 100) (hq4 : q.1 ≤ 4) : ca L xs (d + 2) 149 [.ref 141, .int (nI k)] s (fun v s' => v = some (.int (nI (bI (decide (q.1 = 1) && decide (q.2.1 = l))))) ∧ s = s') := by
  refine wg_call (Nat.le_of_ble_eq_true rfl) ?_
  show wp L xs (d + 1) 149 0 [some (.ref 141), some (.int (nI k))] [] s _
  refine wg_aload_n (d149_0 L xs) rfl ?_
  refine wg_get (d149_1 L xs) (kd := 1) (cj := 9) (k0 := 4) rfl (Or.inl rfl) (by decide) rfl rfl ?_
  refine wg_iload_n (d149_4 L xs) rfl ?_
  refine wg_iald (d149_5 L xs) (n := 16) (by decide) rfl (vp_in_nI (n := k) (by omega) (by omega)) ?_
  refine wg_top (y := (nI q.1)) (by rw [nI_nat (n := k) (by omega)]; exact hq.1) ?_
  refine wg_iconst (d149_6 L xs) (x := 1) (by decide) ?_
  refine wn_icmp_ne (d149_7 L xs) (x := q.1) (y := 1) (by omega) (by omega) (t := 22) (by decide) (fun h1 => ?_) (fun h1 => ?_)
  · refine wg_iconst (d149_22 L xs) (x := 0) (by decide) ?_
    exact wg_iret (d149_23 L xs) rfl rfl ⟨by rw [decide_eq_false (show ¬ q.1 = 1 by omega)]; rfl, rfl⟩
  · refine wg_aload_n (d149_10 L xs) rfl ?_
    refine wg_iload_n (d149_11 L xs) rfl ?_
    refine wg_invv (d149_12 L xs) (kd := 7) (mj := 122) (n := 1) rfl (Or.inl rfl) (ys := [.int (nI k)]) (r := []) rfl rfl (by decide) rfl rfl (Nat.le_of_ble_eq_true rfl) (md_bears h10 hnm hq (by omega) (by omega) (by omega)) ?_
    rintro _ _ ⟨rfl, rfl⟩
    have hbb := bI_n (b := decide (q.2.1 = l)) (P := q.2.1 = l) decide_eq_true_iff
    refine wn_if_eq (d149_15 L xs) (x := bI (decide (q.2.1 = l))) (by omega) (t := 22) (by decide) (fun h2 => ?_) (fun h2 => ?_)
    · refine wg_iconst (d149_22 L xs) (x := 0) (by decide) ?_
      exact wg_iret (d149_23 L xs) rfl rfl ⟨by rw [bI_f (b := decide (q.2.1 = l)) (by omega), Bool.and_false]; rfl, rfl⟩
    · refine wg_iconst (d149_18 L xs) (x := 1) (by decide) ?_
      refine wg_goto (d149_19 L xs) (t := 23) (by decide) ?_
      exact wg_iret (d149_23 L xs) rfl rfl ⟨by rw [decide_eq_true (show q.1 = 1 by omega), bI_t (b := decide (q.2.1 = l)) (by omega)]; rfl, rfl⟩
end KD
