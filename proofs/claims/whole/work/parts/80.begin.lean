/-! the class: an address written out, a check begun, a check -/
theorem d45_18 (L : Nat) (xs : Nat → Int32) : decode (ax_code (mgT L xs) 45) 18 = .ok (.aload_n 0, 1) := by
  show decode prog_1_method_7_code 18 = _
  decide +kernel
theorem d45_19 (L : Nat) (xs : Nat → Int32) : decode (ax_code (mgT L xs) 45) 19 = .ok (.getfield 30, 3) := by
  show decode prog_1_method_7_code 19 = _
  decide +kernel
theorem d45_22 (L : Nat) (xs : Nat → Int32) : decode (ax_code (mgT L xs) 45) 22 = .ok (.iload_n 1, 1) := by
  show decode prog_1_method_7_code 22 = _
  decide +kernel
theorem d45_23 (L : Nat) (xs : Nat → Int32) : decode (ax_code (mgT L xs) 45) 23 = .ok (.aload_n 0, 1) := by
  show decode prog_1_method_7_code 23 = _
  decide +kernel
theorem d45_24 (L : Nat) (xs : Nat → Int32) : decode (ax_code (mgT L xs) 45) 24 = .ok (.getfield 14, 3) := by
  show decode prog_1_method_7_code 24 = _
  decide +kernel
theorem d45_27 (L : Nat) (xs : Nat → Int32) : decode (ax_code (mgT L xs) 45) 27 = .ok (.invokevirtual 82, 3) := by
  show decode prog_1_method_7_code 27 = _
  decide +kernel
theorem d45_30 (L : Nat) (xs : Nat → Int32) : decode (ax_code (mgT L xs) 45) 30 = .ok (.aload_n 0, 1) := by
  show decode prog_1_method_7_code 30 = _
  decide +kernel
theorem d45_31 (L : Nat) (xs : Nat → Int32) : decode (ax_code (mgT L xs) 45) 31 = .ok (.getfield 14, 3) := by
  show decode prog_1_method_7_code 31 = _
  decide +kernel
theorem d45_34 (L : Nat) (xs : Nat → Int32) : decode (ax_code (mgT L xs) 45) 34 = .ok (.invokevirtual 55, 3) := by
  show decode prog_1_method_7_code 34 = _
  decide +kernel
theorem d45_37 (L : Nat) (xs : Nat → Int32) : decode (ax_code (mgT L xs) 45) 37 = .ok (.aload_n 0, 1) := by
  show decode prog_1_method_7_code 37 = _
  decide +kernel
theorem d45_38 (L : Nat) (xs : Nat → Int32) : decode (ax_code (mgT L xs) 45) 38 = .ok (.getfield 30, 3) := by
  show decode prog_1_method_7_code 38 = _
  decide +kernel
theorem d45_41 (L : Nat) (xs : Nat → Int32) : decode (ax_code (mgT L xs) 45) 41 = .ok (.iconst 0, 1) := by
  show decode prog_1_method_7_code 41 = _
  decide +kernel
theorem d45_42 (L : Nat) (xs : Nat → Int32) : decode (ax_code (mgT L xs) 45) 42 = .ok (.invokevirtual 85, 3) := by
  show decode prog_1_method_7_code 42 = _
  decide +kernel
theorem d45_45 (L : Nat) (xs : Nat → Int32) : decode (ax_code (mgT L xs) 45) 45 = .ok (.istore_n 2, 1) := by
  show decode prog_1_method_7_code 45 = _
  decide +kernel
theorem d45_46 (L : Nat) (xs : Nat → Int32) : decode (ax_code (mgT L xs) 45) 46 = .ok (.aload_n 0, 1) := by
  show decode prog_1_method_7_code 46 = _
  decide +kernel
theorem d45_47 (L : Nat) (xs : Nat → Int32) : decode (ax_code (mgT L xs) 45) 47 = .ok (.getfield 30, 3) := by
  show decode prog_1_method_7_code 47 = _
  decide +kernel
theorem d45_50 (L : Nat) (xs : Nat → Int32) : decode (ax_code (mgT L xs) 45) 50 = .ok (.iload_n 2, 1) := by
  show decode prog_1_method_7_code 50 = _
  decide +kernel
theorem d45_51 (L : Nat) (xs : Nat → Int32) : decode (ax_code (mgT L xs) 45) 51 = .ok (.invokevirtual 89, 3) := by
  show decode prog_1_method_7_code 51 = _
  decide +kernel
theorem d45_54 (L : Nat) (xs : Nat → Int32) : decode (ax_code (mgT L xs) 45) 54 = .ok (.iload_n 2, 1) := by
  show decode prog_1_method_7_code 54 = _
  decide +kernel
theorem d45_55 (L : Nat) (xs : Nat → Int32) : decode (ax_code (mgT L xs) 45) 55 = .ok (.ireturn, 1) := by
  show decode prog_1_method_7_code 55 = _
  decide +kernel
theorem d47_0 (L : Nat) (xs : Nat → Int32) : decode (ax_code (mgT L xs) 47) 0 = .ok (.aload_n 0, 1) := by
  show decode prog_2_method_9_code 0 = _
  decide +kernel
theorem d47_1 (L : Nat) (xs : Nat → Int32) : decode (ax_code (mgT L xs) 47) 1 = .ok (.iload_n 1, 1) := by
  show decode prog_2_method_9_code 1 = _
  decide +kernel
theorem d47_2 (L : Nat) (xs : Nat → Int32) : decode (ax_code (mgT L xs) 47) 2 = .ok (.putfield 53, 3) := by
  show decode prog_2_method_9_code 2 = _
  decide +kernel
theorem d47_5 (L : Nat) (xs : Nat → Int32) : decode (ax_code (mgT L xs) 47) 5 = .ok (.aload_n 0, 1) := by
  show decode prog_2_method_9_code 5 = _
  decide +kernel
theorem d47_6 (L : Nat) (xs : Nat → Int32) : decode (ax_code (mgT L xs) 47) 6 = .ok (.getfield 26, 3) := by
  show decode prog_2_method_9_code 6 = _
  decide +kernel
theorem d47_9 (L : Nat) (xs : Nat → Int32) : decode (ax_code (mgT L xs) 47) 9 = .ok (.invokevirtual 56, 3) := by
  show decode prog_2_method_9_code 9 = _
  decide +kernel
theorem d47_12 (L : Nat) (xs : Nat → Int32) : decode (ax_code (mgT L xs) 47) 12 = .ok (.bipush 24, 2) := by
  show decode prog_2_method_9_code 12 = _
  decide +kernel
theorem d47_14 (L : Nat) (xs : Nat → Int32) : decode (ax_code (mgT L xs) 47) 14 = .ok (.istore_n 3, 1) := by
  show decode prog_2_method_9_code 14 = _
  decide +kernel
theorem d47_15 (L : Nat) (xs : Nat → Int32) : decode (ax_code (mgT L xs) 47) 15 = .ok (.iload_n 3, 1) := by
  show decode prog_2_method_9_code 15 = _
  decide +kernel
theorem d47_16 (L : Nat) (xs : Nat → Int32) : decode (ax_code (mgT L xs) 47) 16 = .ok (.ifCond .lt 36, 3) := by
  show decode prog_2_method_9_code 16 = _
  decide +kernel
theorem d47_19 (L : Nat) (xs : Nat → Int32) : decode (ax_code (mgT L xs) 47) 19 = .ok (.aload_n 0, 1) := by
  show decode prog_2_method_9_code 19 = _
  decide +kernel
theorem d47_20 (L : Nat) (xs : Nat → Int32) : decode (ax_code (mgT L xs) 47) 20 = .ok (.getfield 26, 3) := by
  show decode prog_2_method_9_code 20 = _
  decide +kernel
theorem d47_23 (L : Nat) (xs : Nat → Int32) : decode (ax_code (mgT L xs) 47) 23 = .ok (.iload_n 1, 1) := by
  show decode prog_2_method_9_code 23 = _
  decide +kernel
theorem d47_24 (L : Nat) (xs : Nat → Int32) : decode (ax_code (mgT L xs) 47) 24 = .ok (.iload_n 3, 1) := by
  show decode prog_2_method_9_code 24 = _
  decide +kernel
theorem d47_25 (L : Nat) (xs : Nat → Int32) : decode (ax_code (mgT L xs) 47) 25 = .ok (.iushr, 1) := by
  show decode prog_2_method_9_code 25 = _
  decide +kernel
theorem d47_26 (L : Nat) (xs : Nat → Int32) : decode (ax_code (mgT L xs) 47) 26 = .ok (.sipush 255, 3) := by
  show decode prog_2_method_9_code 26 = _
  decide +kernel
theorem d47_29 (L : Nat) (xs : Nat → Int32) : decode (ax_code (mgT L xs) 47) 29 = .ok (.iand, 1) := by
  show decode prog_2_method_9_code 29 = _
  decide +kernel
theorem d47_30 (L : Nat) (xs : Nat → Int32) : decode (ax_code (mgT L xs) 47) 30 = .ok (.invokevirtual 59, 3) := by
  show decode prog_2_method_9_code 30 = _
  decide +kernel
theorem d47_33 (L : Nat) (xs : Nat → Int32) : decode (ax_code (mgT L xs) 47) 33 = .ok (.iload_n 3, 1) := by
  show decode prog_2_method_9_code 33 = _
  decide +kernel
theorem d47_34 (L : Nat) (xs : Nat → Int32) : decode (ax_code (mgT L xs) 47) 34 = .ok (.ifCond .le 12, 3) := by
  show decode prog_2_method_9_code 34 = _
  decide +kernel
theorem d47_37 (L : Nat) (xs : Nat → Int32) : decode (ax_code (mgT L xs) 47) 37 = .ok (.aload_n 0, 1) := by
  show decode prog_2_method_9_code 37 = _
  decide +kernel
theorem d47_38 (L : Nat) (xs : Nat → Int32) : decode (ax_code (mgT L xs) 47) 38 = .ok (.getfield 26, 3) := by
  show decode prog_2_method_9_code 38 = _
  decide +kernel
theorem d47_41 (L : Nat) (xs : Nat → Int32) : decode (ax_code (mgT L xs) 47) 41 = .ok (.bipush 46, 2) := by
  show decode prog_2_method_9_code 41 = _
  decide +kernel
theorem d47_43 (L : Nat) (xs : Nat → Int32) : decode (ax_code (mgT L xs) 47) 43 = .ok (.invokevirtual 62, 3) := by
  show decode prog_2_method_9_code 43 = _
  decide +kernel
theorem d47_46 (L : Nat) (xs : Nat → Int32) : decode (ax_code (mgT L xs) 47) 46 = .ok (.iinc 3 (-8), 3) := by
  show decode prog_2_method_9_code 46 = _
  decide +kernel
theorem d47_49 (L : Nat) (xs : Nat → Int32) : decode (ax_code (mgT L xs) 47) 49 = .ok (.goto (-34), 3) := by
  show decode prog_2_method_9_code 49 = _
  decide +kernel
theorem d47_52 (L : Nat) (xs : Nat → Int32) : decode (ax_code (mgT L xs) 47) 52 = .ok (.aload_n 0, 1) := by
  show decode prog_2_method_9_code 52 = _
  decide +kernel
theorem d47_53 (L : Nat) (xs : Nat → Int32) : decode (ax_code (mgT L xs) 47) 53 = .ok (.invokevirtual 66, 3) := by
  show decode prog_2_method_9_code 53 = _
  decide +kernel
theorem d47_56 (L : Nat) (xs : Nat → Int32) : decode (ax_code (mgT L xs) 47) 56 = .ok (.invokevirtual 56, 3) := by
  show decode prog_2_method_9_code 56 = _
  decide +kernel
theorem d47_59 (L : Nat) (xs : Nat → Int32) : decode (ax_code (mgT L xs) 47) 59 = .ok (.aload_n 0, 1) := by
  show decode prog_2_method_9_code 59 = _
  decide +kernel
theorem d47_60 (L : Nat) (xs : Nat → Int32) : decode (ax_code (mgT L xs) 47) 60 = .ok (.invokevirtual 66, 3) := by
  show decode prog_2_method_9_code 60 = _
  decide +kernel
theorem d47_63 (L : Nat) (xs : Nat → Int32) : decode (ax_code (mgT L xs) 47) 63 = .ok (.aload_n 2, 1) := by
  show decode prog_2_method_9_code 63 = _
  decide +kernel
theorem d47_64 (L : Nat) (xs : Nat → Int32) : decode (ax_code (mgT L xs) 47) 64 = .ok (.iconst 0, 1) := by
  show decode prog_2_method_9_code 64 = _
  decide +kernel
theorem d47_65 (L : Nat) (xs : Nat → Int32) : decode (ax_code (mgT L xs) 47) 65 = .ok (.aload_n 2, 1) := by
  show decode prog_2_method_9_code 65 = _
  decide +kernel
theorem d47_66 (L : Nat) (xs : Nat → Int32) : decode (ax_code (mgT L xs) 47) 66 = .ok (.invokevirtual 70, 3) := by
  show decode prog_2_method_9_code 66 = _
  decide +kernel
theorem d47_69 (L : Nat) (xs : Nat → Int32) : decode (ax_code (mgT L xs) 47) 69 = .ok (.invokevirtual 74, 3) := by
  show decode prog_2_method_9_code 69 = _
  decide +kernel
theorem d47_72 (L : Nat) (xs : Nat → Int32) : decode (ax_code (mgT L xs) 47) 72 = .ok (.aload_n 0, 1) := by
  show decode prog_2_method_9_code 72 = _
  decide +kernel
theorem d47_73 (L : Nat) (xs : Nat → Int32) : decode (ax_code (mgT L xs) 47) 73 = .ok (.getfield 33, 3) := by
  show decode prog_2_method_9_code 73 = _
  decide +kernel
theorem d47_76 (L : Nat) (xs : Nat → Int32) : decode (ax_code (mgT L xs) 47) 76 = .ok (.invokevirtual 78, 3) := by
  show decode prog_2_method_9_code 76 = _
  decide +kernel
theorem d47_79 (L : Nat) (xs : Nat → Int32) : decode (ax_code (mgT L xs) 47) 79 = .ok (.aload_n 0, 1) := by
  show decode prog_2_method_9_code 79 = _
  decide +kernel
theorem d47_80 (L : Nat) (xs : Nat → Int32) : decode (ax_code (mgT L xs) 47) 80 = .ok (.iconst 0, 1) := by
  show decode prog_2_method_9_code 80 = _
  decide +kernel
theorem d47_81 (L : Nat) (xs : Nat → Int32) : decode (ax_code (mgT L xs) 47) 81 = .ok (.putfield 38, 3) := by
  show decode prog_2_method_9_code 81 = _
  decide +kernel
theorem d47_84 (L : Nat) (xs : Nat → Int32) : decode (ax_code (mgT L xs) 47) 84 = .ok (.aload_n 0, 1) := by
  show decode prog_2_method_9_code 84 = _
  decide +kernel
theorem d47_85 (L : Nat) (xs : Nat → Int32) : decode (ax_code (mgT L xs) 47) 85 = .ok (.iconst 0, 1) := by
  show decode prog_2_method_9_code 85 = _
  decide +kernel
theorem d47_86 (L : Nat) (xs : Nat → Int32) : decode (ax_code (mgT L xs) 47) 86 = .ok (.putfield 41, 3) := by
  show decode prog_2_method_9_code 86 = _
  decide +kernel
theorem d47_89 (L : Nat) (xs : Nat → Int32) : decode (ax_code (mgT L xs) 47) 89 = .ok (.aload_n 0, 1) := by
  show decode prog_2_method_9_code 89 = _
  decide +kernel
theorem d47_90 (L : Nat) (xs : Nat → Int32) : decode (ax_code (mgT L xs) 47) 90 = .ok (.iconst (-1), 1) := by
  show decode prog_2_method_9_code 90 = _
  decide +kernel
theorem d47_91 (L : Nat) (xs : Nat → Int32) : decode (ax_code (mgT L xs) 47) 91 = .ok (.putfield 44, 3) := by
  show decode prog_2_method_9_code 91 = _
  decide +kernel
theorem d47_94 (L : Nat) (xs : Nat → Int32) : decode (ax_code (mgT L xs) 47) 94 = .ok (.aload_n 0, 1) := by
  show decode prog_2_method_9_code 94 = _
  decide +kernel
theorem d47_95 (L : Nat) (xs : Nat → Int32) : decode (ax_code (mgT L xs) 47) 95 = .ok (.iconst 0, 1) := by
  show decode prog_2_method_9_code 95 = _
  decide +kernel
theorem d47_96 (L : Nat) (xs : Nat → Int32) : decode (ax_code (mgT L xs) 47) 96 = .ok (.putfield 47, 3) := by
  show decode prog_2_method_9_code 96 = _
  decide +kernel
theorem d47_99 (L : Nat) (xs : Nat → Int32) : decode (ax_code (mgT L xs) 47) 99 = .ok (.return_, 1) := by
  show decode prog_2_method_9_code 99 = _
  decide +kernel
theorem d48_0 (L : Nat) (xs : Nat → Int32) : decode (ax_code (mgT L xs) 48) 0 = .ok (.iload_n 1, 1) := by
  show decode prog_9_method_8_code 0 = _
  decide +kernel
theorem d48_1 (L : Nat) (xs : Nat → Int32) : decode (ax_code (mgT L xs) 48) 1 = .ok (.bipush 100, 2) := by
  show decode prog_9_method_8_code 1 = _
  decide +kernel
theorem d48_3 (L : Nat) (xs : Nat → Int32) : decode (ax_code (mgT L xs) 48) 3 = .ok (.if_icmp .lt 15, 3) := by
  show decode prog_9_method_8_code 3 = _
  decide +kernel
theorem d48_6 (L : Nat) (xs : Nat → Int32) : decode (ax_code (mgT L xs) 48) 6 = .ok (.aload_n 0, 1) := by
  show decode prog_9_method_8_code 6 = _
  decide +kernel
theorem d48_7 (L : Nat) (xs : Nat → Int32) : decode (ax_code (mgT L xs) 48) 7 = .ok (.bipush 48, 2) := by
  show decode prog_9_method_8_code 7 = _
  decide +kernel
theorem d48_9 (L : Nat) (xs : Nat → Int32) : decode (ax_code (mgT L xs) 48) 9 = .ok (.iload_n 1, 1) := by
  show decode prog_9_method_8_code 9 = _
  decide +kernel
theorem d48_10 (L : Nat) (xs : Nat → Int32) : decode (ax_code (mgT L xs) 48) 10 = .ok (.bipush 100, 2) := by
  show decode prog_9_method_8_code 10 = _
  decide +kernel
theorem d48_12 (L : Nat) (xs : Nat → Int32) : decode (ax_code (mgT L xs) 48) 12 = .ok (.idiv, 1) := by
  show decode prog_9_method_8_code 12 = _
  decide +kernel
theorem d48_13 (L : Nat) (xs : Nat → Int32) : decode (ax_code (mgT L xs) 48) 13 = .ok (.iadd, 1) := by
  show decode prog_9_method_8_code 13 = _
  decide +kernel
theorem d48_14 (L : Nat) (xs : Nat → Int32) : decode (ax_code (mgT L xs) 48) 14 = .ok (.i2c, 1) := by
  show decode prog_9_method_8_code 14 = _
  decide +kernel
theorem d48_15 (L : Nat) (xs : Nat → Int32) : decode (ax_code (mgT L xs) 48) 15 = .ok (.invokevirtual 29, 3) := by
  show decode prog_9_method_8_code 15 = _
  decide +kernel
theorem d48_18 (L : Nat) (xs : Nat → Int32) : decode (ax_code (mgT L xs) 48) 18 = .ok (.iload_n 1, 1) := by
  show decode prog_9_method_8_code 18 = _
  decide +kernel
theorem d48_19 (L : Nat) (xs : Nat → Int32) : decode (ax_code (mgT L xs) 48) 19 = .ok (.bipush 10, 2) := by
  show decode prog_9_method_8_code 19 = _
  decide +kernel
theorem d48_21 (L : Nat) (xs : Nat → Int32) : decode (ax_code (mgT L xs) 48) 21 = .ok (.if_icmp .lt 18, 3) := by
  show decode prog_9_method_8_code 21 = _
  decide +kernel
theorem d48_24 (L : Nat) (xs : Nat → Int32) : decode (ax_code (mgT L xs) 48) 24 = .ok (.aload_n 0, 1) := by
  show decode prog_9_method_8_code 24 = _
  decide +kernel
theorem d48_25 (L : Nat) (xs : Nat → Int32) : decode (ax_code (mgT L xs) 48) 25 = .ok (.bipush 48, 2) := by
  show decode prog_9_method_8_code 25 = _
  decide +kernel
theorem d48_27 (L : Nat) (xs : Nat → Int32) : decode (ax_code (mgT L xs) 48) 27 = .ok (.iload_n 1, 1) := by
  show decode prog_9_method_8_code 27 = _
  decide +kernel
theorem d48_28 (L : Nat) (xs : Nat → Int32) : decode (ax_code (mgT L xs) 48) 28 = .ok (.bipush 10, 2) := by
  show decode prog_9_method_8_code 28 = _
  decide +kernel
theorem d48_30 (L : Nat) (xs : Nat → Int32) : decode (ax_code (mgT L xs) 48) 30 = .ok (.idiv, 1) := by
  show decode prog_9_method_8_code 30 = _
  decide +kernel
theorem d48_31 (L : Nat) (xs : Nat → Int32) : decode (ax_code (mgT L xs) 48) 31 = .ok (.bipush 10, 2) := by
  show decode prog_9_method_8_code 31 = _
  decide +kernel
theorem d48_33 (L : Nat) (xs : Nat → Int32) : decode (ax_code (mgT L xs) 48) 33 = .ok (.irem, 1) := by
  show decode prog_9_method_8_code 33 = _
  decide +kernel
theorem d48_34 (L : Nat) (xs : Nat → Int32) : decode (ax_code (mgT L xs) 48) 34 = .ok (.iadd, 1) := by
  show decode prog_9_method_8_code 34 = _
  decide +kernel
theorem d48_35 (L : Nat) (xs : Nat → Int32) : decode (ax_code (mgT L xs) 48) 35 = .ok (.i2c, 1) := by
  show decode prog_9_method_8_code 35 = _
  decide +kernel
theorem d48_36 (L : Nat) (xs : Nat → Int32) : decode (ax_code (mgT L xs) 48) 36 = .ok (.invokevirtual 29, 3) := by
  show decode prog_9_method_8_code 36 = _
  decide +kernel
theorem d48_39 (L : Nat) (xs : Nat → Int32) : decode (ax_code (mgT L xs) 48) 39 = .ok (.aload_n 0, 1) := by
  show decode prog_9_method_8_code 39 = _
  decide +kernel
theorem d48_40 (L : Nat) (xs : Nat → Int32) : decode (ax_code (mgT L xs) 48) 40 = .ok (.bipush 48, 2) := by
  show decode prog_9_method_8_code 40 = _
  decide +kernel
theorem d48_42 (L : Nat) (xs : Nat → Int32) : decode (ax_code (mgT L xs) 48) 42 = .ok (.iload_n 1, 1) := by
  show decode prog_9_method_8_code 42 = _
  decide +kernel
theorem d48_43 (L : Nat) (xs : Nat → Int32) : decode (ax_code (mgT L xs) 48) 43 = .ok (.bipush 10, 2) := by
  show decode prog_9_method_8_code 43 = _
  decide +kernel
theorem d48_45 (L : Nat) (xs : Nat → Int32) : decode (ax_code (mgT L xs) 48) 45 = .ok (.irem, 1) := by
  show decode prog_9_method_8_code 45 = _
  decide +kernel
theorem d48_46 (L : Nat) (xs : Nat → Int32) : decode (ax_code (mgT L xs) 48) 46 = .ok (.iadd, 1) := by
  show decode prog_9_method_8_code 46 = _
  decide +kernel
theorem d48_47 (L : Nat) (xs : Nat → Int32) : decode (ax_code (mgT L xs) 48) 47 = .ok (.i2c, 1) := by
  show decode prog_9_method_8_code 47 = _
  decide +kernel
theorem d48_48 (L : Nat) (xs : Nat → Int32) : decode (ax_code (mgT L xs) 48) 48 = .ok (.invokevirtual 29, 3) := by
  show decode prog_9_method_8_code 48 = _
  decide +kernel
theorem d48_51 (L : Nat) (xs : Nat → Int32) : decode (ax_code (mgT L xs) 48) 51 = .ok (.return_, 1) := by
  show decode prog_9_method_8_code 51 = _
  decide +kernel
def oct (x : Int32) (k : Nat) : Nat := ((x >>> (nI (8 * k) &&& 31)) &&& 255).toNatClampNeg
theorem oct_lt (x : Int32) (k : Nat) : oct x k < 256 ∧ (x >>> (nI (8 * k) &&& 31)) &&& 255 = nI (oct x k) := by
  obtain ⟨j, hj, e⟩ := pk_andE (x >>> (nI (8 * k) &&& 31)) (m := 255) 8 (by decide)
  have e2 : (x >>> (nI (8 * k) &&& 31)) &&& 255 = nI j := e
  unfold oct
  rw [e2, nI_nat (by omega)]
  exact ⟨by omega, rfl⟩
theorem oc_bv (b : BitVec 32) (n : Nat) (hn : n ≤ 24) : (b >>> n) &&& 255#32 = (b.sshiftRight n) &&& 255#32 := by
  apply BitVec.eq_of_getLsbD_eq
  intro j hj
  rw [BitVec.getLsbD_and, BitVec.getLsbD_and, BitVec.getLsbD_ushiftRight, BitVec.getLsbD_sshiftRight]
  by_cases h8 : j < 8
  · rw [if_pos (show n + j < 32 by omega), show decide (32 ≤ j) = false from decide_eq_false (by omega)]
    simp
  · have h255 : (255#32).getLsbD j = false := by
      have : ∀ j, j < 32 → ¬ j < 8 → (255#32).getLsbD j = false := by decide
      exact this j hj h8
    rw [h255, Bool.and_false, Bool.and_false]
theorem oc_e1 (p : Int32) (u : UInt32) (n : Nat) (hn : (u.toBitVec % 32#32).toNat = n) : ((p.toUInt32 >>> u).toInt32 &&& 255).toBitVec = (p.toBitVec >>> n) &&& 255#32 := by
  subst hn
  rfl
theorem oc_e2 (p u : Int32) (n : Nat) (hn : (u.toBitVec.smod 32#32).toNat = n) : ((p >>> u) &&& 255).toBitVec = (p.toBitVec.sshiftRight n) &&& 255#32 := by
  subst hn
  rfl
theorem oct_c (x : Int32) {k : Nat} (hk : k < 4) : (x.toUInt32 >>> ((nI (8 * k)).toUInt32 &&& Int32.toUInt32 31)).toInt32 &&& 255 = nI (oct x k) := by
  rw [← (oct_lt x k).2]
  apply Int32.toBitVec_inj.mp
  refine (oc_e1 x _ (8 * k) ?_).trans ((oc_bv x.toBitVec (8 * k) (by omega)).trans (oc_e2 x _ (8 * k) ?_).symm)
  · have : ∀ i, i < 4 → (((nI (8 * i)).toUInt32 &&& Int32.toUInt32 31).toBitVec % 32#32).toNat = 8 * i := by decide
    exact this k hk
  · have : ∀ i, i < 4 → ((nI (8 * i) &&& 31).toBitVec.smod 32#32).toNat = 8 * i := by decide
    exact this k hk
theorem dv_100 : ∀ x, x < 256 → nI x / 100 = nI (x / 100) := by decide +kernel
theorem dv_10 : ∀ x, x < 256 → nI x / 10 = nI (x / 10) := by decide +kernel
theorem rm_10 : ∀ x, x < 256 → nI x - nI x / 10 * 10 = nI (x % 10) := by decide +kernel
def f_byte (n : Nat) : List Nat := if 100 ≤ n then [48 + n / 100, 48 + n / 10 % 10, 48 + n % 10] else if 10 ≤ n then [48 + n / 10 % 10, 48 + n % 10] else [48 + n % 10]
theorem f_byte_len (n : Nat) : (f_byte n).length ≤ 3 ∧ 1 ≤ (f_byte n).length := by
  unfold f_byte
  split
  · exact ⟨Nat.le_refl _, show 1 ≤ 3 by decide⟩
  · split
    · exact ⟨show 2 ≤ 3 by decide, show 1 ≤ 2 by decide⟩
    · exact ⟨show 1 ≤ 3 by decide, Nat.le_refl _⟩
def f_adr (x : Int32) : List Nat := (((((([] ++ f_byte (oct x 3)) ++ [46]) ++ f_byte (oct x 2)) ++ [46]) ++ f_byte (oct x 1)) ++ [46]) ++ f_byte (oct x 0)
section BG
variable {L : Nat} {xs : Nat → Int32} {d a b : Nat} {p : Nat → Nat} {R : List rowT} {l : List Nat}
theorem ts_addL {s : mg_s} {c : Nat} (H : isT a) (hn : hold s a l) (hc : c < 128) (hlt : l.length < tlim a) : ca L xs (d + 1) 16 [.ref a, .int (nI c)] s (fun v s' => v = none ∧ tset s a (l ++ [c]) s') := by
  have h := ts_add (L := L) (xs := xs) (d := d) H hn hc
  rw [if_pos hlt] at h
  exact h
theorem ts_byte {s : mg_s} {n : Nat} (H : isT a) (hl : hold s a l) (hn : n < 256) (h3 : l.length + 3 ≤ tlim a) : ca L xs (d + 2) 48 [.ref a, .int (nI n)] s (fun v s' => v = none ∧ tset s a (l ++ f_byte n) s') := by
  refine wg_call (Nat.le_of_ble_eq_true rfl) ?_
  show wp L xs (d + 1) 48 0 [some (.ref a), some (.int (nI n))] [] s _
  refine wg_iload_n (d48_0 L xs) rfl ?_
  refine wg_bipush (d48_1 L xs) (x := 100) (by decide) ?_
  refine wn_icmp_lt (d48_3 L xs) (x := n) (y := 100) (by omega) (by omega) (t := 18) (by decide) (fun h1 => ?_) (fun h1 => ?_)
  · refine wg_iload_n (d48_18 L xs) rfl ?_
    refine wg_bipush (d48_19 L xs) (x := 10) (by decide) ?_
    refine wn_icmp_lt (d48_21 L xs) (x := n) (y := 10) (by omega) (by omega) (t := 39) (by decide) (fun h2 => ?_) (fun h2 => ?_)
    · refine wg_aload_n (d48_39 L xs) rfl ?_
      refine wg_bipush (d48_40 L xs) (x := 48) (by decide) ?_
      refine wg_iload_n (d48_42 L xs) rfl ?_
      refine wg_bipush (d48_43 L xs) (x := 10) (by decide) ?_
      refine wg_irem (d48_45 L xs) (by decide) ?_
      refine wg_top (y := (nI (n % 10))) (rm_10 _ (by omega)) ?_
      refine wg_iadd (d48_46 L xs) ?_
      refine wg_top (y := (nI (48 + (n % 10)))) (nI_add 48 (n % 10)) ?_
      refine wg_i2c (d48_47 L xs) ?_
      refine wg_top (y := (nI (48 + (n % 10)))) (i2c_nI (by omega)) ?_
      refine wg_invv (d48_48 L xs) (kd := 7) (mj := 16) (n := 1) rfl (Or.inl rfl) (ys := [.int (nI (48 + (n % 10)))]) (r := []) rfl rfl H.1 (tx_c H) rfl (Nat.le_of_ble_eq_true rfl) (ts_addL (c := 48 + (n % 10)) H hl (by omega) (by omega)) ?_
      rintro _ s1 ⟨rfl, e1⟩
      exact wg_vret (d48_51 L xs) rfl (by refine ⟨rfl, ?_⟩; rw [f_byte, if_neg (by omega), if_neg (by omega)]; exact e1)
    · refine wg_aload_n (d48_24 L xs) rfl ?_
      refine wg_bipush (d48_25 L xs) (x := 48) (by decide) ?_
      refine wg_iload_n (d48_27 L xs) rfl ?_
      refine wg_bipush (d48_28 L xs) (x := 10) (by decide) ?_
      refine wg_idiv (d48_30 L xs) (by decide) ?_
      refine wg_top (y := (nI (n / 10))) (dv_10 _ (by omega)) ?_
      refine wg_bipush (d48_31 L xs) (x := 10) (by decide) ?_
      refine wg_irem (d48_33 L xs) (by decide) ?_
      refine wg_top (y := (nI (n / 10 % 10))) (rm_10 _ (by omega)) ?_
      refine wg_iadd (d48_34 L xs) ?_
      refine wg_top (y := (nI (48 + (n / 10 % 10)))) (nI_add 48 (n / 10 % 10)) ?_
      refine wg_i2c (d48_35 L xs) ?_
      refine wg_top (y := (nI (48 + (n / 10 % 10)))) (i2c_nI (by omega)) ?_
      refine wg_invv (d48_36 L xs) (kd := 7) (mj := 16) (n := 1) rfl (Or.inl rfl) (ys := [.int (nI (48 + (n / 10 % 10)))]) (r := []) rfl rfl H.1 (tx_c H) rfl (Nat.le_of_ble_eq_true rfl) (ts_addL (c := 48 + (n / 10 % 10)) H hl (by omega) (by omega)) ?_
      rintro _ s1 ⟨rfl, e1⟩
      refine wg_aload_n (d48_39 L xs) rfl ?_
      refine wg_bipush (d48_40 L xs) (x := 48) (by decide) ?_
      refine wg_iload_n (d48_42 L xs) rfl ?_
      refine wg_bipush (d48_43 L xs) (x := 10) (by decide) ?_
      refine wg_irem (d48_45 L xs) (by decide) ?_
      refine wg_top (y := (nI (n % 10))) (rm_10 _ (by omega)) ?_
      refine wg_iadd (d48_46 L xs) ?_
      refine wg_top (y := (nI (48 + (n % 10)))) (nI_add 48 (n % 10)) ?_
      refine wg_i2c (d48_47 L xs) ?_
      refine wg_top (y := (nI (48 + (n % 10)))) (i2c_nI (by omega)) ?_
      refine wg_invv (d48_48 L xs) (kd := 7) (mj := 16) (n := 1) rfl (Or.inl rfl) (ys := [.int (nI (48 + (n % 10)))]) (r := []) rfl rfl H.1 (tx_c H) rfl (Nat.le_of_ble_eq_true rfl) (ts_addL (c := 48 + (n % 10)) H e1.has (by omega) (by simp only [List.length_append, List.length_singleton]; omega)) ?_
      rintro _ s2 ⟨rfl, e2⟩
      exact wg_vret (d48_51 L xs) rfl (by first | (exfalso; omega) | (refine ⟨rfl, ?_⟩; rw [f_byte, if_neg (by omega), if_pos (by omega)]; have h9 := e1.trans e2; simp only [List.append_assoc] at h9; exact h9))
  · refine wg_aload_n (d48_6 L xs) rfl ?_
    refine wg_bipush (d48_7 L xs) (x := 48) (by decide) ?_
    refine wg_iload_n (d48_9 L xs) rfl ?_
    refine wg_bipush (d48_10 L xs) (x := 100) (by decide) ?_
    refine wg_idiv (d48_12 L xs) (by decide) ?_
    refine wg_top (y := (nI (n / 100))) (dv_100 _ (by omega)) ?_
    refine wg_iadd (d48_13 L xs) ?_
    refine wg_top (y := (nI (48 + (n / 100)))) (nI_add 48 (n / 100)) ?_
    refine wg_i2c (d48_14 L xs) ?_
    refine wg_top (y := (nI (48 + (n / 100)))) (i2c_nI (by omega)) ?_
    refine wg_invv (d48_15 L xs) (kd := 7) (mj := 16) (n := 1) rfl (Or.inl rfl) (ys := [.int (nI (48 + (n / 100)))]) (r := []) rfl rfl H.1 (tx_c H) rfl (Nat.le_of_ble_eq_true rfl) (ts_addL (c := 48 + (n / 100)) H hl (by omega) (by omega)) ?_
    rintro _ s1 ⟨rfl, e1⟩
    refine wg_iload_n (d48_18 L xs) rfl ?_
    refine wg_bipush (d48_19 L xs) (x := 10) (by decide) ?_
    refine wn_icmp_lt (d48_21 L xs) (x := n) (y := 10) (by omega) (by omega) (t := 39) (by decide) (fun h3 => ?_) (fun h3 => ?_)
    · refine wg_aload_n (d48_39 L xs) rfl ?_
      refine wg_bipush (d48_40 L xs) (x := 48) (by decide) ?_
      refine wg_iload_n (d48_42 L xs) rfl ?_
      refine wg_bipush (d48_43 L xs) (x := 10) (by decide) ?_
      refine wg_irem (d48_45 L xs) (by decide) ?_
      refine wg_top (y := (nI (n % 10))) (rm_10 _ (by omega)) ?_
      refine wg_iadd (d48_46 L xs) ?_
      refine wg_top (y := (nI (48 + (n % 10)))) (nI_add 48 (n % 10)) ?_
      refine wg_i2c (d48_47 L xs) ?_
      refine wg_top (y := (nI (48 + (n % 10)))) (i2c_nI (by omega)) ?_
      refine wg_invv (d48_48 L xs) (kd := 7) (mj := 16) (n := 1) rfl (Or.inl rfl) (ys := [.int (nI (48 + (n % 10)))]) (r := []) rfl rfl H.1 (tx_c H) rfl (Nat.le_of_ble_eq_true rfl) (ts_addL (c := 48 + (n % 10)) H e1.has (by omega) (by simp only [List.length_append, List.length_singleton]; omega)) ?_
      rintro _ s2 ⟨rfl, e2⟩
      exact wg_vret (d48_51 L xs) rfl (by first | (exfalso; omega) | (refine ⟨rfl, ?_⟩; rw [f_byte, if_neg (by omega), if_pos (by omega)]; have h9 := e1.trans e2; simp only [List.append_assoc] at h9; exact h9))
    · refine wg_aload_n (d48_24 L xs) rfl ?_
      refine wg_bipush (d48_25 L xs) (x := 48) (by decide) ?_
      refine wg_iload_n (d48_27 L xs) rfl ?_
      refine wg_bipush (d48_28 L xs) (x := 10) (by decide) ?_
      refine wg_idiv (d48_30 L xs) (by decide) ?_
      refine wg_top (y := (nI (n / 10))) (dv_10 _ (by omega)) ?_
      refine wg_bipush (d48_31 L xs) (x := 10) (by decide) ?_
      refine wg_irem (d48_33 L xs) (by decide) ?_
      refine wg_top (y := (nI (n / 10 % 10))) (rm_10 _ (by omega)) ?_
      refine wg_iadd (d48_34 L xs) ?_
      refine wg_top (y := (nI (48 + (n / 10 % 10)))) (nI_add 48 (n / 10 % 10)) ?_
      refine wg_i2c (d48_35 L xs) ?_
      refine wg_top (y := (nI (48 + (n / 10 % 10)))) (i2c_nI (by omega)) ?_
      refine wg_invv (d48_36 L xs) (kd := 7) (mj := 16) (n := 1) rfl (Or.inl rfl) (ys := [.int (nI (48 + (n / 10 % 10)))]) (r := []) rfl rfl H.1 (tx_c H) rfl (Nat.le_of_ble_eq_true rfl) (ts_addL (c := 48 + (n / 10 % 10)) H e1.has (by omega) (by simp only [List.length_append, List.length_singleton]; omega)) ?_
      rintro _ s2 ⟨rfl, e2⟩
      refine wg_aload_n (d48_39 L xs) rfl ?_
      refine wg_bipush (d48_40 L xs) (x := 48) (by decide) ?_
      refine wg_iload_n (d48_42 L xs) rfl ?_
      refine wg_bipush (d48_43 L xs) (x := 10) (by decide) ?_
      refine wg_irem (d48_45 L xs) (by decide) ?_
      refine wg_top (y := (nI (n % 10))) (rm_10 _ (by omega)) ?_
      refine wg_iadd (d48_46 L xs) ?_
      refine wg_top (y := (nI (48 + (n % 10)))) (nI_add 48 (n % 10)) ?_
      refine wg_i2c (d48_47 L xs) ?_
      refine wg_top (y := (nI (48 + (n % 10)))) (i2c_nI (by omega)) ?_
      refine wg_invv (d48_48 L xs) (kd := 7) (mj := 16) (n := 1) rfl (Or.inl rfl) (ys := [.int (nI (48 + (n % 10)))]) (r := []) rfl rfl H.1 (tx_c H) rfl (Nat.le_of_ble_eq_true rfl) (ts_addL (c := 48 + (n % 10)) H e2.has (by omega) (by simp only [List.length_append, List.length_singleton]; omega)) ?_
      rintro _ s3 ⟨rfl, e3⟩
      exact wg_vret (d48_51 L xs) rfl (by refine ⟨rfl, ?_⟩; rw [f_byte, if_pos (by omega)]; have h9 := (e1.trans e2).trans e3; simp only [List.append_assoc] at h9; exact h9)
theorem ck_begin {s : mg_s} {adr : Int32} (T : isTab s p R) (hok : ∀ q ∈ R, okrow q) (hl : hold s 1 l) (h48 : l.length ≤ 48) (hv : ∀ k, k < 11 → s.2.2.2.1 k = some (93 + 4 * k)) : ca L xs (d + 4) 47 [.ref 87, .int adr, .ref 1] s (fun v s' => v = none ∧ ckC s' p (R, adr, f_adr adr, l) ∧ isCk s' (0, 0, -1, 0, []) ∧ hold s' 1 l ∧ (∀ a, 137 ≤ a → s'.1 a = s.1 a ∧ s'.2.1 a = s.2.1 a) ∧ s'.2.2 = s.2.2) := by
  refine wg_call (Nat.le_of_ble_eq_true rfl) ?_
  have hb0 := f_byte_len (oct adr 0)
  have hb1 := f_byte_len (oct adr 1)
  have hb2 := f_byte_len (oct adr 2)
  have hb3 := f_byte_len (oct adr 3)
  have hv0 := hv 0 (by decide)
  have hl0 : hold (mg_I s 87 4 adr) 1 l := hold_I hl (by decide)
  show wp L xs (d + 3) 47 0 [some (.ref 87), some (.int adr), some (.ref 1), none] [] s _
  refine wg_aload_n (d47_0 L xs) rfl ?_
  refine wg_iload_n (d47_1 L xs) rfl ?_
  refine wg_puti (d47_2 L xs) (cj := 6) (k0 := 4) rfl (by decide) rfl (Nat.le_of_ble_eq_true rfl) rfl rfl rfl ?_
  refine wg_aload_n (d47_5 L xs) rfl ?_
  refine wg_get (d47_6 L xs) (kd := 1) (cj := 6) (k0 := 3) rfl (Or.inl rfl) (by decide) rfl rfl ?_
  refine wg_invv (d47_9 L xs) (kd := 7) (mj := 18) (n := 0) rfl (Or.inl rfl) (ys := []) (r := []) rfl rfl (by decide) rfl rfl (Nat.le_of_ble_eq_true rfl) (ts_clear isT_all.2.2.2.1) ?_
  rintro _ t1 ⟨rfl, g1⟩
  have G1 := g1
  refine wg_bipush (d47_12 L xs) (x := 24) (by decide) ?_
  refine wg_istore_n (d47_14 L xs) (ls' := [some (.ref 87), some (.int adr), some (.ref 1), some (.int 24)]) (Nat.le_of_ble_eq_true rfl) rfl ?_
  refine wg_iload_n (d47_15 L xs) rfl ?_
  refine wg_if_lt (d47_16 L xs) (t := 52) (by decide) (fun hp => absurd hp (by decide)) (fun _ => ?_)
  refine wg_aload_n (d47_19 L xs) rfl ?_
  refine wg_get (d47_20 L xs) (kd := 1) (cj := 6) (k0 := 3) rfl (Or.inl rfl) (by decide) rfl rfl ?_
  refine wg_iload_n (d47_23 L xs) rfl ?_
  refine wg_iload_n (d47_24 L xs) rfl ?_
  refine wg_iushr (d47_25 L xs) ?_
  refine wg_sipush (d47_26 L xs) (x := 255) (by decide) ?_
  refine wg_iand (d47_29 L xs) ?_
  refine wg_top (y := (nI (oct adr 3))) (oct_c adr (k := 3) (by decide)) ?_
  refine wg_invv (d47_30 L xs) (kd := 7) (mj := 48) (n := 1) rfl (Or.inl rfl) (ys := [.int (nI (oct adr 3))]) (r := []) rfl rfl (by decide) rfl rfl (Nat.le_of_ble_eq_true rfl) (ts_byte (n := oct adr 3) isT_all.2.2.2.1 G1.has (oct_lt adr 3).1 (by simp only [List.length_append, List.length_nil, List.length_singleton, isT_all.2.2.2.2.2.2.2.2.1]; omega)) ?_
  rintro _ t2 ⟨rfl, g2⟩
  have G2 := G1.trans g2
  refine wg_iload_n (d47_33 L xs) rfl ?_
  refine wg_if_le (d47_34 L xs) (t := 46) (by decide) (fun hp => absurd hp (by decide)) (fun _ => ?_)
  refine wg_aload_n (d47_37 L xs) rfl ?_
  refine wg_get (d47_38 L xs) (kd := 1) (cj := 6) (k0 := 3) rfl (Or.inl rfl) (by decide) rfl rfl ?_
  refine wg_bipush (d47_41 L xs) (x := 46) (by decide) ?_
  refine wg_invv (d47_43 L xs) (kd := 7) (mj := 16) (n := 1) rfl (Or.inl rfl) (ys := [.int 46]) (r := []) rfl rfl (by decide) rfl rfl (Nat.le_of_ble_eq_true rfl) (ts_addL (c := 46) isT_all.2.2.2.1 G2.has (by decide) (by simp only [List.length_append, List.length_nil, List.length_singleton, isT_all.2.2.2.2.2.2.2.2.1]; omega)) ?_
  rintro _ t3 ⟨rfl, g3⟩
  have G3 := G2.trans g3
  refine wg_iinc (d47_46 L xs) (y := 16) (ls' := [some (.ref 87), some (.int adr), some (.ref 1), some (.int 16)]) rfl (by decide) rfl ?_
  refine wg_goto (d47_49 L xs) (t := 15) (by decide) ?_
  refine wg_iload_n (d47_15 L xs) rfl ?_
  refine wg_if_lt (d47_16 L xs) (t := 52) (by decide) (fun hp => absurd hp (by decide)) (fun _ => ?_)
  refine wg_aload_n (d47_19 L xs) rfl ?_
  refine wg_get (d47_20 L xs) (kd := 1) (cj := 6) (k0 := 3) rfl (Or.inl rfl) (by decide) rfl rfl ?_
  refine wg_iload_n (d47_23 L xs) rfl ?_
  refine wg_iload_n (d47_24 L xs) rfl ?_
  refine wg_iushr (d47_25 L xs) ?_
  refine wg_sipush (d47_26 L xs) (x := 255) (by decide) ?_
  refine wg_iand (d47_29 L xs) ?_
  refine wg_top (y := (nI (oct adr 2))) (oct_c adr (k := 2) (by decide)) ?_
  refine wg_invv (d47_30 L xs) (kd := 7) (mj := 48) (n := 1) rfl (Or.inl rfl) (ys := [.int (nI (oct adr 2))]) (r := []) rfl rfl (by decide) rfl rfl (Nat.le_of_ble_eq_true rfl) (ts_byte (n := oct adr 2) isT_all.2.2.2.1 G3.has (oct_lt adr 2).1 (by simp only [List.length_append, List.length_nil, List.length_singleton, isT_all.2.2.2.2.2.2.2.2.1]; omega)) ?_
  rintro _ t4 ⟨rfl, g4⟩
  have G4 := G3.trans g4
  refine wg_iload_n (d47_33 L xs) rfl ?_
  refine wg_if_le (d47_34 L xs) (t := 46) (by decide) (fun hp => absurd hp (by decide)) (fun _ => ?_)
  refine wg_aload_n (d47_37 L xs) rfl ?_
  refine wg_get (d47_38 L xs) (kd := 1) (cj := 6) (k0 := 3) rfl (Or.inl rfl) (by decide) rfl rfl ?_
  refine wg_bipush (d47_41 L xs) (x := 46) (by decide) ?_
  refine wg_invv (d47_43 L xs) (kd := 7) (mj := 16) (n := 1) rfl (Or.inl rfl) (ys := [.int 46]) (r := []) rfl rfl (by decide) rfl rfl (Nat.le_of_ble_eq_true rfl) (ts_addL (c := 46) isT_all.2.2.2.1 G4.has (by decide) (by simp only [List.length_append, List.length_nil, List.length_singleton, isT_all.2.2.2.2.2.2.2.2.1]; omega)) ?_
  rintro _ t5 ⟨rfl, g5⟩
  have G5 := G4.trans g5
  refine wg_iinc (d47_46 L xs) (y := 8) (ls' := [some (.ref 87), some (.int adr), some (.ref 1), some (.int 8)]) rfl (by decide) rfl ?_
  refine wg_goto (d47_49 L xs) (t := 15) (by decide) ?_
  refine wg_iload_n (d47_15 L xs) rfl ?_
  refine wg_if_lt (d47_16 L xs) (t := 52) (by decide) (fun hp => absurd hp (by decide)) (fun _ => ?_)
  refine wg_aload_n (d47_19 L xs) rfl ?_
  refine wg_get (d47_20 L xs) (kd := 1) (cj := 6) (k0 := 3) rfl (Or.inl rfl) (by decide) rfl rfl ?_
  refine wg_iload_n (d47_23 L xs) rfl ?_
  refine wg_iload_n (d47_24 L xs) rfl ?_
  refine wg_iushr (d47_25 L xs) ?_
  refine wg_sipush (d47_26 L xs) (x := 255) (by decide) ?_
  refine wg_iand (d47_29 L xs) ?_
  refine wg_top (y := (nI (oct adr 1))) (oct_c adr (k := 1) (by decide)) ?_
  refine wg_invv (d47_30 L xs) (kd := 7) (mj := 48) (n := 1) rfl (Or.inl rfl) (ys := [.int (nI (oct adr 1))]) (r := []) rfl rfl (by decide) rfl rfl (Nat.le_of_ble_eq_true rfl) (ts_byte (n := oct adr 1) isT_all.2.2.2.1 G5.has (oct_lt adr 1).1 (by simp only [List.length_append, List.length_nil, List.length_singleton, isT_all.2.2.2.2.2.2.2.2.1]; omega)) ?_
  rintro _ t6 ⟨rfl, g6⟩
  have G6 := G5.trans g6
  refine wg_iload_n (d47_33 L xs) rfl ?_
  refine wg_if_le (d47_34 L xs) (t := 46) (by decide) (fun hp => absurd hp (by decide)) (fun _ => ?_)
  refine wg_aload_n (d47_37 L xs) rfl ?_
  refine wg_get (d47_38 L xs) (kd := 1) (cj := 6) (k0 := 3) rfl (Or.inl rfl) (by decide) rfl rfl ?_
  refine wg_bipush (d47_41 L xs) (x := 46) (by decide) ?_
  refine wg_invv (d47_43 L xs) (kd := 7) (mj := 16) (n := 1) rfl (Or.inl rfl) (ys := [.int 46]) (r := []) rfl rfl (by decide) rfl rfl (Nat.le_of_ble_eq_true rfl) (ts_addL (c := 46) isT_all.2.2.2.1 G6.has (by decide) (by simp only [List.length_append, List.length_nil, List.length_singleton, isT_all.2.2.2.2.2.2.2.2.1]; omega)) ?_
  rintro _ t7 ⟨rfl, g7⟩
  have G7 := G6.trans g7
  refine wg_iinc (d47_46 L xs) (y := 0) (ls' := [some (.ref 87), some (.int adr), some (.ref 1), some (.int 0)]) rfl (by decide) rfl ?_
  refine wg_goto (d47_49 L xs) (t := 15) (by decide) ?_
  refine wg_iload_n (d47_15 L xs) rfl ?_
  refine wg_if_lt (d47_16 L xs) (t := 52) (by decide) (fun hp => absurd hp (by decide)) (fun _ => ?_)
  refine wg_aload_n (d47_19 L xs) rfl ?_
  refine wg_get (d47_20 L xs) (kd := 1) (cj := 6) (k0 := 3) rfl (Or.inl rfl) (by decide) rfl rfl ?_
  refine wg_iload_n (d47_23 L xs) rfl ?_
  refine wg_iload_n (d47_24 L xs) rfl ?_
  refine wg_iushr (d47_25 L xs) ?_
  refine wg_sipush (d47_26 L xs) (x := 255) (by decide) ?_
  refine wg_iand (d47_29 L xs) ?_
  refine wg_top (y := (nI (oct adr 0))) (oct_c adr (k := 0) (by decide)) ?_
  refine wg_invv (d47_30 L xs) (kd := 7) (mj := 48) (n := 1) rfl (Or.inl rfl) (ys := [.int (nI (oct adr 0))]) (r := []) rfl rfl (by decide) rfl rfl (Nat.le_of_ble_eq_true rfl) (ts_byte (n := oct adr 0) isT_all.2.2.2.1 G7.has (oct_lt adr 0).1 (by simp only [List.length_append, List.length_nil, List.length_singleton, isT_all.2.2.2.2.2.2.2.2.1]; omega)) ?_
  rintro _ t8 ⟨rfl, g8⟩
  have G8 := G7.trans g8
  refine wg_iload_n (d47_33 L xs) rfl ?_
  refine wg_if_le (d47_34 L xs) (t := 46) (by decide) (fun _ => ?_) (fun hn => absurd (by decide) hn)
  refine wg_iinc (d47_46 L xs) (y := (-8)) (ls' := [some (.ref 87), some (.int adr), some (.ref 1), some (.int (-8))]) rfl (by decide) rfl ?_
  refine wg_goto (d47_49 L xs) (t := 15) (by decide) ?_
  refine wg_iload_n (d47_15 L xs) rfl ?_
  refine wg_if_lt (d47_16 L xs) (t := 52) (by decide) (fun _ => ?_) (fun hn => absurd (by decide) hn)
  refine wg_aload_n (d47_52 L xs) rfl ?_
  refine wg_invv (d47_53 L xs) (kd := 7) (mj := 49) (n := 0) rfl (Or.inl rfl) (ys := []) (r := []) rfl rfl (by decide) rfl rfl (Nat.le_of_ble_eq_true rfl) (ck_first (by rw [G8.r]; exact hv0)) ?_
  rintro _ _ ⟨rfl, rfl⟩
  refine wg_invv (d47_56 L xs) (kd := 7) (mj := 18) (n := 0) rfl (Or.inl rfl) (ys := []) (r := []) rfl rfl (by decide) rfl rfl (Nat.le_of_ble_eq_true rfl) (ts_clear (lf_n isL93)) ?_
  rintro _ t9 ⟨rfl, g9⟩
  have hl9 := g9.other (b := 1) (by decide) (G8.other (b := 1) (by decide) hl0)
  refine wg_aload_n (d47_59 L xs) rfl ?_
  refine wg_invv (d47_60 L xs) (kd := 7) (mj := 49) (n := 0) rfl (Or.inl rfl) (ys := []) (r := []) rfl rfl (by decide) rfl rfl (Nat.le_of_ble_eq_true rfl) (ck_first (by rw [g9.r, G8.r]; exact hv0)) ?_
  rintro _ _ ⟨rfl, rfl⟩
  refine wg_aload_n (d47_63 L xs) rfl ?_
  refine wg_iconst (d47_64 L xs) (x := 0) (by decide) ?_
  refine wg_aload_n (d47_65 L xs) rfl ?_
  refine wg_invv (d47_66 L xs) (kd := 7) (mj := 15) (n := 0) rfl (Or.inl rfl) (ys := []) (r := [.int 0, .ref 1, .ref 94]) rfl rfl (by decide) rfl rfl (Nat.le_of_ble_eq_true rfl) (ts_size isT_all.1 hl9) ?_
  rintro _ _ ⟨rfl, rfl⟩
  refine wg_invv (d47_69 L xs) (kd := 7) (mj := 44) (n := 3) rfl (Or.inl rfl) (ys := [.int (nI l.length), .int 0, .ref 1]) (r := []) rfl rfl (by decide) rfl rfl (Nat.le_of_ble_eq_true rfl) (ts_addPart (fr := 0) (to := l.length) (lf_n isL93) g9.has isT_all.1 hl9 (by decide) (by omega) (by decide)) ?_
  rintro _ t10 ⟨rfl, g10⟩
  rw [List.nil_append, seg_all, List.take_of_length_le (by rw [lf_ln isL93]; omega)] at g10
  have G10 := g9.trans g10
  refine wg_aload_n (d47_72 L xs) rfl ?_
  refine wg_get (d47_73 L xs) (kd := 1) (cj := 6) (k0 := 0) rfl (Or.inl rfl) (by decide) rfl rfl ?_
  refine wg_invv (d47_76 L xs) (kd := 7) (mj := 50) (n := 0) rfl (Or.inl rfl) (ys := []) (r := []) rfl rfl (by decide) rfl rfl (Nat.le_of_ble_eq_true rfl) tb_forget ?_
  rintro _ t11 ⟨rfl, g11⟩
  refine wg_aload_n (d47_79 L xs) rfl ?_
  refine wg_iconst (d47_80 L xs) (x := 0) (by decide) ?_
  refine wg_puti (d47_81 L xs) (cj := 6) (k0 := 6) rfl (by decide) rfl (Nat.le_of_ble_eq_true rfl) rfl rfl rfl ?_
  refine wg_aload_n (d47_84 L xs) rfl ?_
  refine wg_iconst (d47_85 L xs) (x := 0) (by decide) ?_
  refine wg_puti (d47_86 L xs) (cj := 6) (k0 := 7) rfl (by decide) rfl (Nat.le_of_ble_eq_true rfl) rfl rfl rfl ?_
  refine wg_aload_n (d47_89 L xs) rfl ?_
  refine wg_iconst (d47_90 L xs) (x := (-1)) (by decide) ?_
  refine wg_puti (d47_91 L xs) (cj := 6) (k0 := 8) rfl (by decide) rfl (Nat.le_of_ble_eq_true rfl) rfl rfl rfl ?_
  refine wg_aload_n (d47_94 L xs) rfl ?_
  refine wg_iconst (d47_95 L xs) (x := 0) (by decide) ?_
  refine wg_puti (d47_96 L xs) (cj := 6) (k0 := 9) rfl (by decide) rfl (Nat.le_of_ble_eq_true rfl) rfl rfl rfl ?_
  refine wg_vret (d47_99 L xs) rfl ?_
  have G11 : tset t10 5 [] t11 := ⟨_, g11, Nat.zero_le _, okc_nil, fun i h => absurd h (Nat.not_lt_zero _)⟩
  have hI : ∀ a, ¬ a = 5 → ¬ a = 87 → ¬ a = 91 → ¬ a = 94 → (mg_I (mg_I (mg_I (mg_I t11 87 6 0) 87 7 0) 87 8 (-1)) 87 9 0).1 a = s.1 a := fun a h1 h2 h3 h4 => by rw [mg_I_oth h2, mg_I_oth h2, mg_I_oth h2, mg_I_oth h2, G11.i h1, G10.i h4, G8.i h3, mg_I_oth h2]
  have hA : ∀ a, ¬ a = 6 → ¬ a = 92 → ¬ a = 95 → (mg_I (mg_I (mg_I (mg_I t11 87 6 0) 87 7 0) 87 8 (-1)) 87 9 0).2.1 a = s.2.1 a := fun a h1 h2 h3 => by show t11.2.1 a = s.2.1 a; rw [G11.a h1, G10.a h3, G8.a h2]; rfl
  have hr : (mg_I (mg_I (mg_I (mg_I t11 87 6 0) 87 7 0) 87 8 (-1)) 87 9 0).2.2 = s.2.2 := by show t11.2.2 = s.2.2; rw [G11.r, G10.r, G8.r]; rfl
  have h4 : ∀ {b : Nat} {m : List Nat}, ¬ b = 87 → hold t11 b m → hold (mg_I (mg_I (mg_I (mg_I t11 87 6 0) 87 7 0) 87 8 (-1)) 87 9 0) b m := fun hb h => hold_I (hold_I (hold_I (hold_I h hb) hb) hb) hb
  refine ⟨rfl, ⟨isTab_of T (hI 3 (by decide) (by decide) (by decide) (by decide)) (fun a h1 h2 => ⟨hI a (by omega) (by omega) (by omega) (by omega), hA a (by omega) (by omega) (by omega)⟩) (by rw [hr]), hok, ?_, h4 (by decide) (G11.other (by decide) (G10.other (by decide) G8.has)), h4 (by decide) (G11.other (by decide) G10.has), by rw [hr]; exact hv⟩, ⟨?_, ?_, ?_, ?_, h4 (by decide) G11.has⟩, hold_of hl (hI 1 (by decide) (by decide) (by decide) (by decide)) (hA 2 (by decide) (by decide) (by decide)), fun a ha => ⟨hI a (by omega) (by omega) (by omega) (by omega), hA a (by omega) (by omega) (by omega)⟩, hr⟩
  · rw [mg_I_own, upd_ne _ _ (by decide), mg_I_own, upd_ne _ _ (by decide), mg_I_own, upd_ne _ _ (by decide), mg_I_own, upd_ne _ _ (by decide), G11.i (by decide), G10.i (by decide), G8.i (by decide), mg_I_own]; rfl
  · rw [mg_I_own, upd_ne _ _ (by decide), mg_I_own, upd_ne _ _ (by decide), mg_I_own, upd_ne _ _ (by decide), mg_I_own]; rfl
  · rw [mg_I_own, upd_ne _ _ (by decide), mg_I_own, upd_ne _ _ (by decide), mg_I_own]; rfl
  · rw [mg_I_own, upd_ne _ _ (by decide), mg_I_own]; rfl
  · rw [mg_I_own]; rfl
theorem gd_check {s : mg_s} {adr : Int32} (T : isTab s p R) (hok : ∀ q ∈ R, okrow q) (hl : hold s 1 l) (hn : t_name (gl l) 0 l.length = true) (hv : ∀ k, k < 11 → s.2.2.2.1 k = some (93 + 4 * k)) : ca L xs (d + 65) 45 [.ref 0, .int adr] s (fun v s' => v = some (.int (nI (x_ev (R, adr, f_adr adr, l) 10 0 l (0, 0, -1, 0, [])).1)) ∧ hold s' 1 [] ∧ isTab s' p R ∧ isCk s' (x_ev (R, adr, f_adr adr, l) 10 0 l (0, 0, -1, 0, [])).2 ∧ s'.1 87 5 = nI (x_ev (R, adr, f_adr adr, l) 10 0 l (0, 0, -1, 0, [])).1 ∧ hold s' 94 l ∧ (∀ a, 137 ≤ a → s'.1 a = s.1 a ∧ s'.2.1 a = s.2.1 a) ∧ s'.2.2 = s.2.2) := by
  refine wg_call (Nat.le_of_ble_eq_true rfl) ?_
  have hnl := t_name_len hn
  have hbn := bI_lt (t_name (gl l) 0 l.length)
  show wp L xs (d + 64) 45 0 [some (.ref 0), some (.int adr), none] [] s _
  refine wg_aload_n (d45_0 L xs) rfl ?_
  refine wg_get (d45_1 L xs) (kd := 1) (cj := 0) (k0 := 0) rfl (Or.inl rfl) (by decide) rfl rfl ?_
  refine wg_invv (d45_4 L xs) (kd := 7) (mj := 46) (n := 0) rfl (Or.inl rfl) (ys := []) (r := []) rfl rfl (by decide) rfl rfl (Nat.le_of_ble_eq_true rfl) (ts_name0 isT_all.1 hl) ?_
  rintro _ _ ⟨rfl, rfl⟩
  refine wn_if_ne (d45_7 L xs) (x := bI (t_name (gl l) 0 l.length)) (by omega) (t := 18) (by decide) (fun h1 => ?_) (fun h1 => absurd h1 (by rw [hn]; decide))
  refine wg_aload_n (d45_18 L xs) rfl ?_
  refine wg_get (d45_19 L xs) (kd := 1) (cj := 0) (k0 := 2) rfl (Or.inl rfl) (by decide) rfl rfl ?_
  refine wg_iload_n (d45_22 L xs) rfl ?_
  refine wg_aload_n (d45_23 L xs) rfl ?_
  refine wg_get (d45_24 L xs) (kd := 1) (cj := 0) (k0 := 0) rfl (Or.inl rfl) (by decide) rfl rfl ?_
  refine wg_invv (d45_27 L xs) (kd := 7) (mj := 47) (n := 2) rfl (Or.inl rfl) (ys := [.ref 1, .int adr]) (r := []) rfl rfl (by decide) rfl rfl (Nat.le_of_ble_eq_true rfl) (ck_begin T hok hl (by omega) hv) ?_
  rintro _ s1 ⟨rfl, C1, K1, hl1, o1, r1⟩
  refine wg_aload_n (d45_30 L xs) rfl ?_
  refine wg_get (d45_31 L xs) (kd := 1) (cj := 0) (k0 := 0) rfl (Or.inl rfl) (by decide) rfl rfl ?_
  refine wg_invv (d45_34 L xs) (kd := 7) (mj := 18) (n := 0) rfl (Or.inl rfl) (ys := []) (r := []) rfl rfl (by decide) rfl rfl (Nat.le_of_ble_eq_true rfl) (ts_clear isT_all.1) ?_
  rintro _ s2 ⟨rfl, e2⟩
  have C2 : ckC s2 p (R, adr, f_adr adr, l) := ⟨tset_tab e2 (by decide) (by decide) C1.1, C1.2.1, by rw [e2.i (by decide)]; exact C1.2.2.1, e2.other (by decide) C1.2.2.2.1, e2.other (by decide) C1.2.2.2.2.1, by rw [e2.r]; exact C1.2.2.2.2.2⟩
  refine wg_aload_n (d45_37 L xs) rfl ?_
  refine wg_get (d45_38 L xs) (kd := 1) (cj := 0) (k0 := 2) rfl (Or.inl rfl) (by decide) rfl rfl ?_
  refine wg_iconst (d45_41 L xs) (x := 0) (by decide) ?_
  refine wg_invv (d45_42 L xs) (kd := 17) (mj := 51) (n := 1) rfl (Or.inr rfl) (ys := [.int 0]) (r := []) rfl rfl (by decide) rfl rfl (Nat.le_of_ble_eq_true rfl) (ck_ev 10 0 d rfl s2 (0, 0, -1, 0, []) l C2 (isCk_T K1 e2 (by decide) (by decide)) ⟨by decide, by decide⟩ C2.2.2.2.2.1) ?_
  rintro _ s3 ⟨rfl, K3, f3⟩
  refine wg_istore_n (d45_45 L xs) (ls' := [some (.ref 0), some (.int adr), some (.int (nI ((x_ev (R, adr, f_adr adr, l) 10 0 l (0, 0, -1, 0, [])).1)))]) (Nat.le_of_ble_eq_true rfl) rfl ?_
  refine wg_aload_n (d45_46 L xs) rfl ?_
  refine wg_get (d45_47 L xs) (kd := 1) (cj := 0) (k0 := 2) rfl (Or.inl rfl) (by decide) rfl rfl ?_
  refine wg_iload_n (d45_50 L xs) rfl ?_
  refine wg_invv (d45_51 L xs) (kd := 7) (mj := 85) (n := 1) rfl (Or.inl rfl) (ys := [.int (nI ((x_ev (R, adr, f_adr adr, l) 10 0 l (0, 0, -1, 0, [])).1))]) (r := []) rfl rfl (by decide) rfl rfl (Nat.le_of_ble_eq_true rfl) ck_end ?_
  rintro _ _ ⟨rfl, rfl⟩
  refine wg_iload_n (d45_54 L xs) rfl ?_
  have C3 := ckC_of C2 f3 (by omega)
  exact wg_iret (d45_55 L xs) rfl rfl (by exact ⟨rfl, hold_I (f3.hold e2.has (by decide) (by decide) (by decide) (by omega)) (by decide), isTab_of C3.1 (mg_I_oth (by decide)) (fun a h1 h2 => ⟨mg_I_oth (by omega), rfl⟩) rfl, ⟨by rw [mg_I_own, upd_ne _ _ (by decide)]; exact K3.1, by rw [mg_I_own, upd_ne _ _ (by decide)]; exact K3.2.1, by rw [mg_I_own, upd_ne _ _ (by decide)]; exact K3.2.2.1, by rw [mg_I_own, upd_ne _ _ (by decide)]; exact K3.2.2.2.1, hold_I K3.2.2.2.2 (by decide)⟩, by rw [mg_I_own]; rfl, hold_I C3.2.2.2.2.1 (by decide), fun a ha => ⟨by rw [mg_I_oth (by omega), f3.1 a (by omega) (by omega) (by omega) (by omega), e2.i (by omega)]; exact (o1 a ha).1, by show s3.2.1 a = _; rw [f3.2.2.1 a (by omega) (by omega) (by omega), e2.a (by omega)]; exact (o1 a ha).2⟩, by show s3.2.2 = _; rw [f3.2.2.2, e2.r]; exact r1⟩)
end BG
