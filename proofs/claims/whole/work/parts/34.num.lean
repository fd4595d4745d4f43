/-! numbers that are written -/
def oI (o : Option Nat) : Int32 := match o with
  | some v => nI v
  | none => -1
def f_num (g : Nat → Nat) (most : Nat) : Nat → Nat → Nat → Option Nat
  | v, _, 0 => if v ≤ most then some v else none
  | v, i, m + 1 => if 48 ≤ g i ∧ g i ≤ 57 then f_num g most (v * 10 + (g i - 48)) (i + 1) m else none
/-- the number that stands from i up to j, at most so much -/
def t_num (g : Nat → Nat) (i j most : Nat) : Option Nat := if j - i < 1 ∨ 3 < j - i ∨ (1 < j - i ∧ g i = 48) then none else f_num g most 0 i (j - i)
/-- the reference reads: digits that stand at i, no more than m; their number, and where they end -/
def f_digs (g : Nat → Nat) : Nat → Nat → Nat → Nat × Nat
  | v, i, 0 => (v, i)
  | v, i, m + 1 => if c_dig (g i) = true then f_digs g (10 * v + g i - 48) (i + 1) m else (v, i)
theorem d41_0 (L : Nat) (xs : Nat → Int32) : decode (ax_code (mgT L xs) 41) 0 = .ok (.iload_n 2, 1) := by
  show decode prog_9_method_20_code 0 = _
  decide +kernel
theorem d41_1 (L : Nat) (xs : Nat → Int32) : decode (ax_code (mgT L xs) 41) 1 = .ok (.iload_n 1, 1) := by
  show decode prog_9_method_20_code 1 = _
  decide +kernel
theorem d41_2 (L : Nat) (xs : Nat → Int32) : decode (ax_code (mgT L xs) 41) 2 = .ok (.isub, 1) := by
  show decode prog_9_method_20_code 2 = _
  decide +kernel
theorem d41_3 (L : Nat) (xs : Nat → Int32) : decode (ax_code (mgT L xs) 41) 3 = .ok (.istore 4, 2) := by
  show decode prog_9_method_20_code 3 = _
  decide +kernel
theorem d41_5 (L : Nat) (xs : Nat → Int32) : decode (ax_code (mgT L xs) 41) 5 = .ok (.iload 4, 2) := by
  show decode prog_9_method_20_code 5 = _
  decide +kernel
theorem d41_7 (L : Nat) (xs : Nat → Int32) : decode (ax_code (mgT L xs) 41) 7 = .ok (.iconst 1, 1) := by
  show decode prog_9_method_20_code 7 = _
  decide +kernel
theorem d41_8 (L : Nat) (xs : Nat → Int32) : decode (ax_code (mgT L xs) 41) 8 = .ok (.if_icmp .lt 25, 3) := by
  show decode prog_9_method_20_code 8 = _
  decide +kernel
theorem d41_11 (L : Nat) (xs : Nat → Int32) : decode (ax_code (mgT L xs) 41) 11 = .ok (.iload 4, 2) := by
  show decode prog_9_method_20_code 11 = _
  decide +kernel
theorem d41_13 (L : Nat) (xs : Nat → Int32) : decode (ax_code (mgT L xs) 41) 13 = .ok (.iconst 3, 1) := by
  show decode prog_9_method_20_code 13 = _
  decide +kernel
theorem d41_14 (L : Nat) (xs : Nat → Int32) : decode (ax_code (mgT L xs) 41) 14 = .ok (.if_icmp .gt 19, 3) := by
  show decode prog_9_method_20_code 14 = _
  decide +kernel
theorem d41_17 (L : Nat) (xs : Nat → Int32) : decode (ax_code (mgT L xs) 41) 17 = .ok (.iload 4, 2) := by
  show decode prog_9_method_20_code 17 = _
  decide +kernel
theorem d41_19 (L : Nat) (xs : Nat → Int32) : decode (ax_code (mgT L xs) 41) 19 = .ok (.iconst 1, 1) := by
  show decode prog_9_method_20_code 19 = _
  decide +kernel
theorem d41_20 (L : Nat) (xs : Nat → Int32) : decode (ax_code (mgT L xs) 41) 20 = .ok (.if_icmp .le 15, 3) := by
  show decode prog_9_method_20_code 20 = _
  decide +kernel
theorem d41_23 (L : Nat) (xs : Nat → Int32) : decode (ax_code (mgT L xs) 41) 23 = .ok (.aload_n 0, 1) := by
  show decode prog_9_method_20_code 23 = _
  decide +kernel
theorem d41_24 (L : Nat) (xs : Nat → Int32) : decode (ax_code (mgT L xs) 41) 24 = .ok (.iload_n 1, 1) := by
  show decode prog_9_method_20_code 24 = _
  decide +kernel
theorem d41_25 (L : Nat) (xs : Nat → Int32) : decode (ax_code (mgT L xs) 41) 25 = .ok (.invokevirtual 37, 3) := by
  show decode prog_9_method_20_code 25 = _
  decide +kernel
theorem d41_28 (L : Nat) (xs : Nat → Int32) : decode (ax_code (mgT L xs) 41) 28 = .ok (.bipush 48, 2) := by
  show decode prog_9_method_20_code 28 = _
  decide +kernel
theorem d41_30 (L : Nat) (xs : Nat → Int32) : decode (ax_code (mgT L xs) 41) 30 = .ok (.if_icmp .ne 5, 3) := by
  show decode prog_9_method_20_code 30 = _
  decide +kernel
theorem d41_33 (L : Nat) (xs : Nat → Int32) : decode (ax_code (mgT L xs) 41) 33 = .ok (.iconst (-1), 1) := by
  show decode prog_9_method_20_code 33 = _
  decide +kernel
theorem d41_34 (L : Nat) (xs : Nat → Int32) : decode (ax_code (mgT L xs) 41) 34 = .ok (.ireturn, 1) := by
  show decode prog_9_method_20_code 34 = _
  decide +kernel
theorem d41_35 (L : Nat) (xs : Nat → Int32) : decode (ax_code (mgT L xs) 41) 35 = .ok (.iconst 0, 1) := by
  show decode prog_9_method_20_code 35 = _
  decide +kernel
theorem d41_36 (L : Nat) (xs : Nat → Int32) : decode (ax_code (mgT L xs) 41) 36 = .ok (.istore 5, 2) := by
  show decode prog_9_method_20_code 36 = _
  decide +kernel
theorem d41_38 (L : Nat) (xs : Nat → Int32) : decode (ax_code (mgT L xs) 41) 38 = .ok (.iload_n 1, 1) := by
  show decode prog_9_method_20_code 38 = _
  decide +kernel
theorem d41_39 (L : Nat) (xs : Nat → Int32) : decode (ax_code (mgT L xs) 41) 39 = .ok (.istore 6, 2) := by
  show decode prog_9_method_20_code 39 = _
  decide +kernel
theorem d41_41 (L : Nat) (xs : Nat → Int32) : decode (ax_code (mgT L xs) 41) 41 = .ok (.iload 6, 2) := by
  show decode prog_9_method_20_code 41 = _
  decide +kernel
theorem d41_43 (L : Nat) (xs : Nat → Int32) : decode (ax_code (mgT L xs) 41) 43 = .ok (.iload_n 2, 1) := by
  show decode prog_9_method_20_code 43 = _
  decide +kernel
theorem d41_44 (L : Nat) (xs : Nat → Int32) : decode (ax_code (mgT L xs) 41) 44 = .ok (.if_icmp .ge 46, 3) := by
  show decode prog_9_method_20_code 44 = _
  decide +kernel
theorem d41_47 (L : Nat) (xs : Nat → Int32) : decode (ax_code (mgT L xs) 41) 47 = .ok (.aload_n 0, 1) := by
  show decode prog_9_method_20_code 47 = _
  decide +kernel
theorem d41_48 (L : Nat) (xs : Nat → Int32) : decode (ax_code (mgT L xs) 41) 48 = .ok (.iload 6, 2) := by
  show decode prog_9_method_20_code 48 = _
  decide +kernel
theorem d41_50 (L : Nat) (xs : Nat → Int32) : decode (ax_code (mgT L xs) 41) 50 = .ok (.invokevirtual 37, 3) := by
  show decode prog_9_method_20_code 50 = _
  decide +kernel
theorem d41_53 (L : Nat) (xs : Nat → Int32) : decode (ax_code (mgT L xs) 41) 53 = .ok (.istore 7, 2) := by
  show decode prog_9_method_20_code 53 = _
  decide +kernel
theorem d41_55 (L : Nat) (xs : Nat → Int32) : decode (ax_code (mgT L xs) 41) 55 = .ok (.iload 7, 2) := by
  show decode prog_9_method_20_code 55 = _
  decide +kernel
theorem d41_57 (L : Nat) (xs : Nat → Int32) : decode (ax_code (mgT L xs) 41) 57 = .ok (.bipush 48, 2) := by
  show decode prog_9_method_20_code 57 = _
  decide +kernel
theorem d41_59 (L : Nat) (xs : Nat → Int32) : decode (ax_code (mgT L xs) 41) 59 = .ok (.if_icmp .lt 10, 3) := by
  show decode prog_9_method_20_code 59 = _
  decide +kernel
theorem d41_62 (L : Nat) (xs : Nat → Int32) : decode (ax_code (mgT L xs) 41) 62 = .ok (.iload 7, 2) := by
  show decode prog_9_method_20_code 62 = _
  decide +kernel
theorem d41_64 (L : Nat) (xs : Nat → Int32) : decode (ax_code (mgT L xs) 41) 64 = .ok (.bipush 57, 2) := by
  show decode prog_9_method_20_code 64 = _
  decide +kernel
theorem d41_66 (L : Nat) (xs : Nat → Int32) : decode (ax_code (mgT L xs) 41) 66 = .ok (.if_icmp .le 5, 3) := by
  show decode prog_9_method_20_code 66 = _
  decide +kernel
theorem d41_69 (L : Nat) (xs : Nat → Int32) : decode (ax_code (mgT L xs) 41) 69 = .ok (.iconst (-1), 1) := by
  show decode prog_9_method_20_code 69 = _
  decide +kernel
theorem d41_70 (L : Nat) (xs : Nat → Int32) : decode (ax_code (mgT L xs) 41) 70 = .ok (.ireturn, 1) := by
  show decode prog_9_method_20_code 70 = _
  decide +kernel
theorem d41_71 (L : Nat) (xs : Nat → Int32) : decode (ax_code (mgT L xs) 41) 71 = .ok (.iload 5, 2) := by
  show decode prog_9_method_20_code 71 = _
  decide +kernel
theorem d41_73 (L : Nat) (xs : Nat → Int32) : decode (ax_code (mgT L xs) 41) 73 = .ok (.bipush 10, 2) := by
  show decode prog_9_method_20_code 73 = _
  decide +kernel
theorem d41_75 (L : Nat) (xs : Nat → Int32) : decode (ax_code (mgT L xs) 41) 75 = .ok (.imul, 1) := by
  show decode prog_9_method_20_code 75 = _
  decide +kernel
theorem d41_76 (L : Nat) (xs : Nat → Int32) : decode (ax_code (mgT L xs) 41) 76 = .ok (.iload 7, 2) := by
  show decode prog_9_method_20_code 76 = _
  decide +kernel
theorem d41_78 (L : Nat) (xs : Nat → Int32) : decode (ax_code (mgT L xs) 41) 78 = .ok (.bipush 48, 2) := by
  show decode prog_9_method_20_code 78 = _
  decide +kernel
theorem d41_80 (L : Nat) (xs : Nat → Int32) : decode (ax_code (mgT L xs) 41) 80 = .ok (.isub, 1) := by
  show decode prog_9_method_20_code 80 = _
  decide +kernel
theorem d41_81 (L : Nat) (xs : Nat → Int32) : decode (ax_code (mgT L xs) 41) 81 = .ok (.iadd, 1) := by
  show decode prog_9_method_20_code 81 = _
  decide +kernel
theorem d41_82 (L : Nat) (xs : Nat → Int32) : decode (ax_code (mgT L xs) 41) 82 = .ok (.istore 5, 2) := by
  show decode prog_9_method_20_code 82 = _
  decide +kernel
theorem d41_84 (L : Nat) (xs : Nat → Int32) : decode (ax_code (mgT L xs) 41) 84 = .ok (.iinc 6 1, 3) := by
  show decode prog_9_method_20_code 84 = _
  decide +kernel
theorem d41_87 (L : Nat) (xs : Nat → Int32) : decode (ax_code (mgT L xs) 41) 87 = .ok (.goto (-46), 3) := by
  show decode prog_9_method_20_code 87 = _
  decide +kernel
theorem d41_90 (L : Nat) (xs : Nat → Int32) : decode (ax_code (mgT L xs) 41) 90 = .ok (.iload 5, 2) := by
  show decode prog_9_method_20_code 90 = _
  decide +kernel
theorem d41_92 (L : Nat) (xs : Nat → Int32) : decode (ax_code (mgT L xs) 41) 92 = .ok (.iload_n 3, 1) := by
  show decode prog_9_method_20_code 92 = _
  decide +kernel
theorem d41_93 (L : Nat) (xs : Nat → Int32) : decode (ax_code (mgT L xs) 41) 93 = .ok (.if_icmp .gt 8, 3) := by
  show decode prog_9_method_20_code 93 = _
  decide +kernel
theorem d41_96 (L : Nat) (xs : Nat → Int32) : decode (ax_code (mgT L xs) 41) 96 = .ok (.iload 5, 2) := by
  show decode prog_9_method_20_code 96 = _
  decide +kernel
theorem d41_98 (L : Nat) (xs : Nat → Int32) : decode (ax_code (mgT L xs) 41) 98 = .ok (.goto 4, 3) := by
  show decode prog_9_method_20_code 98 = _
  decide +kernel
theorem d41_101 (L : Nat) (xs : Nat → Int32) : decode (ax_code (mgT L xs) 41) 101 = .ok (.iconst (-1), 1) := by
  show decode prog_9_method_20_code 101 = _
  decide +kernel
theorem d41_102 (L : Nat) (xs : Nat → Int32) : decode (ax_code (mgT L xs) 41) 102 = .ok (.ireturn, 1) := by
  show decode prog_9_method_20_code 102 = _
  decide +kernel
theorem d114_0 (L : Nat) (xs : Nat → Int32) : decode (ax_code (mgT L xs) 114) 0 = .ok (.iload_n 2, 1) := by
  show decode prog_11_method_9_code 0 = _
  decide +kernel
theorem d114_1 (L : Nat) (xs : Nat → Int32) : decode (ax_code (mgT L xs) 114) 1 = .ok (.istore 5, 2) := by
  show decode prog_11_method_9_code 1 = _
  decide +kernel
theorem d114_3 (L : Nat) (xs : Nat → Int32) : decode (ax_code (mgT L xs) 114) 3 = .ok (.iconst 0, 1) := by
  show decode prog_11_method_9_code 3 = _
  decide +kernel
theorem d114_4 (L : Nat) (xs : Nat → Int32) : decode (ax_code (mgT L xs) 114) 4 = .ok (.istore 6, 2) := by
  show decode prog_11_method_9_code 4 = _
  decide +kernel
theorem d114_6 (L : Nat) (xs : Nat → Int32) : decode (ax_code (mgT L xs) 114) 6 = .ok (.iload 5, 2) := by
  show decode prog_11_method_9_code 6 = _
  decide +kernel
theorem d114_8 (L : Nat) (xs : Nat → Int32) : decode (ax_code (mgT L xs) 114) 8 = .ok (.iload_n 3, 1) := by
  show decode prog_11_method_9_code 8 = _
  decide +kernel
theorem d114_9 (L : Nat) (xs : Nat → Int32) : decode (ax_code (mgT L xs) 114) 9 = .ok (.if_icmp .ge 42, 3) := by
  show decode prog_11_method_9_code 9 = _
  decide +kernel
theorem d114_12 (L : Nat) (xs : Nat → Int32) : decode (ax_code (mgT L xs) 114) 12 = .ok (.iload 5, 2) := by
  show decode prog_11_method_9_code 12 = _
  decide +kernel
theorem d114_14 (L : Nat) (xs : Nat → Int32) : decode (ax_code (mgT L xs) 114) 14 = .ok (.iload_n 2, 1) := by
  show decode prog_11_method_9_code 14 = _
  decide +kernel
theorem d114_15 (L : Nat) (xs : Nat → Int32) : decode (ax_code (mgT L xs) 114) 15 = .ok (.iconst 3, 1) := by
  show decode prog_11_method_9_code 15 = _
  decide +kernel
theorem d114_16 (L : Nat) (xs : Nat → Int32) : decode (ax_code (mgT L xs) 114) 16 = .ok (.iadd, 1) := by
  show decode prog_11_method_9_code 16 = _
  decide +kernel
theorem d114_17 (L : Nat) (xs : Nat → Int32) : decode (ax_code (mgT L xs) 114) 17 = .ok (.if_icmp .ge 34, 3) := by
  show decode prog_11_method_9_code 17 = _
  decide +kernel
theorem d114_20 (L : Nat) (xs : Nat → Int32) : decode (ax_code (mgT L xs) 114) 20 = .ok (.aload_n 1, 1) := by
  show decode prog_11_method_9_code 20 = _
  decide +kernel
theorem d114_21 (L : Nat) (xs : Nat → Int32) : decode (ax_code (mgT L xs) 114) 21 = .ok (.iload 5, 2) := by
  show decode prog_11_method_9_code 21 = _
  decide +kernel
theorem d114_23 (L : Nat) (xs : Nat → Int32) : decode (ax_code (mgT L xs) 114) 23 = .ok (.iaload, 1) := by
  show decode prog_11_method_9_code 23 = _
  decide +kernel
theorem d114_24 (L : Nat) (xs : Nat → Int32) : decode (ax_code (mgT L xs) 114) 24 = .ok (.invokestatic 93, 3) := by
  show decode prog_11_method_9_code 24 = _
  decide +kernel
theorem d114_27 (L : Nat) (xs : Nat → Int32) : decode (ax_code (mgT L xs) 114) 27 = .ok (.ifCond .eq 24, 3) := by
  show decode prog_11_method_9_code 27 = _
  decide +kernel
theorem d114_30 (L : Nat) (xs : Nat → Int32) : decode (ax_code (mgT L xs) 114) 30 = .ok (.bipush 10, 2) := by
  show decode prog_11_method_9_code 30 = _
  decide +kernel
theorem d114_32 (L : Nat) (xs : Nat → Int32) : decode (ax_code (mgT L xs) 114) 32 = .ok (.iload 6, 2) := by
  show decode prog_11_method_9_code 32 = _
  decide +kernel
theorem d114_34 (L : Nat) (xs : Nat → Int32) : decode (ax_code (mgT L xs) 114) 34 = .ok (.imul, 1) := by
  show decode prog_11_method_9_code 34 = _
  decide +kernel
theorem d114_35 (L : Nat) (xs : Nat → Int32) : decode (ax_code (mgT L xs) 114) 35 = .ok (.aload_n 1, 1) := by
  show decode prog_11_method_9_code 35 = _
  decide +kernel
theorem d114_36 (L : Nat) (xs : Nat → Int32) : decode (ax_code (mgT L xs) 114) 36 = .ok (.iload 5, 2) := by
  show decode prog_11_method_9_code 36 = _
  decide +kernel
theorem d114_38 (L : Nat) (xs : Nat → Int32) : decode (ax_code (mgT L xs) 114) 38 = .ok (.iaload, 1) := by
  show decode prog_11_method_9_code 38 = _
  decide +kernel
theorem d114_39 (L : Nat) (xs : Nat → Int32) : decode (ax_code (mgT L xs) 114) 39 = .ok (.iadd, 1) := by
  show decode prog_11_method_9_code 39 = _
  decide +kernel
theorem d114_40 (L : Nat) (xs : Nat → Int32) : decode (ax_code (mgT L xs) 114) 40 = .ok (.bipush 48, 2) := by
  show decode prog_11_method_9_code 40 = _
  decide +kernel
theorem d114_42 (L : Nat) (xs : Nat → Int32) : decode (ax_code (mgT L xs) 114) 42 = .ok (.isub, 1) := by
  show decode prog_11_method_9_code 42 = _
  decide +kernel
theorem d114_43 (L : Nat) (xs : Nat → Int32) : decode (ax_code (mgT L xs) 114) 43 = .ok (.istore 6, 2) := by
  show decode prog_11_method_9_code 43 = _
  decide +kernel
theorem d114_45 (L : Nat) (xs : Nat → Int32) : decode (ax_code (mgT L xs) 114) 45 = .ok (.iinc 5 1, 3) := by
  show decode prog_11_method_9_code 45 = _
  decide +kernel
theorem d114_48 (L : Nat) (xs : Nat → Int32) : decode (ax_code (mgT L xs) 114) 48 = .ok (.goto (-42), 3) := by
  show decode prog_11_method_9_code 48 = _
  decide +kernel
theorem d114_51 (L : Nat) (xs : Nat → Int32) : decode (ax_code (mgT L xs) 114) 51 = .ok (.aload_n 0, 1) := by
  show decode prog_11_method_9_code 51 = _
  decide +kernel
theorem d114_52 (L : Nat) (xs : Nat → Int32) : decode (ax_code (mgT L xs) 114) 52 = .ok (.iload 5, 2) := by
  show decode prog_11_method_9_code 52 = _
  decide +kernel
theorem d114_54 (L : Nat) (xs : Nat → Int32) : decode (ax_code (mgT L xs) 114) 54 = .ok (.putfield 96, 3) := by
  show decode prog_11_method_9_code 54 = _
  decide +kernel
theorem d114_57 (L : Nat) (xs : Nat → Int32) : decode (ax_code (mgT L xs) 114) 57 = .ok (.iload 5, 2) := by
  show decode prog_11_method_9_code 57 = _
  decide +kernel
theorem d114_59 (L : Nat) (xs : Nat → Int32) : decode (ax_code (mgT L xs) 114) 59 = .ok (.iload_n 2, 1) := by
  show decode prog_11_method_9_code 59 = _
  decide +kernel
theorem d114_60 (L : Nat) (xs : Nat → Int32) : decode (ax_code (mgT L xs) 114) 60 = .ok (.if_icmp .eq 26, 3) := by
  show decode prog_11_method_9_code 60 = _
  decide +kernel
theorem d114_63 (L : Nat) (xs : Nat → Int32) : decode (ax_code (mgT L xs) 114) 63 = .ok (.iload 6, 2) := by
  show decode prog_11_method_9_code 63 = _
  decide +kernel
theorem d114_65 (L : Nat) (xs : Nat → Int32) : decode (ax_code (mgT L xs) 114) 65 = .ok (.iload 4, 2) := by
  show decode prog_11_method_9_code 65 = _
  decide +kernel
theorem d114_67 (L : Nat) (xs : Nat → Int32) : decode (ax_code (mgT L xs) 114) 67 = .ok (.if_icmp .gt 19, 3) := by
  show decode prog_11_method_9_code 67 = _
  decide +kernel
theorem d114_70 (L : Nat) (xs : Nat → Int32) : decode (ax_code (mgT L xs) 114) 70 = .ok (.iload 5, 2) := by
  show decode prog_11_method_9_code 70 = _
  decide +kernel
theorem d114_72 (L : Nat) (xs : Nat → Int32) : decode (ax_code (mgT L xs) 114) 72 = .ok (.iload_n 2, 1) := by
  show decode prog_11_method_9_code 72 = _
  decide +kernel
theorem d114_73 (L : Nat) (xs : Nat → Int32) : decode (ax_code (mgT L xs) 114) 73 = .ok (.iconst 1, 1) := by
  show decode prog_11_method_9_code 73 = _
  decide +kernel
theorem d114_74 (L : Nat) (xs : Nat → Int32) : decode (ax_code (mgT L xs) 114) 74 = .ok (.iadd, 1) := by
  show decode prog_11_method_9_code 74 = _
  decide +kernel
theorem d114_75 (L : Nat) (xs : Nat → Int32) : decode (ax_code (mgT L xs) 114) 75 = .ok (.if_icmp .le 15, 3) := by
  show decode prog_11_method_9_code 75 = _
  decide +kernel
theorem d114_78 (L : Nat) (xs : Nat → Int32) : decode (ax_code (mgT L xs) 114) 78 = .ok (.aload_n 1, 1) := by
  show decode prog_11_method_9_code 78 = _
  decide +kernel
theorem d114_79 (L : Nat) (xs : Nat → Int32) : decode (ax_code (mgT L xs) 114) 79 = .ok (.iload_n 2, 1) := by
  show decode prog_11_method_9_code 79 = _
  decide +kernel
theorem d114_80 (L : Nat) (xs : Nat → Int32) : decode (ax_code (mgT L xs) 114) 80 = .ok (.iaload, 1) := by
  show decode prog_11_method_9_code 80 = _
  decide +kernel
theorem d114_81 (L : Nat) (xs : Nat → Int32) : decode (ax_code (mgT L xs) 114) 81 = .ok (.bipush 48, 2) := by
  show decode prog_11_method_9_code 81 = _
  decide +kernel
theorem d114_83 (L : Nat) (xs : Nat → Int32) : decode (ax_code (mgT L xs) 114) 83 = .ok (.if_icmp .ne 7, 3) := by
  show decode prog_11_method_9_code 83 = _
  decide +kernel
theorem d114_86 (L : Nat) (xs : Nat → Int32) : decode (ax_code (mgT L xs) 114) 86 = .ok (.iconst (-1), 1) := by
  show decode prog_11_method_9_code 86 = _
  decide +kernel
theorem d114_87 (L : Nat) (xs : Nat → Int32) : decode (ax_code (mgT L xs) 114) 87 = .ok (.goto 5, 3) := by
  show decode prog_11_method_9_code 87 = _
  decide +kernel
theorem d114_90 (L : Nat) (xs : Nat → Int32) : decode (ax_code (mgT L xs) 114) 90 = .ok (.iload 6, 2) := by
  show decode prog_11_method_9_code 90 = _
  decide +kernel
theorem d114_92 (L : Nat) (xs : Nat → Int32) : decode (ax_code (mgT L xs) 114) 92 = .ok (.ireturn, 1) := by
  show decode prog_11_method_9_code 92 = _
  decide +kernel
section NUM
variable {L : Nat} {xs : Nat → Int32} {d : Nat} {s : mg_s} {a n : Nat}
theorem tx_num_l {fr to most dg : Nat} (H : isT a) (hn : isTx s a n) (hto : to < 2 ^ 30) (hmo : most < 2 ^ 30) : ∀ (m i v : Nat) (c5 : Option Value), i + m = to → m ≤ 3 → (m = 0 → v < 1000) → (m = 1 → v < 100) → (m = 2 → v < 10) → (m = 3 → v < 1) → wp L xs (d + 1) 41 41 [some (.ref a), some (.int (nI fr)), some (.int (nI to)), some (.int (nI most)), some (.int (nI dg)), some (.int (nI v)), some (.int (nI i)), c5] [] s (fun v2 s' => v2 = some (.int (oI (f_num (t_at s a n) most v i m))) ∧ s = s') := by
  have hlim := tx_m H
  have hn2 := hn.2
  intro m
  induction m with
  | zero =>
    intro i v c5 hi h30 h31 h32 h33 h34
    refine wg_iload (d41_41 L xs) rfl ?_
    refine wg_iload_n (d41_43 L xs) rfl ?_
    refine wn_icmp_ge (d41_44 L xs) (x := i) (y := to) (by omega) (by omega) (t := 90) (by decide) (fun h1 => ?_) (fun h1 => by omega)
    refine wg_iload (d41_90 L xs) rfl ?_
    refine wg_iload_n (d41_92 L xs) rfl ?_
    refine wn_icmp_gt (d41_93 L xs) (x := v) (y := most) (by omega) (by omega) (t := 101) (by decide) (fun h2 => ?_) (fun h2 => ?_)
    · refine wg_iconst (d41_101 L xs) (x := (-1)) (by decide) ?_
      exact wg_iret (d41_102 L xs) rfl rfl ⟨by rw [f_num, if_neg (by omega)]; rfl, rfl⟩
    · refine wg_iload (d41_96 L xs) rfl ?_
      refine wg_goto (d41_98 L xs) (t := 102) (by decide) ?_
      exact wg_iret (d41_102 L xs) rfl rfl ⟨by rw [f_num, if_pos (by omega)]; rfl, rfl⟩
  | succ m ih =>
    intro i v c5 hi h30 h31 h32 h33 h34
    refine wp_ch (fun hch => ?_)
    have hg : ∀ j, t_at s a n j < 65536 := fun j => t_at_lt H hn hch
    have hg0 := hg i
    refine wg_iload (d41_41 L xs) rfl ?_
    refine wg_iload_n (d41_43 L xs) rfl ?_
    refine wn_icmp_ge (d41_44 L xs) (x := i) (y := to) (by omega) (by omega) (t := 90) (by decide) (fun h1 => by omega) (fun h1 => ?_)
    refine wg_aload_n (d41_47 L xs) rfl ?_
    refine wg_iload (d41_48 L xs) rfl ?_
    refine wg_invv (d41_50 L xs) (kd := 7) (mj := 31) (n := 1) rfl (Or.inl rfl) (ys := [.int (nI i)]) (r := []) rfl rfl H.1 (tx_c H) rfl (Nat.le_of_ble_eq_true rfl) (tx_at (i := i) H hn (by omega)) ?_
    rintro _ _ ⟨rfl, rfl⟩
    refine wg_istore (d41_53 L xs) (ls' := [some (.ref a), some (.int (nI fr)), some (.int (nI to)), some (.int (nI most)), some (.int (nI dg)), some (.int (nI v)), some (.int (nI i)), some (.int (nI (t_at s a n i)))]) (Nat.le_of_ble_eq_true rfl) rfl ?_
    refine wg_iload (d41_55 L xs) rfl ?_
    refine wg_bipush (d41_57 L xs) (x := 48) (by decide) ?_
    refine wn_icmp_lt (d41_59 L xs) (x := t_at s a n i) (y := 48) (by omega) (by omega) (t := 69) (by decide) (fun h2 => ?_) (fun h2 => ?_)
    · refine wg_iconst (d41_69 L xs) (x := (-1)) (by decide) ?_
      exact wg_iret (d41_70 L xs) rfl rfl ⟨by rw [f_num, if_neg (by omega)]; rfl, rfl⟩
    · refine wg_iload (d41_62 L xs) rfl ?_
      refine wg_bipush (d41_64 L xs) (x := 57) (by decide) ?_
      refine wn_icmp_le (d41_66 L xs) (x := t_at s a n i) (y := 57) (by omega) (by omega) (t := 71) (by decide) (fun h3 => ?_) (fun h3 => ?_)
      · refine wg_iload (d41_71 L xs) rfl ?_
        refine wg_bipush (d41_73 L xs) (x := 10) (by decide) ?_
        refine wg_imul (d41_75 L xs) ?_
        refine wg_top (y := (nI (v * 10))) (pk_mul v 10) ?_
        refine wg_iload (d41_76 L xs) rfl ?_
        refine wg_bipush (d41_78 L xs) (x := 48) (by decide) ?_
        refine wg_isub (d41_80 L xs) ?_
        refine wg_top (y := (nI ((t_at s a n i) - 48))) (pk_sub (a := t_at s a n i) (b := 48) (by omega)) ?_
        refine wg_iadd (d41_81 L xs) ?_
        refine wg_top (y := (nI ((v * 10) + ((t_at s a n i) - 48)))) (nI_add (v * 10) ((t_at s a n i) - 48)) ?_
        refine wg_istore (d41_82 L xs) (ls' := [some (.ref a), some (.int (nI fr)), some (.int (nI to)), some (.int (nI most)), some (.int (nI dg)), some (.int (nI ((v * 10) + ((t_at s a n i) - 48)))), some (.int (nI i)), some (.int (nI (t_at s a n i)))]) (Nat.le_of_ble_eq_true rfl) rfl ?_
        refine wg_iinc (d41_84 L xs) (y := (nI (i + 1))) (ls' := [some (.ref a), some (.int (nI fr)), some (.int (nI to)), some (.int (nI most)), some (.int (nI dg)), some (.int (nI ((v * 10) + ((t_at s a n i) - 48)))), some (.int (nI (i + 1))), some (.int (nI (t_at s a n i)))]) rfl (nI_add i 1) rfl ?_
        refine wg_goto (d41_87 L xs) (t := 41) (by decide) ?_
        rw [show f_num (t_at s a n) most v i (m + 1) = f_num (t_at s a n) most (v * 10 + (t_at s a n i - 48)) (i + 1) m from if_pos ⟨by omega, by omega⟩]; exact ih (i + 1) _ _ (by omega) (by omega) (by omega) (by omega) (by omega) (by omega)
      · refine wg_iconst (d41_69 L xs) (x := (-1)) (by decide) ?_
        exact wg_iret (d41_70 L xs) rfl rfl ⟨by rw [f_num, if_neg (by omega)]; rfl, rfl⟩
theorem tx_number {fr to most : Nat} (H : isT a) (hn : isTx s a n) (hto : to < 2 ^ 30) (hmo : most < 2 ^ 30) (hf : fr ≤ to) : ca L xs (d + 2) 41 [.ref a, .int (nI fr), .int (nI to), .int (nI most)] s (fun v s' => v = some (.int (oI (t_num (t_at s a n) fr to most))) ∧ s = s') := by
  refine wg_call (Nat.le_of_ble_eq_true rfl) ?_
  have hlim := tx_m H
  have hn2 := hn.2
  refine wp_ch (fun hch => ?_)
  have hg : ∀ j, t_at s a n j < 65536 := fun j => t_at_lt H hn hch
  have hg0 := hg fr
  show wp L xs (d + 1) 41 0 [some (.ref a), some (.int (nI fr)), some (.int (nI to)), some (.int (nI most)), none, none, none, none] [] s _
  refine wg_iload_n (d41_0 L xs) rfl ?_
  refine wg_iload_n (d41_1 L xs) rfl ?_
  refine wg_isub (d41_2 L xs) ?_
  refine wg_top (y := (nI (to - fr))) (pk_sub (a := to) (b := fr) (by omega)) ?_
  refine wg_istore (d41_3 L xs) (ls' := [some (.ref a), some (.int (nI fr)), some (.int (nI to)), some (.int (nI most)), some (.int (nI (to - fr))), none, none, none]) (Nat.le_of_ble_eq_true rfl) rfl ?_
  refine wg_iload (d41_5 L xs) rfl ?_
  refine wg_iconst (d41_7 L xs) (x := 1) (by decide) ?_
  refine wn_icmp_lt (d41_8 L xs) (x := to - fr) (y := 1) (by omega) (by omega) (t := 33) (by decide) (fun h1 => ?_) (fun h1 => ?_)
  · refine wg_iconst (d41_33 L xs) (x := (-1)) (by decide) ?_
    exact wg_iret (d41_34 L xs) rfl rfl ⟨by rw [t_num, if_pos (by omega)]; rfl, rfl⟩
  · refine wg_iload (d41_11 L xs) rfl ?_
    refine wg_iconst (d41_13 L xs) (x := 3) (by decide) ?_
    refine wn_icmp_gt (d41_14 L xs) (x := to - fr) (y := 3) (by omega) (by omega) (t := 33) (by decide) (fun h2 => ?_) (fun h2 => ?_)
    · refine wg_iconst (d41_33 L xs) (x := (-1)) (by decide) ?_
      exact wg_iret (d41_34 L xs) rfl rfl ⟨by rw [t_num, if_pos (by omega)]; rfl, rfl⟩
    · refine wg_iload (d41_17 L xs) rfl ?_
      refine wg_iconst (d41_19 L xs) (x := 1) (by decide) ?_
      refine wn_icmp_le (d41_20 L xs) (x := to - fr) (y := 1) (by omega) (by omega) (t := 35) (by decide) (fun h3 => ?_) (fun h3 => ?_)
      · refine wg_iconst (d41_35 L xs) (x := 0) (by decide) ?_
        refine wg_istore (d41_36 L xs) (ls' := [some (.ref a), some (.int (nI fr)), some (.int (nI to)), some (.int (nI most)), some (.int (nI (to - fr))), some (.int 0), none, none]) (Nat.le_of_ble_eq_true rfl) rfl ?_
        refine wg_iload_n (d41_38 L xs) rfl ?_
        refine wg_istore (d41_39 L xs) (ls' := [some (.ref a), some (.int (nI fr)), some (.int (nI to)), some (.int (nI most)), some (.int (nI (to - fr))), some (.int 0), some (.int (nI fr)), none]) (Nat.le_of_ble_eq_true rfl) rfl ?_
        rw [show t_num (t_at s a n) fr to most = f_num (t_at s a n) most 0 fr (to - fr) from if_neg (by omega)]; exact tx_num_l H hn hto hmo (to - fr) fr 0 none (by omega) (by omega) (by omega) (by omega) (by omega) (by omega)
      · refine wg_aload_n (d41_23 L xs) rfl ?_
        refine wg_iload_n (d41_24 L xs) rfl ?_
        refine wg_invv (d41_25 L xs) (kd := 7) (mj := 31) (n := 1) rfl (Or.inl rfl) (ys := [.int (nI fr)]) (r := []) rfl rfl H.1 (tx_c H) rfl (Nat.le_of_ble_eq_true rfl) (tx_at (i := fr) H hn (by omega)) ?_
        rintro _ _ ⟨rfl, rfl⟩
        refine wg_bipush (d41_28 L xs) (x := 48) (by decide) ?_
        refine wn_icmp_ne (d41_30 L xs) (x := t_at s a n fr) (y := 48) (by omega) (by omega) (t := 35) (by decide) (fun h4 => ?_) (fun h4 => ?_)
        · refine wg_iconst (d41_35 L xs) (x := 0) (by decide) ?_
          refine wg_istore (d41_36 L xs) (ls' := [some (.ref a), some (.int (nI fr)), some (.int (nI to)), some (.int (nI most)), some (.int (nI (to - fr))), some (.int 0), none, none]) (Nat.le_of_ble_eq_true rfl) rfl ?_
          refine wg_iload_n (d41_38 L xs) rfl ?_
          refine wg_istore (d41_39 L xs) (ls' := [some (.ref a), some (.int (nI fr)), some (.int (nI to)), some (.int (nI most)), some (.int (nI (to - fr))), some (.int 0), some (.int (nI fr)), none]) (Nat.le_of_ble_eq_true rfl) rfl ?_
          rw [show t_num (t_at s a n) fr to most = f_num (t_at s a n) most 0 fr (to - fr) from if_neg (by omega)]; exact tx_num_l H hn hto hmo (to - fr) fr 0 none (by omega) (by omega) (by omega) (by omega) (by omega) (by omega)
        · refine wg_iconst (d41_33 L xs) (x := (-1)) (by decide) ?_
          exact wg_iret (d41_34 L xs) rfl rfl ⟨by rw [t_num, if_pos (by omega)]; rfl, rfl⟩
theorem dig_le {c : Nat} (h : c_dig c = true) : 48 ≤ c ∧ c ≤ 57 := by
  unfold c_dig at h
  rw [Bool.and_eq_true] at h
  exact ⟨of_decide_eq_true h.1, of_decide_eq_true h.2⟩
/-- what the reference makes of the digits -/
def r_num (g : Nat → Nat) (fr most : Nat) (p : Nat × Nat) : Option Nat := if p.2 = fr ∨ most < p.1 ∨ (fr + 1 < p.2 ∧ g fr = 48) then none else some p.1
theorem md_num_e {q N fr to most : Nat} {g : Nat → Nat} (Hq : isA q N) (hg : ∀ k, k < to → s.2.1 q k = nI (g k) ∧ g k < 65536) (hto : to ≤ N) (hN : N < 2 ^ 20) (hmo : most < 2 ^ 30) {i v : Nat} (hf : fr ≤ i) (hi : i ≤ to) (h3 : i ≤ fr + 3) (hv : v < 1000) (hft : fr < to ∨ i = fr) : wp L xs (d + 1) 114 51 [some (.ref 141), some (.ref q), some (.int (nI fr)), some (.int (nI to)), some (.int (nI most)), some (.int (nI i)), some (.int (nI v))] [] s (fun v2 s' => v2 = some (.int (oI (r_num g fr most (v, i)))) ∧ mg_I s 141 9 (nI (v, i).2) = s') := by
  have hg0 : fr < to → g fr < 65536 := fun h => (hg fr h).2
  refine wg_aload_n (d114_51 L xs) rfl ?_
  refine wg_iload (d114_52 L xs) rfl ?_
  refine wg_puti (d114_54 L xs) (cj := 9) (k0 := 9) rfl (by decide) rfl (Nat.le_of_ble_eq_true rfl) rfl rfl rfl ?_
  refine wg_iload (d114_57 L xs) rfl ?_
  refine wg_iload_n (d114_59 L xs) rfl ?_
  refine wn_icmp_eq (d114_60 L xs) (x := i) (y := fr) (by omega) (by omega) (t := 86) (by decide) (fun h1 => ?_) (fun h1 => ?_)
  · refine wg_iconst (d114_86 L xs) (x := (-1)) (by decide) ?_
    refine wg_goto (d114_87 L xs) (t := 92) (by decide) ?_
    exact wg_iret (d114_92 L xs) rfl rfl ⟨by rw [r_num, if_pos (by omega)]; rfl, rfl⟩
  · refine wg_iload (d114_63 L xs) rfl ?_
    refine wg_iload (d114_65 L xs) rfl ?_
    refine wn_icmp_gt (d114_67 L xs) (x := v) (y := most) (by omega) (by omega) (t := 86) (by decide) (fun h2 => ?_) (fun h2 => ?_)
    · refine wg_iconst (d114_86 L xs) (x := (-1)) (by decide) ?_
      refine wg_goto (d114_87 L xs) (t := 92) (by decide) ?_
      exact wg_iret (d114_92 L xs) rfl rfl ⟨by rw [r_num, if_pos (by omega)]; rfl, rfl⟩
    · refine wg_iload (d114_70 L xs) rfl ?_
      refine wg_iload_n (d114_72 L xs) rfl ?_
      refine wg_iconst (d114_73 L xs) (x := 1) (by decide) ?_
      refine wg_iadd (d114_74 L xs) ?_
      refine wg_top (y := (nI (fr + 1))) (nI_add fr 1) ?_
      refine wn_icmp_le (d114_75 L xs) (x := i) (y := fr + 1) (by omega) (by omega) (t := 90) (by decide) (fun h3 => ?_) (fun h3 => ?_)
      · refine wg_iload (d114_90 L xs) rfl ?_
        exact wg_iret (d114_92 L xs) rfl rfl ⟨by rw [r_num, if_neg (by omega)]; rfl, rfl⟩
      · refine wg_aload_n (d114_78 L xs) rfl ?_
        refine wg_iload_n (d114_79 L xs) rfl ?_
        refine wg_iald (d114_80 L xs) Hq.1 (ar_d Hq) (vp_in_nI (n := fr) (by omega) (by omega)) ?_
        refine wg_top (y := nI (g fr)) (by rw [nI_nat (by omega)]; exact (hg fr (by omega)).1) ?_
        refine wg_bipush (d114_81 L xs) (x := 48) (by decide) ?_
        refine wn_icmp_ne (d114_83 L xs) (x := g fr) (y := 48) (by omega) (by omega) (t := 90) (by decide) (fun h4 => ?_) (fun h4 => ?_)
        · refine wg_iload (d114_90 L xs) rfl ?_
          exact wg_iret (d114_92 L xs) rfl rfl ⟨by rw [r_num, if_neg (by omega)]; rfl, rfl⟩
        · refine wg_iconst (d114_86 L xs) (x := (-1)) (by decide) ?_
          refine wg_goto (d114_87 L xs) (t := 92) (by decide) ?_
          exact wg_iret (d114_92 L xs) rfl rfl ⟨by rw [r_num, if_pos (by omega)]; rfl, rfl⟩
theorem md_num_l {q N fr to most : Nat} {g : Nat → Nat} (Hq : isA q N) (hg : ∀ k, k < to → s.2.1 q k = nI (g k) ∧ g k < 65536) (hto : to ≤ N) (hN : N < 2 ^ 20) (hmo : most < 2 ^ 30) : ∀ (m i v : Nat), i + m = (if fr + 3 ≤ to then fr + 3 else to) → fr ≤ i → m ≤ 3 → (m = 0 → v < 1000) → (m = 1 → v < 100) → (m = 2 → v < 10) → (m = 3 → v < 1) → (fr < to ∨ i = fr) → wp L xs (d + 1) 114 6 [some (.ref 141), some (.ref q), some (.int (nI fr)), some (.int (nI to)), some (.int (nI most)), some (.int (nI i)), some (.int (nI v))] [] s (fun v2 s' => v2 = some (.int (oI (r_num g fr most (f_digs g v i m)))) ∧ mg_I s 141 9 (nI (f_digs g v i m).2) = s') := by
  intro m
  induction m with
  | zero =>
    intro i v hi hfi h30 h31 h32 h33 h34 hft
    have hi2 : i = fr + 3 ∧ fr + 3 ≤ to ∨ i = to ∧ to < fr + 3 := by split at hi <;> omega
    have fin := md_num_e (L := L) (xs := xs) (d := d) Hq hg hto hN hmo (i := i) (v := v) hfi (by omega) (by omega) (by omega) hft
    refine wg_iload (d114_6 L xs) rfl ?_
    refine wg_iload_n (d114_8 L xs) rfl ?_
    refine wn_icmp_ge (d114_9 L xs) (x := i) (y := to) (by omega) (by omega) (t := 51) (by decide) (fun h1 => ?_) (fun h1 => ?_)
    · exact fin
    · refine wg_iload (d114_12 L xs) rfl ?_
      refine wg_iload_n (d114_14 L xs) rfl ?_
      refine wg_iconst (d114_15 L xs) (x := 3) (by decide) ?_
      refine wg_iadd (d114_16 L xs) ?_
      refine wg_top (y := (nI (fr + 3))) (nI_add fr 3) ?_
      refine wn_icmp_ge (d114_17 L xs) (x := i) (y := fr + 3) (by omega) (by omega) (t := 51) (by decide) (fun h2 => ?_) (fun h2 => by omega)
      exact fin
  | succ m ih =>
    intro i v hi hfi h30 h31 h32 h33 h34 hft
    have hi2 : i < fr + 3 ∧ i < to := by split at hi <;> omega
    have hg0 := (hg i hi2.2).2
    have hb2 := bI_lt (c_dig (g i))
    have fin := md_num_e (L := L) (xs := xs) (d := d) Hq hg hto hN hmo (i := i) (v := v) hfi (by omega) (by omega) (by omega) hft
    refine wg_iload (d114_6 L xs) rfl ?_
    refine wg_iload_n (d114_8 L xs) rfl ?_
    refine wn_icmp_ge (d114_9 L xs) (x := i) (y := to) (by omega) (by omega) (t := 51) (by decide) (fun h1 => by omega) (fun h1 => ?_)
    refine wg_iload (d114_12 L xs) rfl ?_
    refine wg_iload_n (d114_14 L xs) rfl ?_
    refine wg_iconst (d114_15 L xs) (x := 3) (by decide) ?_
    refine wg_iadd (d114_16 L xs) ?_
    refine wg_top (y := (nI (fr + 3))) (nI_add fr 3) ?_
    refine wn_icmp_ge (d114_17 L xs) (x := i) (y := fr + 3) (by omega) (by omega) (t := 51) (by decide) (fun h2 => by omega) (fun h2 => ?_)
    refine wg_aload_n (d114_20 L xs) rfl ?_
    refine wg_iload (d114_21 L xs) rfl ?_
    refine wg_iald (d114_23 L xs) Hq.1 (ar_d Hq) (vp_in_nI (n := i) (by omega) (by omega)) ?_
    refine wg_top (y := nI (g i)) (by rw [nI_nat (by omega)]; exact (hg i (by omega)).1) ?_
    refine wg_invs (d114_24 L xs) (kd := 6) (mj := 112) (n := 1) rfl (Or.inl rfl) (ys := [.int (nI (g i))]) (r := []) rfl rfl (Nat.le_of_ble_eq_true rfl) (md_dig (by omega)) ?_
    rintro _ _ ⟨rfl, rfl⟩
    refine wn_if_eq (d114_27 L xs) (x := bI (c_dig (g i))) (by omega) (t := 51) (by decide) (fun h3 => ?_) (fun h3 => ?_)
    · rw [show f_digs g v i (m + 1) = (v, i) from if_neg (by rw [bI_f (b := c_dig (g i)) (by omega)]; decide)]; exact fin
    · refine wg_bipush (d114_30 L xs) (x := 10) (by decide) ?_
      refine wg_iload (d114_32 L xs) rfl ?_
      refine wg_imul (d114_34 L xs) ?_
      refine wg_top (y := (nI (10 * v))) (pk_mul 10 v) ?_
      refine wg_aload_n (d114_35 L xs) rfl ?_
      refine wg_iload (d114_36 L xs) rfl ?_
      refine wg_iald (d114_38 L xs) Hq.1 (ar_d Hq) (vp_in_nI (n := i) (by omega) (by omega)) ?_
      refine wg_top (y := nI (g i)) (by rw [nI_nat (by omega)]; exact (hg i (by omega)).1) ?_
      refine wg_iadd (d114_39 L xs) ?_
      refine wg_top (y := (nI ((10 * v) + (g i)))) (nI_add (10 * v) (g i)) ?_
      refine wg_bipush (d114_40 L xs) (x := 48) (by decide) ?_
      refine wg_isub (d114_42 L xs) ?_
      refine wg_top (y := (nI (10 * v + g i - 48))) (pk_sub (a := 10 * v + g i) (b := 48) (by have := dig_le (bI_t (b := c_dig (g i)) (by omega)); omega)) ?_
      refine wg_istore (d114_43 L xs) (ls' := [some (.ref 141), some (.ref q), some (.int (nI fr)), some (.int (nI to)), some (.int (nI most)), some (.int (nI i)), some (.int (nI (10 * v + g i - 48)))]) (Nat.le_of_ble_eq_true rfl) rfl ?_
      refine wg_iinc (d114_45 L xs) (y := (nI (i + 1))) (ls' := [some (.ref 141), some (.ref q), some (.int (nI fr)), some (.int (nI to)), some (.int (nI most)), some (.int (nI (i + 1))), some (.int (nI (10 * v + g i - 48)))]) rfl (nI_add i 1) rfl ?_
      refine wg_goto (d114_48 L xs) (t := 6) (by decide) ?_
      have hdl := dig_le (bI_t (b := c_dig (g i)) (by omega)); rw [show f_digs g v i (m + 1) = f_digs g (10 * v + g i - 48) (i + 1) m from if_pos (bI_t (by omega))]; exact ih (i + 1) _ (by omega) (by omega) (by omega) (by omega) (by omega) (by omega) (by omega) (by omega)
theorem md_number {q N fr to most : Nat} {g : Nat → Nat} (Hq : isA q N) (hg : ∀ k, k < to → s.2.1 q k = nI (g k) ∧ g k < 65536) (hto : to ≤ N) (hN : N < 2 ^ 20) (hmo : most < 2 ^ 30) (hf : fr ≤ to) : ca L xs (d + 2) 114 [.ref 141, .ref q, .int (nI fr), .int (nI to), .int (nI most)] s (fun v2 s' => v2 = some (.int (oI (r_num g fr most (f_digs g 0 fr ((if fr + 3 ≤ to then fr + 3 else to) - fr))))) ∧ mg_I s 141 9 (nI (f_digs g 0 fr ((if fr + 3 ≤ to then fr + 3 else to) - fr)).2) = s') := by
  refine wg_call (Nat.le_of_ble_eq_true rfl) ?_
  show wp L xs (d + 1) 114 0 [some (.ref 141), some (.ref q), some (.int (nI fr)), some (.int (nI to)), some (.int (nI most)), none, none] [] s _
  refine wg_iload_n (d114_0 L xs) rfl ?_
  refine wg_istore (d114_1 L xs) (ls' := [some (.ref 141), some (.ref q), some (.int (nI fr)), some (.int (nI to)), some (.int (nI most)), some (.int (nI fr)), none]) (Nat.le_of_ble_eq_true rfl) rfl ?_
  refine wg_iconst (d114_3 L xs) (x := 0) (by decide) ?_
  refine wg_istore (d114_4 L xs) (ls' := [some (.ref 141), some (.ref q), some (.int (nI fr)), some (.int (nI to)), some (.int (nI most)), some (.int (nI fr)), some (.int 0)]) (Nat.le_of_ble_eq_true rfl) rfl ?_
  exact md_num_l Hq hg hto hN hmo _ fr 0 (by split <;> omega) (by omega) (by split <;> omega) (by omega) (by omega) (by omega) (by omega) (Or.inr rfl)
end NUM
