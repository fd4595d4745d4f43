/-! the checker: mails; records, their terms -/
theorem d56_0 (L : Nat) (xs : Nat → Int32) : decode (ax_code (mgT L xs) 56) 0 = .ok (.ldc 122, 2) := by
  show decode prog_2_method_12_code 0 = _
  decide +kernel
theorem d56_2 (L : Nat) (xs : Nat → Int32) : decode (ax_code (mgT L xs) 56) 2 = .ok (.invokevirtual 124, 3) := by
  show decode prog_2_method_12_code 2 = _
  decide +kernel
theorem d56_5 (L : Nat) (xs : Nat → Int32) : decode (ax_code (mgT L xs) 56) 5 = .ok (.istore_n 1, 1) := by
  show decode prog_2_method_12_code 5 = _
  decide +kernel
theorem d56_6 (L : Nat) (xs : Nat → Int32) : decode (ax_code (mgT L xs) 56) 6 = .ok (.aload_n 0, 1) := by
  show decode prog_2_method_12_code 6 = _
  decide +kernel
theorem d56_7 (L : Nat) (xs : Nat → Int32) : decode (ax_code (mgT L xs) 56) 7 = .ok (.iconst 0, 1) := by
  show decode prog_2_method_12_code 7 = _
  decide +kernel
theorem d56_8 (L : Nat) (xs : Nat → Int32) : decode (ax_code (mgT L xs) 56) 8 = .ok (.iload_n 1, 1) := by
  show decode prog_2_method_12_code 8 = _
  decide +kernel
theorem d56_9 (L : Nat) (xs : Nat → Int32) : decode (ax_code (mgT L xs) 56) 9 = .ok (.aload_n 0, 1) := by
  show decode prog_2_method_12_code 9 = _
  decide +kernel
theorem d56_10 (L : Nat) (xs : Nat → Int32) : decode (ax_code (mgT L xs) 56) 10 = .ok (.invokevirtual 70, 3) := by
  show decode prog_2_method_12_code 10 = _
  decide +kernel
theorem d56_13 (L : Nat) (xs : Nat → Int32) : decode (ax_code (mgT L xs) 56) 13 = .ok (.invokestatic 129, 3) := by
  show decode prog_2_method_12_code 13 = _
  decide +kernel
theorem d56_16 (L : Nat) (xs : Nat → Int32) : decode (ax_code (mgT L xs) 56) 16 = .ok (.ldc 122, 2) := by
  show decode prog_2_method_12_code 16 = _
  decide +kernel
theorem d56_18 (L : Nat) (xs : Nat → Int32) : decode (ax_code (mgT L xs) 56) 18 = .ok (.invokevirtual 135, 3) := by
  show decode prog_2_method_12_code 18 = _
  decide +kernel
theorem d56_21 (L : Nat) (xs : Nat → Int32) : decode (ax_code (mgT L xs) 56) 21 = .ok (.ifCond .eq 25, 3) := by
  show decode prog_2_method_12_code 21 = _
  decide +kernel
theorem d56_24 (L : Nat) (xs : Nat → Int32) : decode (ax_code (mgT L xs) 56) 24 = .ok (.aload_n 0, 1) := by
  show decode prog_2_method_12_code 24 = _
  decide +kernel
theorem d56_25 (L : Nat) (xs : Nat → Int32) : decode (ax_code (mgT L xs) 56) 25 = .ok (.invokevirtual 70, 3) := by
  show decode prog_2_method_12_code 25 = _
  decide +kernel
theorem d56_28 (L : Nat) (xs : Nat → Int32) : decode (ax_code (mgT L xs) 56) 28 = .ok (.iload_n 1, 1) := by
  show decode prog_2_method_12_code 28 = _
  decide +kernel
theorem d56_29 (L : Nat) (xs : Nat → Int32) : decode (ax_code (mgT L xs) 56) 29 = .ok (.if_icmp .eq 13, 3) := by
  show decode prog_2_method_12_code 29 = _
  decide +kernel
theorem d56_32 (L : Nat) (xs : Nat → Int32) : decode (ax_code (mgT L xs) 56) 32 = .ok (.aload_n 0, 1) := by
  show decode prog_2_method_12_code 32 = _
  decide +kernel
theorem d56_33 (L : Nat) (xs : Nat → Int32) : decode (ax_code (mgT L xs) 56) 33 = .ok (.iload_n 1, 1) := by
  show decode prog_2_method_12_code 33 = _
  decide +kernel
theorem d56_34 (L : Nat) (xs : Nat → Int32) : decode (ax_code (mgT L xs) 56) 34 = .ok (.invokevirtual 139, 3) := by
  show decode prog_2_method_12_code 34 = _
  decide +kernel
theorem d56_37 (L : Nat) (xs : Nat → Int32) : decode (ax_code (mgT L xs) 56) 37 = .ok (.bipush 32, 2) := by
  show decode prog_2_method_12_code 37 = _
  decide +kernel
theorem d56_39 (L : Nat) (xs : Nat → Int32) : decode (ax_code (mgT L xs) 56) 39 = .ok (.if_icmp .ne 7, 3) := by
  show decode prog_2_method_12_code 39 = _
  decide +kernel
theorem d56_42 (L : Nat) (xs : Nat → Int32) : decode (ax_code (mgT L xs) 56) 42 = .ok (.iconst 1, 1) := by
  show decode prog_2_method_12_code 42 = _
  decide +kernel
theorem d56_43 (L : Nat) (xs : Nat → Int32) : decode (ax_code (mgT L xs) 56) 43 = .ok (.goto 4, 3) := by
  show decode prog_2_method_12_code 43 = _
  decide +kernel
theorem d56_46 (L : Nat) (xs : Nat → Int32) : decode (ax_code (mgT L xs) 56) 46 = .ok (.iconst 0, 1) := by
  show decode prog_2_method_12_code 46 = _
  decide +kernel
theorem d56_47 (L : Nat) (xs : Nat → Int32) : decode (ax_code (mgT L xs) 56) 47 = .ok (.ireturn, 1) := by
  show decode prog_2_method_12_code 47 = _
  decide +kernel
theorem d83_0 (L : Nat) (xs : Nat → Int32) : decode (ax_code (mgT L xs) 83) 0 = .ok (.aload_n 0, 1) := by
  show decode prog_2_method_22_code 0 = _
  decide +kernel
theorem d83_1 (L : Nat) (xs : Nat → Int32) : decode (ax_code (mgT L xs) 83) 1 = .ok (.aload_n 0, 1) := by
  show decode prog_2_method_22_code 1 = _
  decide +kernel
theorem d83_2 (L : Nat) (xs : Nat → Int32) : decode (ax_code (mgT L xs) 83) 2 = .ok (.getfield 33, 3) := by
  show decode prog_2_method_22_code 2 = _
  decide +kernel
theorem d83_5 (L : Nat) (xs : Nat → Int32) : decode (ax_code (mgT L xs) 83) 5 = .ok (.aload_n 1, 1) := by
  show decode prog_2_method_22_code 5 = _
  decide +kernel
theorem d83_6 (L : Nat) (xs : Nat → Int32) : decode (ax_code (mgT L xs) 83) 6 = .ok (.iconst 1, 1) := by
  show decode prog_2_method_22_code 6 = _
  decide +kernel
theorem d83_7 (L : Nat) (xs : Nat → Int32) : decode (ax_code (mgT L xs) 83) 7 = .ok (.invokevirtual 87, 3) := by
  show decode prog_2_method_22_code 7 = _
  decide +kernel
theorem d83_10 (L : Nat) (xs : Nat → Int32) : decode (ax_code (mgT L xs) 83) 10 = .ok (.invokevirtual 203, 3) := by
  show decode prog_2_method_22_code 10 = _
  decide +kernel
theorem d83_13 (L : Nat) (xs : Nat → Int32) : decode (ax_code (mgT L xs) 83) 13 = .ok (.istore_n 3, 1) := by
  show decode prog_2_method_22_code 13 = _
  decide +kernel
theorem d83_14 (L : Nat) (xs : Nat → Int32) : decode (ax_code (mgT L xs) 83) 14 = .ok (.iload_n 3, 1) := by
  show decode prog_2_method_22_code 14 = _
  decide +kernel
theorem d83_15 (L : Nat) (xs : Nat → Int32) : decode (ax_code (mgT L xs) 83) 15 = .ok (.iconst 1, 1) := by
  show decode prog_2_method_22_code 15 = _
  decide +kernel
theorem d83_16 (L : Nat) (xs : Nat → Int32) : decode (ax_code (mgT L xs) 83) 16 = .ok (.if_icmp .eq 5, 3) := by
  show decode prog_2_method_22_code 16 = _
  decide +kernel
theorem d83_19 (L : Nat) (xs : Nat → Int32) : decode (ax_code (mgT L xs) 83) 19 = .ok (.iload_n 3, 1) := by
  show decode prog_2_method_22_code 19 = _
  decide +kernel
theorem d83_20 (L : Nat) (xs : Nat → Int32) : decode (ax_code (mgT L xs) 83) 20 = .ok (.ireturn, 1) := by
  show decode prog_2_method_22_code 20 = _
  decide +kernel
theorem d83_21 (L : Nat) (xs : Nat → Int32) : decode (ax_code (mgT L xs) 83) 21 = .ok (.iconst 0, 1) := by
  show decode prog_2_method_22_code 21 = _
  decide +kernel
theorem d83_22 (L : Nat) (xs : Nat → Int32) : decode (ax_code (mgT L xs) 83) 22 = .ok (.istore 4, 2) := by
  show decode prog_2_method_22_code 22 = _
  decide +kernel
theorem d83_24 (L : Nat) (xs : Nat → Int32) : decode (ax_code (mgT L xs) 83) 24 = .ok (.iconst 0, 1) := by
  show decode prog_2_method_22_code 24 = _
  decide +kernel
theorem d83_25 (L : Nat) (xs : Nat → Int32) : decode (ax_code (mgT L xs) 83) 25 = .ok (.istore 5, 2) := by
  show decode prog_2_method_22_code 25 = _
  decide +kernel
theorem d83_27 (L : Nat) (xs : Nat → Int32) : decode (ax_code (mgT L xs) 83) 27 = .ok (.iload 5, 2) := by
  show decode prog_2_method_22_code 27 = _
  decide +kernel
theorem d83_29 (L : Nat) (xs : Nat → Int32) : decode (ax_code (mgT L xs) 83) 29 = .ok (.aload_n 0, 1) := by
  show decode prog_2_method_22_code 29 = _
  decide +kernel
theorem d83_30 (L : Nat) (xs : Nat → Int32) : decode (ax_code (mgT L xs) 83) 30 = .ok (.getfield 33, 3) := by
  show decode prog_2_method_22_code 30 = _
  decide +kernel
theorem d83_33 (L : Nat) (xs : Nat → Int32) : decode (ax_code (mgT L xs) 83) 33 = .ok (.invokevirtual 91, 3) := by
  show decode prog_2_method_22_code 33 = _
  decide +kernel
theorem d83_36 (L : Nat) (xs : Nat → Int32) : decode (ax_code (mgT L xs) 83) 36 = .ok (.if_icmp .ge 65, 3) := by
  show decode prog_2_method_22_code 36 = _
  decide +kernel
theorem d83_39 (L : Nat) (xs : Nat → Int32) : decode (ax_code (mgT L xs) 83) 39 = .ok (.iload 4, 2) := by
  show decode prog_2_method_22_code 39 = _
  decide +kernel
theorem d83_41 (L : Nat) (xs : Nat → Int32) : decode (ax_code (mgT L xs) 83) 41 = .ok (.bipush 10, 2) := by
  show decode prog_2_method_22_code 41 = _
  decide +kernel
theorem d83_43 (L : Nat) (xs : Nat → Int32) : decode (ax_code (mgT L xs) 83) 43 = .ok (.if_icmp .ge 58, 3) := by
  show decode prog_2_method_22_code 43 = _
  decide +kernel
theorem d83_46 (L : Nat) (xs : Nat → Int32) : decode (ax_code (mgT L xs) 83) 46 = .ok (.aload_n 0, 1) := by
  show decode prog_2_method_22_code 46 = _
  decide +kernel
theorem d83_47 (L : Nat) (xs : Nat → Int32) : decode (ax_code (mgT L xs) 83) 47 = .ok (.getfield 33, 3) := by
  show decode prog_2_method_22_code 47 = _
  decide +kernel
theorem d83_50 (L : Nat) (xs : Nat → Int32) : decode (ax_code (mgT L xs) 83) 50 = .ok (.iload 5, 2) := by
  show decode prog_2_method_22_code 50 = _
  decide +kernel
theorem d83_52 (L : Nat) (xs : Nat → Int32) : decode (ax_code (mgT L xs) 83) 52 = .ok (.invokevirtual 94, 3) := by
  show decode prog_2_method_22_code 52 = _
  decide +kernel
theorem d83_55 (L : Nat) (xs : Nat → Int32) : decode (ax_code (mgT L xs) 83) 55 = .ok (.astore 6, 2) := by
  show decode prog_2_method_22_code 55 = _
  decide +kernel
theorem d83_57 (L : Nat) (xs : Nat → Int32) : decode (ax_code (mgT L xs) 83) 57 = .ok (.aload 6, 2) := by
  show decode prog_2_method_22_code 57 = _
  decide +kernel
theorem d83_59 (L : Nat) (xs : Nat → Int32) : decode (ax_code (mgT L xs) 83) 59 = .ok (.ifnull 36, 3) := by
  show decode prog_2_method_22_code 59 = _
  decide +kernel
theorem d83_62 (L : Nat) (xs : Nat → Int32) : decode (ax_code (mgT L xs) 83) 62 = .ok (.aload 6, 2) := by
  show decode prog_2_method_22_code 62 = _
  decide +kernel
theorem d83_64 (L : Nat) (xs : Nat → Int32) : decode (ax_code (mgT L xs) 83) 64 = .ok (.iconst 1, 1) := by
  show decode prog_2_method_22_code 64 = _
  decide +kernel
theorem d83_65 (L : Nat) (xs : Nat → Int32) : decode (ax_code (mgT L xs) 83) 65 = .ok (.aload_n 1, 1) := by
  show decode prog_2_method_22_code 65 = _
  decide +kernel
theorem d83_66 (L : Nat) (xs : Nat → Int32) : decode (ax_code (mgT L xs) 83) 66 = .ok (.invokevirtual 98, 3) := by
  show decode prog_2_method_22_code 66 = _
  decide +kernel
theorem d83_69 (L : Nat) (xs : Nat → Int32) : decode (ax_code (mgT L xs) 83) 69 = .ok (.ifCond .eq 26, 3) := by
  show decode prog_2_method_22_code 69 = _
  decide +kernel
theorem d83_72 (L : Nat) (xs : Nat → Int32) : decode (ax_code (mgT L xs) 83) 72 = .ok (.iinc 4 1, 3) := by
  show decode prog_2_method_22_code 72 = _
  decide +kernel
theorem d83_75 (L : Nat) (xs : Nat → Int32) : decode (ax_code (mgT L xs) 83) 75 = .ok (.aload_n 0, 1) := by
  show decode prog_2_method_22_code 75 = _
  decide +kernel
theorem d83_76 (L : Nat) (xs : Nat → Int32) : decode (ax_code (mgT L xs) 83) 76 = .ok (.aload 6, 2) := by
  show decode prog_2_method_22_code 76 = _
  decide +kernel
theorem d83_78 (L : Nat) (xs : Nat → Int32) : decode (ax_code (mgT L xs) 83) 78 = .ok (.getfield 104, 3) := by
  show decode prog_2_method_22_code 78 = _
  decide +kernel
theorem d83_81 (L : Nat) (xs : Nat → Int32) : decode (ax_code (mgT L xs) 83) 81 = .ok (.iload_n 2, 1) := by
  show decode prog_2_method_22_code 81 = _
  decide +kernel
theorem d83_82 (L : Nat) (xs : Nat → Int32) : decode (ax_code (mgT L xs) 83) 82 = .ok (.invokevirtual 197, 3) := by
  show decode prog_2_method_22_code 82 = _
  decide +kernel
theorem d83_85 (L : Nat) (xs : Nat → Int32) : decode (ax_code (mgT L xs) 83) 85 = .ok (.istore 7, 2) := by
  show decode prog_2_method_22_code 85 = _
  decide +kernel
theorem d83_87 (L : Nat) (xs : Nat → Int32) : decode (ax_code (mgT L xs) 83) 87 = .ok (.iload 7, 2) := by
  show decode prog_2_method_22_code 87 = _
  decide +kernel
theorem d83_89 (L : Nat) (xs : Nat → Int32) : decode (ax_code (mgT L xs) 83) 89 = .ok (.ifCond .eq 6, 3) := by
  show decode prog_2_method_22_code 89 = _
  decide +kernel
theorem d83_92 (L : Nat) (xs : Nat → Int32) : decode (ax_code (mgT L xs) 83) 92 = .ok (.iload 7, 2) := by
  show decode prog_2_method_22_code 92 = _
  decide +kernel
theorem d83_94 (L : Nat) (xs : Nat → Int32) : decode (ax_code (mgT L xs) 83) 94 = .ok (.ireturn, 1) := by
  show decode prog_2_method_22_code 94 = _
  decide +kernel
theorem d83_95 (L : Nat) (xs : Nat → Int32) : decode (ax_code (mgT L xs) 83) 95 = .ok (.iinc 5 1, 3) := by
  show decode prog_2_method_22_code 95 = _
  decide +kernel
theorem d83_98 (L : Nat) (xs : Nat → Int32) : decode (ax_code (mgT L xs) 83) 98 = .ok (.goto (-71), 3) := by
  show decode prog_2_method_22_code 98 = _
  decide +kernel
theorem d83_101 (L : Nat) (xs : Nat → Int32) : decode (ax_code (mgT L xs) 83) 101 = .ok (.iconst 0, 1) := by
  show decode prog_2_method_22_code 101 = _
  decide +kernel
theorem d83_102 (L : Nat) (xs : Nat → Int32) : decode (ax_code (mgT L xs) 83) 102 = .ok (.ireturn, 1) := by
  show decode prog_2_method_22_code 102 = _
  decide +kernel
/-- from s to s' the asked name has been set, and the number of void askings -/
def ckh (s s' : mg_s) (as : List Nat) (v : Nat) : Prop := ∃ s1, tset s 5 as s1 ∧ mg_I s1 87 7 (nI v) = s'
theorem ckh.i {s s' : mg_s} {as : List Nat} {v a : Nat} (h : ckh s s' as v) (h5 : ¬ a = 5) (h87 : ¬ a = 87) : s'.1 a = s.1 a := by
  obtain ⟨s1, h1, rfl⟩ := h
  rw [mg_I_oth h87]; exact h1.i h5
theorem ckh.k {s s' : mg_s} {as : List Nat} {v k : Nat} (h : ckh s s' as v) (hk : ¬ k = 7) : s'.1 87 k = s.1 87 k := by
  obtain ⟨s1, h1, rfl⟩ := h
  rw [mg_I_own, upd_ne _ _ hk, h1.i (by decide)]
theorem ckh.v {s s' : mg_s} {as : List Nat} {v : Nat} (h : ckh s s' as v) : s'.1 87 7 = nI v := by
  obtain ⟨s1, h1, rfl⟩ := h
  rw [mg_I_own]; rfl
theorem ckh.a {s s' : mg_s} {as : List Nat} {v a : Nat} (h : ckh s s' as v) (h6 : ¬ a = 6) : s'.2.1 a = s.2.1 a := by
  obtain ⟨s1, h1, rfl⟩ := h
  exact h1.a h6
theorem ckh.r {s s' : mg_s} {as : List Nat} {v : Nat} (h : ckh s s' as v) : s'.2.2 = s.2.2 := by
  obtain ⟨s1, h1, rfl⟩ := h
  exact h1.r
theorem ckh.has {s s' : mg_s} {as : List Nat} {v : Nat} (h : ckh s s' as v) : hold s' 5 as := by
  obtain ⟨s1, h1, rfl⟩ := h
  exact hold_I h1.has (by decide)
theorem ckh.other {s s' : mg_s} {as m : List Nat} {v b : Nat} (h : ckh s s' as v) (h5 : ¬ b = 5) (h87 : ¬ b = 87) (hm : hold s b m) : hold s' b m := hold_of hm (h.i h5 h87) (h.a (by omega))
theorem ckh.tab {s s' : mg_s} {as : List Nat} {v : Nat} {p : Nat → Nat} {R : List rowT} (h : ckh s s' as v) (T : isTab s p R) : isTab s' p R := isTab_of T (h.i (by decide) (by decide)) (fun a h1 h2 => ⟨h.i (by omega) (by omega), h.a (by omega)⟩) (by rw [h.r])
theorem ckh.trans {s s1 s2 : mg_s} {as as' : List Nat} {v v' : Nat} (h : ckh s s1 as v) (k : ckh s1 s2 as' v') : ckh s s2 as' v' := by
  obtain ⟨t1, ⟨f, rfl, -⟩, rfl⟩ := h
  obtain ⟨t2, ⟨g, rfl, g1⟩, rfl⟩ := k
  refine ⟨mg_T s 5 g as'.length, ⟨g, rfl, g1⟩, ?_⟩
  refine mg_T_ext ?_ ?_ rfl
  · funext b
    show (if b = 87 then upd (if b = 5 then upd (s.1 b) 1 (nI as'.length) else s.1 b) 7 (nI v') else if b = 5 then upd (s.1 b) 1 (nI as'.length) else s.1 b) = (if b = 87 then upd (if b = 5 then upd (if b = 87 then upd (if b = 5 then upd (s.1 b) 1 (nI as.length) else s.1 b) 7 (nI v) else if b = 5 then upd (s.1 b) 1 (nI as.length) else s.1 b) 1 (nI as'.length) else if b = 87 then upd (if b = 5 then upd (s.1 b) 1 (nI as.length) else s.1 b) 7 (nI v) else if b = 5 then upd (s.1 b) 1 (nI as.length) else s.1 b) 7 (nI v') else if b = 5 then upd (if b = 87 then upd (if b = 5 then upd (s.1 b) 1 (nI as.length) else s.1 b) 7 (nI v) else if b = 5 then upd (s.1 b) 1 (nI as.length) else s.1 b) 1 (nI as'.length) else if b = 87 then upd (if b = 5 then upd (s.1 b) 1 (nI as.length) else s.1 b) 7 (nI v) else if b = 5 then upd (s.1 b) 1 (nI as.length) else s.1 b)
    by_cases e : b = 87
    · subst e
      simp only [if_true, show ¬ (87 = 5) by decide, if_false]
      funext j
      unfold upd
      by_cases ej : j = 7
      · rw [if_pos ej, if_pos ej]
      · rw [if_neg ej, if_neg ej, if_neg ej]
    · by_cases e5 : b = 5
      · subst e5
        simp only [if_true, show ¬ (5 = 87) by decide, if_false]
        funext j
        unfold upd
        by_cases ej : j = 1
        · rw [if_pos ej, if_pos ej]
        · rw [if_neg ej, if_neg ej, if_neg ej]
      · simp only [if_neg e, if_neg e5]
  · funext b
    show (if b = 5 + 1 then g else s.2.1 b) = (if b = 5 + 1 then g else if b = 5 + 1 then f else s.2.1 b)
    by_cases e : b = 5 + 1
    · rw [if_pos e, if_pos e]
    · rw [if_neg e, if_neg e, if_neg e]
def f_mail (R : List rowT) (adr : Int32) (m : List Nat) (bits : Nat) : List rowT → Nat → Nat → List Nat → Nat × Nat × List Nat
  | [], _, v, as => (0, v, as)
  | q :: Rs, t, v, as => if 10 ≤ t then (0, v, as) else if q.1 = 1 ∧ q.2.1 = m then (if (x_host R adr q.2.2.1 bits v).1 = 0 then f_mail R adr m bits Rs (t + 1) (x_host R adr q.2.2.1 bits v).2 q.2.2.1 else ((x_host R adr q.2.2.1 bits v).1, (x_host R adr q.2.2.1 bits v).2, q.2.2.1)) else f_mail R adr m bits Rs t v as
def x_mail (R : List rowT) (adr : Int32) (m : List Nat) (bits v : Nat) : Nat × Nat × List Nat := if (v_cnt (f_ask m 1 R 0) v).1 = 1 then f_mail R adr m bits R 0 (v_cnt (f_ask m 1 R 0) v).2 m else ((v_cnt (f_ask m 1 R 0) v).1, (v_cnt (f_ask m 1 R 0) v).2, m)
theorem f_mail_10 {R : List rowT} {adr : Int32} {m : List Nat} {bits t v : Nat} {as : List Nat} (h : 10 ≤ t) : ∀ Rs, f_mail R adr m bits Rs t v as = (0, v, as) := by
  intro Rs
  cases Rs with
  | nil => rfl
  | cons q Rs => rw [f_mail, if_pos h]
section CM
variable {L : Nat} {xs : Nat → Int32} {d a b r : Nat} {p : Nat → Nat} {R : List rowT} {l m : List Nat}
theorem ck_mail_l {bits : Nat} {adr : Int32} (Hb : isT b) (hb5 : ¬ b = 5) (hb87 : ¬ b = 87) (hbits : bits ≤ 32) (hok : ∀ q ∈ R, okrow q) : ∀ (Rs : List rowT) (k t v : Nat) (as : List Nat) (c6 c7 : Option Value) (s : mg_s), R.drop k = Rs → k ≤ R.length → t ≤ k → v + Rs.length < 1000 → isTab s p R → hold s b m → s.1 87 4 = adr → s.1 87 7 = nI v → hold s 5 as → wp L xs (d + 3) 83 27 [some (.ref 87), some (.ref b), some (.int (nI bits)), some (.int 1), some (.int (nI t)), some (.int (nI k)), c6, c7] [] s (fun v' s' => v' = some (.int (nI (f_mail R adr m bits Rs t v as).1)) ∧ ckh s s' (f_mail R adr m bits Rs t v as).2.2 (f_mail R adr m bits Rs t v as).2.1) := by
  intro Rs
  induction Rs with
  | nil =>
    intro k t v as c6 c7 s hk hkl htk hvr T hm ha hv has
    have hR16 := T.2.1
    have hkl2 : R.length ≤ k := List.drop_eq_nil_iff.mp hk
    have hrf : ckh s s as v := ⟨s, ⟨s.2.1 6, mg_T_self has.1.1, has.1.2, has.2.1, has.2.2⟩, mg_I_self hv⟩
    refine wg_iload (d83_27 L xs) rfl ?_
    refine wg_aload_n (d83_29 L xs) rfl ?_
    refine wg_get (d83_30 L xs) (kd := 1) (cj := 6) (k0 := 0) rfl (Or.inl rfl) (by decide) rfl rfl ?_
    refine wg_invv (d83_33 L xs) (kd := 7) (mj := 33) (n := 0) rfl (Or.inl rfl) (ys := []) (r := [.int (nI k)]) rfl rfl (by decide) rfl rfl (Nat.le_of_ble_eq_true rfl) tb_count ?_
    rintro _ _ ⟨rfl, rfl⟩
    refine wg_top (y := nI R.length) T.1 ?_
    refine wn_icmp_ge (d83_36 L xs) (x := k) (y := R.length) (by omega) (by omega) (t := 101) (by decide) (fun h1 => ?_) (fun h1 => by omega)
    refine wg_iconst (d83_101 L xs) (x := 0) (by decide) ?_
    exact wg_iret (d83_102 L xs) rfl rfl ⟨rfl, hrf⟩
  | cons q Rs ih =>
    intro k t v as c6 c7 s hk hkl htk hvr T hm ha hv has
    have hR16 := T.2.1
    rw [List.length_cons] at hvr
    obtain ⟨hk1, hk2, hk3⟩ := drop_cons hk
    have hq := T.2.2.2.2 k q hk1
    have hb1 := bI_lt (decide (q.1 = 1) && decide (q.2.1 = m))
    have hpk := rw_lt (T.2.2.1 k (by omega)).2
    have hxl := x_host_le R adr q.2.2.1 bits v
    have hrf : ckh s s as v := ⟨s, ⟨s.2.1 6, mg_T_self has.1.1, has.1.2, has.2.1, has.2.2⟩, mg_I_self hv⟩
    refine wg_iload (d83_27 L xs) rfl ?_
    refine wg_aload_n (d83_29 L xs) rfl ?_
    refine wg_get (d83_30 L xs) (kd := 1) (cj := 6) (k0 := 0) rfl (Or.inl rfl) (by decide) rfl rfl ?_
    refine wg_invv (d83_33 L xs) (kd := 7) (mj := 33) (n := 0) rfl (Or.inl rfl) (ys := []) (r := [.int (nI k)]) rfl rfl (by decide) rfl rfl (Nat.le_of_ble_eq_true rfl) tb_count ?_
    rintro _ _ ⟨rfl, rfl⟩
    refine wg_top (y := nI R.length) T.1 ?_
    refine wn_icmp_ge (d83_36 L xs) (x := k) (y := R.length) (by omega) (by omega) (t := 101) (by decide) (fun h1 => by omega) (fun h1 => ?_)
    refine wg_iload (d83_39 L xs) rfl ?_
    refine wg_bipush (d83_41 L xs) (x := 10) (by decide) ?_
    refine wn_icmp_ge (d83_43 L xs) (x := t) (y := 10) (by omega) (by omega) (t := 101) (by decide) (fun h2 => ?_) (fun h2 => ?_)
    · refine wg_iconst (d83_101 L xs) (x := 0) (by decide) ?_
      exact wg_iret (d83_102 L xs) rfl rfl ⟨by rw [f_mail, if_pos (by omega)]; rfl, by rw [f_mail, if_pos (by omega)]; exact hrf⟩
    · refine wg_aload_n (d83_46 L xs) rfl ?_
      refine wg_get (d83_47 L xs) (kd := 1) (cj := 6) (k0 := 0) rfl (Or.inl rfl) (by decide) rfl rfl ?_
      refine wg_iload (d83_50 L xs) rfl ?_
      refine wg_invv (d83_52 L xs) (kd := 7) (mj := 34) (n := 1) rfl (Or.inl rfl) (ys := [.int (nI k)]) (r := []) rfl rfl (by decide) rfl rfl (Nat.le_of_ble_eq_true rfl) (tb_at T hk2) ?_
      rintro _ _ ⟨rfl, rfl⟩
      refine wg_astore (d83_55 L xs) (ls' := [some (.ref 87), some (.ref b), some (.int (nI bits)), some (.int 1), some (.int (nI t)), some (.int (nI k)), some (.ref (p k)), c7]) (Nat.le_of_ble_eq_true rfl) rfl ?_
      refine wg_aload (d83_57 L xs) rfl ?_
      refine wg_ifnull (d83_59 L xs) ?_
      refine wg_aload (d83_62 L xs) rfl ?_
      refine wg_iconst (d83_64 L xs) (x := 1) (by decide) ?_
      refine wg_aload_n (d83_65 L xs) rfl ?_
      refine wg_invv (d83_66 L xs) (kd := 7) (mj := 55) (n := 2) rfl (Or.inl rfl) (ys := [.ref b, .int 1]) (r := []) rfl rfl (T.2.2.1 k (by omega)).2.1 (rw_c (T.2.2.1 k (by omega)).2) rfl (Nat.le_of_ble_eq_true rfl) (rw_is (kd := 1) (T.2.2.1 k (by omega)).2 hq Hb hm (by decide)) ?_
      rintro _ _ ⟨rfl, rfl⟩
      refine wn_if_eq (d83_69 L xs) (x := bI (decide (q.1 = 1) && decide (q.2.1 = m))) (by omega) (t := 95) (by decide) (fun h3 => ?_) (fun h3 => ?_)
      · refine wg_iinc (d83_95 L xs) (y := (nI (k + 1))) (ls' := [some (.ref 87), some (.ref b), some (.int (nI bits)), some (.int 1), some (.int (nI t)), some (.int (nI (k + 1))), some (.ref (p k)), c7]) rfl (nI_add k 1) rfl ?_
        refine wg_goto (d83_98 L xs) (t := 27) (by decide) ?_
        have hno : ¬ (q.1 = 1 ∧ q.2.1 = m) := fun e => by have h9 := bI_f (b := decide (q.1 = 1) && decide (q.2.1 = m)) (by omega); rw [decide_eq_true e.1, decide_eq_true e.2] at h9; cases h9
        rw [f_mail, if_neg (by omega), if_neg hno]
        exact ih (k + 1) t v as _ _ s hk3 (by omega) (by omega) (by omega) T hm ha hv has
      · have hyes : q.1 = 1 ∧ q.2.1 = m := by
          have h9 := bI_t (b := decide (q.1 = 1) && decide (q.2.1 = m)) (by omega)
          rw [Bool.and_eq_true, decide_eq_true_eq, decide_eq_true_eq] at h9
          exact h9
        have hdl : q.2.2.1.length ≤ 55 := by have h9 := t_name_len ((hok q (List.mem_of_getElem? hk1)).2.2.2.2.1 hyes.1); omega
        refine wg_iinc (d83_72 L xs) (y := (nI (t + 1))) (ls' := [some (.ref 87), some (.ref b), some (.int (nI bits)), some (.int 1), some (.int (nI (t + 1))), some (.int (nI k)), some (.ref (p k)), c7]) rfl (nI_add t 1) rfl ?_
        refine wg_aload_n (d83_75 L xs) rfl ?_
        refine wg_aload (d83_76 L xs) rfl ?_
        refine wg_get (d83_78 L xs) (kd := 2) (cj := 2) (k0 := 2) rfl (Or.inr rfl) (T.2.2.1 k (by omega)).2.1 (rw_c (T.2.2.1 k (by omega)).2) rfl ?_
        refine wg_iload_n (d83_81 L xs) rfl ?_
        refine wg_invv (d83_82 L xs) (kd := 7) (mj := 81) (n := 2) rfl (Or.inl rfl) (ys := [.int (nI bits), .ref (p k + 3)]) (r := []) rfl rfl (by decide) rfl rfl (Nat.le_of_ble_eq_true rfl) (ck_host T (rw_d (T.2.2.1 k (by omega)).2) hq.2.2.2.1 (by omega) (by omega) hdl ha hv (by omega) hbits) ?_
        rintro _ s1 ⟨rfl, e1⟩
        have e1 : ckh s s1 q.2.2.1 (x_host R adr q.2.2.1 bits v).2 := e1
        refine wg_istore (d83_85 L xs) (ls' := [some (.ref 87), some (.ref b), some (.int (nI bits)), some (.int 1), some (.int (nI (t + 1))), some (.int (nI k)), some (.ref (p k)), some (.int (nI ((x_host R adr q.2.2.1 bits v).1)))]) (Nat.le_of_ble_eq_true rfl) rfl ?_
        refine wg_iload (d83_87 L xs) rfl ?_
        refine wn_if_eq (d83_89 L xs) (x := (x_host R adr q.2.2.1 bits v).1) (by omega) (t := 95) (by decide) (fun h4 => ?_) (fun h4 => ?_)
        · refine wg_iinc (d83_95 L xs) (y := (nI (k + 1))) (ls' := [some (.ref 87), some (.ref b), some (.int (nI bits)), some (.int 1), some (.int (nI (t + 1))), some (.int (nI (k + 1))), some (.ref (p k)), some (.int (nI ((x_host R adr q.2.2.1 bits v).1)))]) rfl (nI_add k 1) rfl ?_
          refine wg_goto (d83_98 L xs) (t := 27) (by decide) ?_
          rw [f_mail, if_neg (by omega), if_pos hyes, if_pos (by omega)]
          exact wp_mono (ih (k + 1) (t + 1) (x_host R adr q.2.2.1 bits v).2 q.2.2.1 _ _ s1 hk3 (by omega) (by omega) (by omega) (e1.tab T) (e1.other hb5 hb87 hm) ((e1.k (by decide)).trans ha) e1.v e1.has) (fun v' s' h => ⟨h.1, e1.trans h.2⟩)
        · refine wg_iload (d83_92 L xs) rfl ?_
          exact wg_iret (d83_94 L xs) rfl rfl ⟨by rw [f_mail, if_neg (by omega), if_pos hyes, if_neg (by omega)], by rw [f_mail, if_neg (by omega), if_pos hyes, if_neg (by omega)]; exact e1⟩
theorem ck_mail {s : mg_s} {bits vd : Nat} {adr : Int32} (T : isTab s p R) (Hb : isT b) (hm : hold s b m) (hb5 : ¬ b = 5) (hb87 : ¬ b = 87) (hml : m.length ≤ 55) (ha : s.1 87 4 = adr) (hv : s.1 87 7 = nI vd) (hvd : vd < 900) (hbits : bits ≤ 32) (hok : ∀ q ∈ R, okrow q) : ca L xs (d + 4) 83 [.ref 87, .ref b, .int (nI bits)] s (fun v s' => v = some (.int (nI (x_mail R adr m bits vd).1)) ∧ ckh s s' (x_mail R adr m bits vd).2.2 (x_mail R adr m bits vd).2.1) := by
  refine wg_call (Nat.le_of_ble_eq_true rfl) ?_
  have hle := v_cnt_le (f_ask m 1 R 0) vd
  have hR16 := T.2.1
  show wp L xs (d + 3) 83 0 [some (.ref 87), some (.ref b), some (.int (nI bits)), none, none, none, none, none] [] s _
  refine wg_aload_n (d83_0 L xs) rfl ?_
  refine wg_aload_n (d83_1 L xs) rfl ?_
  refine wg_get (d83_2 L xs) (kd := 1) (cj := 6) (k0 := 0) rfl (Or.inl rfl) (by decide) rfl rfl ?_
  refine wg_aload_n (d83_5 L xs) rfl ?_
  refine wg_iconst (d83_6 L xs) (x := 1) (by decide) ?_
  refine wg_invv (d83_7 L xs) (kd := 7) (mj := 53) (n := 2) rfl (Or.inl rfl) (ys := [.int 1, .ref b]) (r := [.ref 87]) rfl rfl (by decide) rfl rfl (Nat.le_of_ble_eq_true rfl) (tb_ask (kd := 1) T Hb hm hb5 hml (by decide)) ?_
  rintro _ s1 ⟨rfl, e1⟩
  refine wg_invv (d83_10 L xs) (kd := 7) (mj := 82) (n := 1) rfl (Or.inl rfl) (ys := [.int (oI (f_ask m 1 R 0))]) (r := []) rfl rfl (by decide) rfl rfl (Nat.le_of_ble_eq_true rfl) (ck_cnt (o := f_ask m 1 R 0) ((congrFun (e1.i (b := 87) (by decide)) 7).trans hv) (by omega) (fun n hn => by have := f_ask_lt _ _ _ hn; have := T.2.1; omega)) ?_
  rintro _ _ ⟨rfl, rfl⟩
  have e2 : ckh s (mg_I s1 87 7 (nI (v_cnt (f_ask m 1 R 0) vd).2)) m (v_cnt (f_ask m 1 R 0) vd).2 := ⟨s1, e1, rfl⟩
  refine wg_istore_n (d83_13 L xs) (ls' := [some (.ref 87), some (.ref b), some (.int (nI bits)), some (.int (nI ((v_cnt (f_ask m 1 R 0) vd).1))), none, none, none, none]) (Nat.le_of_ble_eq_true rfl) rfl ?_
  refine wg_iload_n (d83_14 L xs) rfl ?_
  refine wg_iconst (d83_15 L xs) (x := 1) (by decide) ?_
  refine wn_icmp_eq (d83_16 L xs) (x := (v_cnt (f_ask m 1 R 0) vd).1) (y := 1) (by omega) (by omega) (t := 21) (by decide) (fun h1 => ?_) (fun h1 => ?_)
  · refine wg_iconst (d83_21 L xs) (x := 0) (by decide) ?_
    refine wg_istore (d83_22 L xs) (ls' := [some (.ref 87), some (.ref b), some (.int (nI bits)), some (.int (nI ((v_cnt (f_ask m 1 R 0) vd).1))), some (.int 0), none, none, none]) (Nat.le_of_ble_eq_true rfl) rfl ?_
    refine wg_iconst (d83_24 L xs) (x := 0) (by decide) ?_
    refine wg_istore (d83_25 L xs) (ls' := [some (.ref 87), some (.ref b), some (.int (nI bits)), some (.int (nI ((v_cnt (f_ask m 1 R 0) vd).1))), some (.int 0), some (.int 0), none, none]) (Nat.le_of_ble_eq_true rfl) rfl ?_
    rw [show nI (v_cnt (f_ask m 1 R 0) vd).1 = 1 from by rw [show (v_cnt (f_ask m 1 R 0) vd).1 = 1 by omega]; rfl]; exact wp_mono (ck_mail_l Hb hb5 hb87 hbits hok R 0 0 (v_cnt (f_ask m 1 R 0) vd).2 m none none _ rfl (Nat.zero_le _) (Nat.le_refl _) (by omega) (e2.tab T) (e2.other hb5 hb87 hm) ((e2.k (by decide)).trans ha) e2.v e2.has) (fun v s' h => ⟨by rw [x_mail, if_pos (by omega)]; exact h.1, by rw [x_mail, if_pos (by omega)]; exact e2.trans h.2⟩)
  · refine wg_iload_n (d83_19 L xs) rfl ?_
    exact wg_iret (d83_20 L xs) rfl rfl ⟨by rw [x_mail, if_neg (by omega)], by rw [x_mail, if_neg (by omega)]; exact e2⟩
def w_spf : List Nat := [118, 61, 115, 112, 102, 49]
def t_rec (l : List Nat) : Bool := t_word (gl l) 0 (min 6 l.length) w_spf && (decide (l.length = 6) || decide (gl l 6 = 32))
theorem ck_rec {s : mg_s} (H : isT a) (hl : hold s a l) : ca L xs (d + 3) 56 [.ref a] s (fun v s' => v = some (.int (nI (bI (t_rec l)))) ∧ s = s') := by
  refine wg_call (Nat.le_of_ble_eq_true rfl) ?_
  have h100 := hl.1.2
  have hlm := tx_m H
  have hg := gl_lt hl.2.1 6
  have hb := bI_lt (t_word (gl l) 0 (min 6 l.length) w_spf)
  show wp L xs (d + 2) 56 0 [some (.ref a), none] [] s _
  refine wg_ldcs (d56_0 L xs) (k0 := 0) rfl ?_
  refine wg_stl (d56_2 L xs) (k0 := 0) (n := 6) rfl rfl rfl (Nat.le_of_ble_eq_true rfl) ?_
  refine wg_top (y := 6) rfl ?_
  refine wg_istore_n (d56_5 L xs) (ls' := [some (.ref a), some (.int 6)]) (Nat.le_of_ble_eq_true rfl) rfl ?_
  refine wg_aload_n (d56_6 L xs) rfl ?_
  refine wg_iconst (d56_7 L xs) (x := 0) (by decide) ?_
  refine wg_iload_n (d56_8 L xs) rfl ?_
  refine wg_aload_n (d56_9 L xs) rfl ?_
  refine wg_invv (d56_10 L xs) (kd := 7) (mj := 15) (n := 0) rfl (Or.inl rfl) (ys := []) (r := [.int 6, .int 0, .ref a]) rfl rfl H.1 (tx_c H) rfl (Nat.le_of_ble_eq_true rfl) (ts_size H hl) ?_
  rintro _ _ ⟨rfl, rfl⟩
  refine wg_mmin (d56_13 L xs) rfl (Nat.le_of_ble_eq_true rfl) (z := (nI (min 6 l.length))) (mg_min (x := 6) (y := l.length) (by omega) (by omega)) ?_
  refine wg_ldcs (d56_16 L xs) (k0 := 0) rfl ?_
  refine wg_invv (d56_18 L xs) (kd := 7) (mj := 57) (n := 3) rfl (Or.inl rfl) (ys := [.ref (ax_big + 1 + 0), .int (nI (min 6 l.length)), .int 0]) (r := []) rfl rfl H.1 (tx_c H) rfl (Nat.le_of_ble_eq_true rfl) (ts_word (k0 := 0) (w := w_spf) (fr := 0) H hl rfl rfl (by omega) (Nat.zero_le _)) ?_
  rintro _ _ ⟨rfl, rfl⟩
  refine wn_if_eq (d56_21 L xs) (x := bI (t_word (gl l) 0 (min 6 l.length) w_spf)) (by omega) (t := 46) (by decide) (fun h1 => ?_) (fun h1 => ?_)
  · refine wg_iconst (d56_46 L xs) (x := 0) (by decide) ?_
    exact wg_iret (d56_47 L xs) rfl rfl ⟨by first | (unfold t_rec; rw [bI_f (b := t_word (gl l) 0 (min 6 l.length) w_spf) (by omega)]; rfl) | (unfold t_rec; rw [decide_eq_false (show ¬ l.length = 6 by omega), decide_eq_false (show ¬ gl l 6 = 32 by omega), Bool.or_false, Bool.and_false]; rfl), rfl⟩
  · refine wg_aload_n (d56_24 L xs) rfl ?_
    refine wg_invv (d56_25 L xs) (kd := 7) (mj := 15) (n := 0) rfl (Or.inl rfl) (ys := []) (r := []) rfl rfl H.1 (tx_c H) rfl (Nat.le_of_ble_eq_true rfl) (ts_size H hl) ?_
    rintro _ _ ⟨rfl, rfl⟩
    refine wg_iload_n (d56_28 L xs) rfl ?_
    refine wn_icmp_eq (d56_29 L xs) (x := l.length) (y := 6) (by omega) (by omega) (t := 42) (by decide) (fun h2 => ?_) (fun h2 => ?_)
    · refine wg_iconst (d56_42 L xs) (x := 1) (by decide) ?_
      refine wg_goto (d56_43 L xs) (t := 47) (by decide) ?_
      exact wg_iret (d56_47 L xs) rfl rfl ⟨by unfold t_rec; rw [bI_t (b := t_word (gl l) 0 (min 6 l.length) w_spf) (by omega), decide_eq_true (show l.length = 6 by omega)]; rfl, rfl⟩
    · refine wg_aload_n (d56_32 L xs) rfl ?_
      refine wg_iload_n (d56_33 L xs) rfl ?_
      refine wg_invv (d56_34 L xs) (kd := 7) (mj := 31) (n := 1) rfl (Or.inl rfl) (ys := [.int 6]) (r := []) rfl rfl H.1 (tx_c H) rfl (Nat.le_of_ble_eq_true rfl) (ts_at (i := 6) H hl (by omega)) ?_
      rintro _ _ ⟨rfl, rfl⟩
      refine wg_bipush (d56_37 L xs) (x := 32) (by decide) ?_
      refine wn_icmp_ne (d56_39 L xs) (x := gl l 6) (y := 32) (by omega) (by omega) (t := 46) (by decide) (fun h3 => ?_) (fun h3 => ?_)
      · refine wg_iconst (d56_46 L xs) (x := 0) (by decide) ?_
        exact wg_iret (d56_47 L xs) rfl rfl ⟨by first | (unfold t_rec; rw [bI_f (b := t_word (gl l) 0 (min 6 l.length) w_spf) (by omega)]; rfl) | (unfold t_rec; rw [decide_eq_false (show ¬ l.length = 6 by omega), decide_eq_false (show ¬ gl l 6 = 32 by omega), Bool.or_false, Bool.and_false]; rfl), rfl⟩
      · refine wg_iconst (d56_42 L xs) (x := 1) (by decide) ?_
        refine wg_goto (d56_43 L xs) (t := 47) (by decide) ?_
        exact wg_iret (d56_47 L xs) rfl rfl ⟨by unfold t_rec; rw [bI_t (b := t_word (gl l) 0 (min 6 l.length) w_spf) (by omega), decide_eq_false (show ¬ l.length = 6 by omega), decide_eq_true (show gl l 6 = 32 by omega)]; rfl, rfl⟩
end CM
