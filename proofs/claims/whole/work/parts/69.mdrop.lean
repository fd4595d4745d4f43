/-! the reference drops a row -/
theorem d115_19 (L : Nat) (xs : Nat → Int32) : decode (ax_code (mgT L xs) 115) 19 = .ok (.aload_n 0, 1) := by
  show decode prog_11_method_12_code 19 = _
  decide +kernel
theorem d115_20 (L : Nat) (xs : Nat → Int32) : decode (ax_code (mgT L xs) 115) 20 = .ok (.dup, 1) := by
  show decode prog_11_method_12_code 20 = _
  decide +kernel
theorem d115_21 (L : Nat) (xs : Nat → Int32) : decode (ax_code (mgT L xs) 115) 21 = .ok (.getfield 111, 3) := by
  show decode prog_11_method_12_code 21 = _
  decide +kernel
theorem d115_24 (L : Nat) (xs : Nat → Int32) : decode (ax_code (mgT L xs) 115) 24 = .ok (.iconst 1, 1) := by
  show decode prog_11_method_12_code 24 = _
  decide +kernel
theorem d115_25 (L : Nat) (xs : Nat → Int32) : decode (ax_code (mgT L xs) 115) 25 = .ok (.isub, 1) := by
  show decode prog_11_method_12_code 25 = _
  decide +kernel
theorem d115_26 (L : Nat) (xs : Nat → Int32) : decode (ax_code (mgT L xs) 115) 26 = .ok (.putfield 111, 3) := by
  show decode prog_11_method_12_code 26 = _
  decide +kernel
theorem d115_29 (L : Nat) (xs : Nat → Int32) : decode (ax_code (mgT L xs) 115) 29 = .ok (.iload_n 1, 1) := by
  show decode prog_11_method_12_code 29 = _
  decide +kernel
theorem d115_30 (L : Nat) (xs : Nat → Int32) : decode (ax_code (mgT L xs) 115) 30 = .ok (.istore_n 2, 1) := by
  show decode prog_11_method_12_code 30 = _
  decide +kernel
theorem d115_31 (L : Nat) (xs : Nat → Int32) : decode (ax_code (mgT L xs) 115) 31 = .ok (.iload_n 2, 1) := by
  show decode prog_11_method_12_code 31 = _
  decide +kernel
theorem d115_32 (L : Nat) (xs : Nat → Int32) : decode (ax_code (mgT L xs) 115) 32 = .ok (.aload_n 0, 1) := by
  show decode prog_11_method_12_code 32 = _
  decide +kernel
theorem d115_33 (L : Nat) (xs : Nat → Int32) : decode (ax_code (mgT L xs) 115) 33 = .ok (.getfield 111, 3) := by
  show decode prog_11_method_12_code 33 = _
  decide +kernel
theorem d115_36 (L : Nat) (xs : Nat → Int32) : decode (ax_code (mgT L xs) 115) 36 = .ok (.if_icmp .ge 104, 3) := by
  show decode prog_11_method_12_code 36 = _
  decide +kernel
theorem d115_39 (L : Nat) (xs : Nat → Int32) : decode (ax_code (mgT L xs) 115) 39 = .ok (.aload_n 0, 1) := by
  show decode prog_11_method_12_code 39 = _
  decide +kernel
theorem d115_40 (L : Nat) (xs : Nat → Int32) : decode (ax_code (mgT L xs) 115) 40 = .ok (.getfield 13, 3) := by
  show decode prog_11_method_12_code 40 = _
  decide +kernel
theorem d115_43 (L : Nat) (xs : Nat → Int32) : decode (ax_code (mgT L xs) 115) 43 = .ok (.iload_n 2, 1) := by
  show decode prog_11_method_12_code 43 = _
  decide +kernel
theorem d115_44 (L : Nat) (xs : Nat → Int32) : decode (ax_code (mgT L xs) 115) 44 = .ok (.aload_n 0, 1) := by
  show decode prog_11_method_12_code 44 = _
  decide +kernel
theorem d115_45 (L : Nat) (xs : Nat → Int32) : decode (ax_code (mgT L xs) 115) 45 = .ok (.getfield 13, 3) := by
  show decode prog_11_method_12_code 45 = _
  decide +kernel
theorem d115_48 (L : Nat) (xs : Nat → Int32) : decode (ax_code (mgT L xs) 115) 48 = .ok (.iload_n 2, 1) := by
  show decode prog_11_method_12_code 48 = _
  decide +kernel
theorem d115_49 (L : Nat) (xs : Nat → Int32) : decode (ax_code (mgT L xs) 115) 49 = .ok (.iconst 1, 1) := by
  show decode prog_11_method_12_code 49 = _
  decide +kernel
theorem d115_50 (L : Nat) (xs : Nat → Int32) : decode (ax_code (mgT L xs) 115) 50 = .ok (.iadd, 1) := by
  show decode prog_11_method_12_code 50 = _
  decide +kernel
theorem d115_51 (L : Nat) (xs : Nat → Int32) : decode (ax_code (mgT L xs) 115) 51 = .ok (.iaload, 1) := by
  show decode prog_11_method_12_code 51 = _
  decide +kernel
theorem d115_52 (L : Nat) (xs : Nat → Int32) : decode (ax_code (mgT L xs) 115) 52 = .ok (.iastore, 1) := by
  show decode prog_11_method_12_code 52 = _
  decide +kernel
theorem d115_53 (L : Nat) (xs : Nat → Int32) : decode (ax_code (mgT L xs) 115) 53 = .ok (.aload_n 0, 1) := by
  show decode prog_11_method_12_code 53 = _
  decide +kernel
theorem d115_54 (L : Nat) (xs : Nat → Int32) : decode (ax_code (mgT L xs) 115) 54 = .ok (.getfield 19, 3) := by
  show decode prog_11_method_12_code 54 = _
  decide +kernel
theorem d115_57 (L : Nat) (xs : Nat → Int32) : decode (ax_code (mgT L xs) 115) 57 = .ok (.iload_n 2, 1) := by
  show decode prog_11_method_12_code 57 = _
  decide +kernel
theorem d115_58 (L : Nat) (xs : Nat → Int32) : decode (ax_code (mgT L xs) 115) 58 = .ok (.aload_n 0, 1) := by
  show decode prog_11_method_12_code 58 = _
  decide +kernel
theorem d115_59 (L : Nat) (xs : Nat → Int32) : decode (ax_code (mgT L xs) 115) 59 = .ok (.getfield 19, 3) := by
  show decode prog_11_method_12_code 59 = _
  decide +kernel
theorem d115_62 (L : Nat) (xs : Nat → Int32) : decode (ax_code (mgT L xs) 115) 62 = .ok (.iload_n 2, 1) := by
  show decode prog_11_method_12_code 62 = _
  decide +kernel
theorem d115_63 (L : Nat) (xs : Nat → Int32) : decode (ax_code (mgT L xs) 115) 63 = .ok (.iconst 1, 1) := by
  show decode prog_11_method_12_code 63 = _
  decide +kernel
theorem d115_64 (L : Nat) (xs : Nat → Int32) : decode (ax_code (mgT L xs) 115) 64 = .ok (.iadd, 1) := by
  show decode prog_11_method_12_code 64 = _
  decide +kernel
theorem d115_65 (L : Nat) (xs : Nat → Int32) : decode (ax_code (mgT L xs) 115) 65 = .ok (.iaload, 1) := by
  show decode prog_11_method_12_code 65 = _
  decide +kernel
theorem d115_66 (L : Nat) (xs : Nat → Int32) : decode (ax_code (mgT L xs) 115) 66 = .ok (.iastore, 1) := by
  show decode prog_11_method_12_code 66 = _
  decide +kernel
theorem d115_67 (L : Nat) (xs : Nat → Int32) : decode (ax_code (mgT L xs) 115) 67 = .ok (.aload_n 0, 1) := by
  show decode prog_11_method_12_code 67 = _
  decide +kernel
theorem d115_68 (L : Nat) (xs : Nat → Int32) : decode (ax_code (mgT L xs) 115) 68 = .ok (.getfield 22, 3) := by
  show decode prog_11_method_12_code 68 = _
  decide +kernel
theorem d115_71 (L : Nat) (xs : Nat → Int32) : decode (ax_code (mgT L xs) 115) 71 = .ok (.iload_n 2, 1) := by
  show decode prog_11_method_12_code 71 = _
  decide +kernel
theorem d115_72 (L : Nat) (xs : Nat → Int32) : decode (ax_code (mgT L xs) 115) 72 = .ok (.aload_n 0, 1) := by
  show decode prog_11_method_12_code 72 = _
  decide +kernel
theorem d115_73 (L : Nat) (xs : Nat → Int32) : decode (ax_code (mgT L xs) 115) 73 = .ok (.getfield 22, 3) := by
  show decode prog_11_method_12_code 73 = _
  decide +kernel
theorem d115_76 (L : Nat) (xs : Nat → Int32) : decode (ax_code (mgT L xs) 115) 76 = .ok (.iload_n 2, 1) := by
  show decode prog_11_method_12_code 76 = _
  decide +kernel
theorem d115_77 (L : Nat) (xs : Nat → Int32) : decode (ax_code (mgT L xs) 115) 77 = .ok (.iconst 1, 1) := by
  show decode prog_11_method_12_code 77 = _
  decide +kernel
theorem d115_78 (L : Nat) (xs : Nat → Int32) : decode (ax_code (mgT L xs) 115) 78 = .ok (.iadd, 1) := by
  show decode prog_11_method_12_code 78 = _
  decide +kernel
theorem d115_79 (L : Nat) (xs : Nat → Int32) : decode (ax_code (mgT L xs) 115) 79 = .ok (.iaload, 1) := by
  show decode prog_11_method_12_code 79 = _
  decide +kernel
theorem d115_80 (L : Nat) (xs : Nat → Int32) : decode (ax_code (mgT L xs) 115) 80 = .ok (.iastore, 1) := by
  show decode prog_11_method_12_code 80 = _
  decide +kernel
theorem d115_81 (L : Nat) (xs : Nat → Int32) : decode (ax_code (mgT L xs) 115) 81 = .ok (.aload_n 0, 1) := by
  show decode prog_11_method_12_code 81 = _
  decide +kernel
theorem d115_82 (L : Nat) (xs : Nat → Int32) : decode (ax_code (mgT L xs) 115) 82 = .ok (.getfield 25, 3) := by
  show decode prog_11_method_12_code 82 = _
  decide +kernel
theorem d115_85 (L : Nat) (xs : Nat → Int32) : decode (ax_code (mgT L xs) 115) 85 = .ok (.iload_n 2, 1) := by
  show decode prog_11_method_12_code 85 = _
  decide +kernel
theorem d115_86 (L : Nat) (xs : Nat → Int32) : decode (ax_code (mgT L xs) 115) 86 = .ok (.aload_n 0, 1) := by
  show decode prog_11_method_12_code 86 = _
  decide +kernel
theorem d115_87 (L : Nat) (xs : Nat → Int32) : decode (ax_code (mgT L xs) 115) 87 = .ok (.getfield 25, 3) := by
  show decode prog_11_method_12_code 87 = _
  decide +kernel
theorem d115_90 (L : Nat) (xs : Nat → Int32) : decode (ax_code (mgT L xs) 115) 90 = .ok (.iload_n 2, 1) := by
  show decode prog_11_method_12_code 90 = _
  decide +kernel
theorem d115_91 (L : Nat) (xs : Nat → Int32) : decode (ax_code (mgT L xs) 115) 91 = .ok (.iconst 1, 1) := by
  show decode prog_11_method_12_code 91 = _
  decide +kernel
theorem d115_92 (L : Nat) (xs : Nat → Int32) : decode (ax_code (mgT L xs) 115) 92 = .ok (.iadd, 1) := by
  show decode prog_11_method_12_code 92 = _
  decide +kernel
theorem d115_93 (L : Nat) (xs : Nat → Int32) : decode (ax_code (mgT L xs) 115) 93 = .ok (.iaload, 1) := by
  show decode prog_11_method_12_code 93 = _
  decide +kernel
theorem d115_94 (L : Nat) (xs : Nat → Int32) : decode (ax_code (mgT L xs) 115) 94 = .ok (.iastore, 1) := by
  show decode prog_11_method_12_code 94 = _
  decide +kernel
theorem d115_95 (L : Nat) (xs : Nat → Int32) : decode (ax_code (mgT L xs) 115) 95 = .ok (.iconst 0, 1) := by
  show decode prog_11_method_12_code 95 = _
  decide +kernel
theorem d115_96 (L : Nat) (xs : Nat → Int32) : decode (ax_code (mgT L xs) 115) 96 = .ok (.istore_n 3, 1) := by
  show decode prog_11_method_12_code 96 = _
  decide +kernel
theorem d115_97 (L : Nat) (xs : Nat → Int32) : decode (ax_code (mgT L xs) 115) 97 = .ok (.iload_n 3, 1) := by
  show decode prog_11_method_12_code 97 = _
  decide +kernel
theorem d115_98 (L : Nat) (xs : Nat → Int32) : decode (ax_code (mgT L xs) 115) 98 = .ok (.bipush 100, 2) := by
  show decode prog_11_method_12_code 98 = _
  decide +kernel
theorem d115_100 (L : Nat) (xs : Nat → Int32) : decode (ax_code (mgT L xs) 115) 100 = .ok (.if_icmp .ge 34, 3) := by
  show decode prog_11_method_12_code 100 = _
  decide +kernel
theorem d115_103 (L : Nat) (xs : Nat → Int32) : decode (ax_code (mgT L xs) 115) 103 = .ok (.aload_n 0, 1) := by
  show decode prog_11_method_12_code 103 = _
  decide +kernel
theorem d115_104 (L : Nat) (xs : Nat → Int32) : decode (ax_code (mgT L xs) 115) 104 = .ok (.getfield 16, 3) := by
  show decode prog_11_method_12_code 104 = _
  decide +kernel
theorem d115_107 (L : Nat) (xs : Nat → Int32) : decode (ax_code (mgT L xs) 115) 107 = .ok (.bipush 100, 2) := by
  show decode prog_11_method_12_code 107 = _
  decide +kernel
theorem d115_109 (L : Nat) (xs : Nat → Int32) : decode (ax_code (mgT L xs) 115) 109 = .ok (.iload_n 2, 1) := by
  show decode prog_11_method_12_code 109 = _
  decide +kernel
theorem d115_110 (L : Nat) (xs : Nat → Int32) : decode (ax_code (mgT L xs) 115) 110 = .ok (.imul, 1) := by
  show decode prog_11_method_12_code 110 = _
  decide +kernel
theorem d115_111 (L : Nat) (xs : Nat → Int32) : decode (ax_code (mgT L xs) 115) 111 = .ok (.iload_n 3, 1) := by
  show decode prog_11_method_12_code 111 = _
  decide +kernel
theorem d115_112 (L : Nat) (xs : Nat → Int32) : decode (ax_code (mgT L xs) 115) 112 = .ok (.iadd, 1) := by
  show decode prog_11_method_12_code 112 = _
  decide +kernel
theorem d115_113 (L : Nat) (xs : Nat → Int32) : decode (ax_code (mgT L xs) 115) 113 = .ok (.aload_n 0, 1) := by
  show decode prog_11_method_12_code 113 = _
  decide +kernel
theorem d115_114 (L : Nat) (xs : Nat → Int32) : decode (ax_code (mgT L xs) 115) 114 = .ok (.getfield 16, 3) := by
  show decode prog_11_method_12_code 114 = _
  decide +kernel
theorem d115_117 (L : Nat) (xs : Nat → Int32) : decode (ax_code (mgT L xs) 115) 117 = .ok (.bipush 100, 2) := by
  show decode prog_11_method_12_code 117 = _
  decide +kernel
theorem d115_119 (L : Nat) (xs : Nat → Int32) : decode (ax_code (mgT L xs) 115) 119 = .ok (.iload_n 2, 1) := by
  show decode prog_11_method_12_code 119 = _
  decide +kernel
theorem d115_120 (L : Nat) (xs : Nat → Int32) : decode (ax_code (mgT L xs) 115) 120 = .ok (.imul, 1) := by
  show decode prog_11_method_12_code 120 = _
  decide +kernel
theorem d115_121 (L : Nat) (xs : Nat → Int32) : decode (ax_code (mgT L xs) 115) 121 = .ok (.bipush 100, 2) := by
  show decode prog_11_method_12_code 121 = _
  decide +kernel
theorem d115_123 (L : Nat) (xs : Nat → Int32) : decode (ax_code (mgT L xs) 115) 123 = .ok (.iadd, 1) := by
  show decode prog_11_method_12_code 123 = _
  decide +kernel
theorem d115_124 (L : Nat) (xs : Nat → Int32) : decode (ax_code (mgT L xs) 115) 124 = .ok (.iload_n 3, 1) := by
  show decode prog_11_method_12_code 124 = _
  decide +kernel
theorem d115_125 (L : Nat) (xs : Nat → Int32) : decode (ax_code (mgT L xs) 115) 125 = .ok (.iadd, 1) := by
  show decode prog_11_method_12_code 125 = _
  decide +kernel
theorem d115_126 (L : Nat) (xs : Nat → Int32) : decode (ax_code (mgT L xs) 115) 126 = .ok (.iaload, 1) := by
  show decode prog_11_method_12_code 126 = _
  decide +kernel
theorem d115_127 (L : Nat) (xs : Nat → Int32) : decode (ax_code (mgT L xs) 115) 127 = .ok (.iastore, 1) := by
  show decode prog_11_method_12_code 127 = _
  decide +kernel
theorem d115_128 (L : Nat) (xs : Nat → Int32) : decode (ax_code (mgT L xs) 115) 128 = .ok (.iinc 3 1, 3) := by
  show decode prog_11_method_12_code 128 = _
  decide +kernel
theorem d115_131 (L : Nat) (xs : Nat → Int32) : decode (ax_code (mgT L xs) 115) 131 = .ok (.goto (-34), 3) := by
  show decode prog_11_method_12_code 131 = _
  decide +kernel
theorem d115_134 (L : Nat) (xs : Nat → Int32) : decode (ax_code (mgT L xs) 115) 134 = .ok (.iinc 2 1, 3) := by
  show decode prog_11_method_12_code 134 = _
  decide +kernel
theorem d115_137 (L : Nat) (xs : Nat → Int32) : decode (ax_code (mgT L xs) 115) 137 = .ok (.goto (-106), 3) := by
  show decode prog_11_method_12_code 137 = _
  decide +kernel
theorem d115_140 (L : Nat) (xs : Nat → Int32) : decode (ax_code (mgT L xs) 115) 140 = .ok (.iconst 1, 1) := by
  show decode prog_11_method_12_code 140 = _
  decide +kernel
theorem d115_141 (L : Nat) (xs : Nat → Int32) : decode (ax_code (mgT L xs) 115) 141 = .ok (.ireturn, 1) := by
  show decode prog_11_method_12_code 141 = _
  decide +kernel
/-- from s0 on the rows behind k have moved down: the numbers up to i, the letters up to b -/
def m_sh (s0 s1 : mg_s) (k i b : Nat) : Prop := mfr s0 s1 [] [143, 144, 145, 146, 147] ∧ (∀ a, a = 143 ∨ a = 145 ∨ a = 146 ∨ a = 147 → ∀ j, s1.2.1 a j = s0.2.1 a (if k ≤ j ∧ j < i then j + 1 else j)) ∧ ∀ x, s1.2.1 144 x = s0.2.1 144 (if 100 * k ≤ x ∧ x < b then x + 100 else x)
def m_mv (s : mg_s) (i : Nat) : mg_s := mg_A (mg_A (mg_A (mg_A s 143 i (s.2.1 143 (i + 1))) 145 i (s.2.1 145 (i + 1))) 146 i (s.2.1 146 (i + 1))) 147 i (s.2.1 147 (i + 1))
theorem m_mv_at (s : mg_s) (i : Nat) : ∀ a, a = 143 ∨ a = 145 ∨ a = 146 ∨ a = 147 → (m_mv s i).2.1 a = upd (s.2.1 a) i (s.2.1 a (i + 1)) := by
  intro a ha
  rcases ha with rfl | rfl | rfl | rfl <;> rfl
theorem m_sh_mv {s0 s1 : mg_s} {k i b : Nat} (h : m_sh s0 s1 k i b) (hk : k ≤ i) : m_sh s0 (m_mv s1 i) k (i + 1) b := by
  refine ⟨h.1.trans ((((mfr_A s1 (by decide)).trans (mfr_A _ (by decide))).trans (mfr_A _ (by decide))).trans (mfr_A _ (by decide))), fun a ha j => ?_, h.2.2⟩
  rw [m_mv_at s1 i a ha]
  unfold upd
  by_cases e : j = i
  · rw [if_pos e, h.2.1 a ha, if_neg (by omega), if_pos (by omega), e]
  · rw [if_neg e, h.2.1 a ha]
    by_cases c : k ≤ j ∧ j < i
    · rw [if_pos c, if_pos (by omega)]
    · rw [if_neg c, if_neg (by omega)]
theorem m_sh_4 {s0 s1 : mg_s} {k i b : Nat} (h : m_sh s0 s1 k i b) (hk : 100 * k ≤ b) : m_sh s0 (mg_A s1 144 b (s1.2.1 144 (b + 100))) k i (b + 1) := by
  refine ⟨h.1.trans (mfr_A s1 (by decide)), fun a ha j => ?_, fun x => ?_⟩
  · rw [mg_A_oth (by omega)]; exact h.2.1 a ha j
  · rw [mg_A_own]
    unfold upd
    by_cases e : x = b
    · rw [if_pos e, h.2.2, if_neg (by omega), if_pos (by omega), e]
    · rw [if_neg e, h.2.2]
      by_cases c : 100 * k ≤ x ∧ x < b
      · rw [if_pos c, if_pos (by omega)]
      · rw [if_neg c, if_neg (by omega)]
theorem m_dropped {s0 s1 : mg_s} {R : List rowT} {k : Nat} (T : isTabM s0 R) (hk : k < R.length) (h : m_sh (mg_I s0 141 3 (nI (R.length - 1))) s1 k (R.length - 1) (100 * (R.length - 1))) : isTabM s1 (R.eraseIdx k) := by
  have hR16 := T.2.1
  refine ⟨?_, by rw [List.length_eraseIdx_of_lt hk]; omega, fun j q hj => ?_⟩
  · rw [List.length_eraseIdx_of_lt hk, h.1.2.1 3 (by decide), mg_I_own]; rfl
  · have hjl : j < (R.eraseIdx k).length := (List.getElem?_eq_some_iff.mp hj).1
    rw [List.length_eraseIdx_of_lt hk] at hjl
    rw [List.getElem?_eraseIdx] at hj
    have hq : R[if k ≤ j ∧ j < R.length - 1 then j + 1 else j]? = some q := by
      by_cases c : j < k
      · rw [if_pos c] at hj
        rw [if_neg (by omega)]; exact hj
      · rw [if_neg c] at hj
        rw [if_pos (by omega)]; exact hj
    obtain ⟨⟨a1, a2, a3, a4, a5, a6⟩, ok⟩ := T.2.2 _ q hq
    have hrs := ok.2.2.2.2.2.1
    have hsz' : q.2.1.length ≤ 100 ∧ (q.2.2.1.length = 0 ∨ q.2.1.length + 1 + q.2.2.1.length ≤ 100) := by
      unfold rowsz at hrs
      by_cases e2 : q.1 ≤ 2
      · rw [if_pos e2] at hrs; omega
      · rw [if_neg e2] at hrs
        refine ⟨hrs, Or.inl ?_⟩
        rw [ok.2.2.2.1 (by omega)]; rfl
    have h4 : ∀ i, i < 100 → s1.2.1 144 (100 * j + i) = s0.2.1 144 (100 * (if k ≤ j ∧ j < R.length - 1 then j + 1 else j) + i) := by
      intro i hi
      rw [h.2.2]
      show s0.2.1 144 _ = _
      by_cases c : k ≤ j ∧ j < R.length - 1
      · rw [if_pos c, if_pos (by omega), show 100 * j + i + 100 = 100 * (j + 1) + i by omega]
      · rw [if_neg c, if_neg (by omega)]
    refine ⟨⟨(h.2.1 143 (by omega) j).trans a1, (h.2.1 146 (by omega) j).trans a2, (h.2.1 145 (by omega) j).trans a3, (h.2.1 147 (by omega) j).trans a4, ⟨a5.1, fun i hi => ?_⟩, ⟨a6.1, fun i hi => ?_⟩⟩, ok⟩
    · rw [h4 i (by omega)]; exact a5.2 i hi
    · rw [show 100 * j + (q.2.1.length + 1) + i = 100 * j + (q.2.1.length + 1 + i) by omega, h4 _ (by omega)]
      have := a6.2 i hi
      rw [Nat.add_assoc] at this
      exact this
section DR
variable {L : Nat} {xs : Nat → Int32} {d : Nat} {R : List rowT} {s : mg_s} {Q : Option Value → mg_s → Prop}
theorem md_drop_4 {k i : Nat} (hki : k ≤ i) (hi : i < 15) : ∀ (q j : Nat) (s1 : mg_s), j + q = 100 → m_sh s s1 k (i + 1) (100 * i + j) → (∀ s2, m_sh s s2 k (i + 1) (100 * i + 100) → wp L xs d 115 134 [some (.ref 141), some (.int (nI k)), some (.int (nI i)), some (.int (nI 100))] [] s2 Q) → wp L xs d 115 97 [some (.ref 141), some (.int (nI k)), some (.int (nI i)), some (.int (nI j))] [] s1 Q := by
  intro q
  induction q with
  | zero =>
    intro j s1 hj h kk
    obtain rfl : j = 100 := by omega
    refine wg_iload_n (d115_97 L xs) rfl ?_
    refine wg_bipush (d115_98 L xs) (x := 100) (by decide) ?_
    refine wn_icmp_ge (d115_100 L xs) (x := 100) (y := 100) (by omega) (by omega) (t := 134) (by decide) (fun h1 => ?_) (fun h1 => by omega)
    exact kk s1 h
  | succ q ih =>
    intro j s1 hj h kk
    refine wg_iload_n (d115_97 L xs) rfl ?_
    refine wg_bipush (d115_98 L xs) (x := 100) (by decide) ?_
    refine wn_icmp_ge (d115_100 L xs) (x := j) (y := 100) (by omega) (by omega) (t := 134) (by decide) (fun h1 => by omega) (fun h1 => ?_)
    refine wg_aload_n (d115_103 L xs) rfl ?_
    refine wg_get (d115_104 L xs) (kd := 1) (cj := 9) (k0 := 5) rfl (Or.inl rfl) (by decide) rfl rfl ?_
    refine wg_bipush (d115_107 L xs) (x := 100) (by decide) ?_
    refine wg_iload_n (d115_109 L xs) rfl ?_
    refine wg_imul (d115_110 L xs) ?_
    refine wg_top (y := (nI (100 * i))) (pk_mul 100 i) ?_
    refine wg_iload_n (d115_111 L xs) rfl ?_
    refine wg_iadd (d115_112 L xs) ?_
    refine wg_top (y := (nI ((100 * i) + j))) (nI_add (100 * i) j) ?_
    refine wg_aload_n (d115_113 L xs) rfl ?_
    refine wg_get (d115_114 L xs) (kd := 1) (cj := 9) (k0 := 5) rfl (Or.inl rfl) (by decide) rfl rfl ?_
    refine wg_bipush (d115_117 L xs) (x := 100) (by decide) ?_
    refine wg_iload_n (d115_119 L xs) rfl ?_
    refine wg_imul (d115_120 L xs) ?_
    refine wg_top (y := (nI (100 * i))) (pk_mul 100 i) ?_
    refine wg_bipush (d115_121 L xs) (x := 100) (by decide) ?_
    refine wg_iadd (d115_123 L xs) ?_
    refine wg_top (y := (nI ((100 * i) + 100))) (nI_add (100 * i) 100) ?_
    refine wg_iload_n (d115_124 L xs) rfl ?_
    refine wg_iadd (d115_125 L xs) ?_
    refine wg_top (y := (nI (((100 * i) + 100) + j))) (nI_add ((100 * i) + 100) j) ?_
    refine wg_iald (d115_126 L xs) (n := 1600) (by decide) rfl (vp_in_nI (n := ((100 * i) + 100) + j) (by omega) (by omega)) ?_
    refine wg_top (y := s1.2.1 144 (((100 * i) + 100) + j)) (by rw [nI_nat (by omega)]) ?_
    refine wg_iast (d115_127 L xs) (n := 1600) (by decide) rfl (vp_in_nI (n := (100 * i) + j) (by omega) (by omega)) (ar_dA isA_all.2.2.1) ?_
    rw [nI_nat (n := (100 * i) + j) (by omega)]
    refine wg_iinc (d115_128 L xs) (y := (nI (j + 1))) (ls' := [some (.ref 141), some (.int (nI k)), some (.int (nI i)), some (.int (nI (j + 1)))]) rfl (nI_add j 1) rfl ?_
    refine wg_goto (d115_131 L xs) (t := 97) (by decide) ?_
    have h2 := m_sh_4 h (by omega)
    rw [show 100 * i + j + 100 = 100 * i + 100 + j by omega] at h2
    exact ih (j + 1) _ (by omega) h2 kk
theorem md_drop_l {k n : Nat} (hn : s.1 141 3 = nI n) (hn16 : n < 16) : ∀ (q i : Nat) (s1 : mg_s) (c3 : Option Value), i + q = n → k ≤ i → m_sh s s1 k i (100 * i) → (∀ s2 c3, m_sh s s2 k n (100 * n) → wp L xs d 115 140 [some (.ref 141), some (.int (nI k)), some (.int (nI n)), c3] [] s2 Q) → wp L xs d 115 31 [some (.ref 141), some (.int (nI k)), some (.int (nI i)), c3] [] s1 Q := by
  intro q
  induction q with
  | zero =>
    intro i s1 c3 hi hki h kk
    obtain rfl : i = n := by omega
    refine wg_iload_n (d115_31 L xs) rfl ?_
    refine wg_aload_n (d115_32 L xs) rfl ?_
    refine wg_get (d115_33 L xs) (kd := 1) (cj := 9) (k0 := 3) rfl (Or.inl rfl) (by decide) rfl rfl ?_
    refine wg_top (y := (nI i)) ((h.1.2.1 3 (by decide)).trans hn) ?_
    refine wn_icmp_ge (d115_36 L xs) (x := i) (y := i) (by omega) (by omega) (t := 140) (by decide) (fun h1 => ?_) (fun h1 => by omega)
    exact kk s1 c3 h
  | succ q ih =>
    intro i s1 c3 hi hki h kk
    refine wg_iload_n (d115_31 L xs) rfl ?_
    refine wg_aload_n (d115_32 L xs) rfl ?_
    refine wg_get (d115_33 L xs) (kd := 1) (cj := 9) (k0 := 3) rfl (Or.inl rfl) (by decide) rfl rfl ?_
    refine wg_top (y := (nI n)) ((h.1.2.1 3 (by decide)).trans hn) ?_
    refine wn_icmp_ge (d115_36 L xs) (x := i) (y := n) (by omega) (by omega) (t := 140) (by decide) (fun h1 => by omega) (fun h1 => ?_)
    refine wg_aload_n (d115_39 L xs) rfl ?_
    refine wg_get (d115_40 L xs) (kd := 1) (cj := 9) (k0 := 4) rfl (Or.inl rfl) (by decide) rfl rfl ?_
    refine wg_iload_n (d115_43 L xs) rfl ?_
    refine wg_aload_n (d115_44 L xs) rfl ?_
    refine wg_get (d115_45 L xs) (kd := 1) (cj := 9) (k0 := 4) rfl (Or.inl rfl) (by decide) rfl rfl ?_
    refine wg_iload_n (d115_48 L xs) rfl ?_
    refine wg_iconst (d115_49 L xs) (x := 1) (by decide) ?_
    refine wg_iadd (d115_50 L xs) ?_
    refine wg_top (y := (nI (i + 1))) (nI_add i 1) ?_
    refine wg_iald (d115_51 L xs) (n := 16) (by decide) rfl (vp_in_nI (n := i + 1) (by omega) (by omega)) ?_
    refine wg_top (y := s1.2.1 143 (i + 1)) (by rw [nI_nat (by omega)]) ?_
    refine wg_iast (d115_52 L xs) (n := 16) (by decide) rfl (vp_in_nI (n := i) (by omega) (by omega)) (ar_dA isA_all.2.1) ?_
    rw [nI_nat (n := i) (by omega)]
    refine wg_aload_n (d115_53 L xs) rfl ?_
    refine wg_get (d115_54 L xs) (kd := 1) (cj := 9) (k0 := 6) rfl (Or.inl rfl) (by decide) rfl rfl ?_
    refine wg_iload_n (d115_57 L xs) rfl ?_
    refine wg_aload_n (d115_58 L xs) rfl ?_
    refine wg_get (d115_59 L xs) (kd := 1) (cj := 9) (k0 := 6) rfl (Or.inl rfl) (by decide) rfl rfl ?_
    refine wg_iload_n (d115_62 L xs) rfl ?_
    refine wg_iconst (d115_63 L xs) (x := 1) (by decide) ?_
    refine wg_iadd (d115_64 L xs) ?_
    refine wg_top (y := (nI (i + 1))) (nI_add i 1) ?_
    refine wg_iald (d115_65 L xs) (n := 16) (by decide) rfl (vp_in_nI (n := i + 1) (by omega) (by omega)) ?_
    refine wg_top (y := (mg_A s1 143 i (s1.2.1 143 (i + 1))).2.1 145 (i + 1)) (by rw [nI_nat (by omega)]) ?_
    refine wg_iast (d115_66 L xs) (n := 16) (by decide) rfl (vp_in_nI (n := i) (by omega) (by omega)) (ar_dA isA_all.2.2.2.1) ?_
    rw [nI_nat (n := i) (by omega)]
    refine wg_aload_n (d115_67 L xs) rfl ?_
    refine wg_get (d115_68 L xs) (kd := 1) (cj := 9) (k0 := 7) rfl (Or.inl rfl) (by decide) rfl rfl ?_
    refine wg_iload_n (d115_71 L xs) rfl ?_
    refine wg_aload_n (d115_72 L xs) rfl ?_
    refine wg_get (d115_73 L xs) (kd := 1) (cj := 9) (k0 := 7) rfl (Or.inl rfl) (by decide) rfl rfl ?_
    refine wg_iload_n (d115_76 L xs) rfl ?_
    refine wg_iconst (d115_77 L xs) (x := 1) (by decide) ?_
    refine wg_iadd (d115_78 L xs) ?_
    refine wg_top (y := (nI (i + 1))) (nI_add i 1) ?_
    refine wg_iald (d115_79 L xs) (n := 16) (by decide) rfl (vp_in_nI (n := i + 1) (by omega) (by omega)) ?_
    refine wg_top (y := (mg_A (mg_A s1 143 i (s1.2.1 143 (i + 1))) 145 i ((mg_A s1 143 i (s1.2.1 143 (i + 1))).2.1 145 (i + 1))).2.1 146 (i + 1)) (by rw [nI_nat (by omega)]) ?_
    refine wg_iast (d115_80 L xs) (n := 16) (by decide) rfl (vp_in_nI (n := i) (by omega) (by omega)) (ar_dA isA_all.2.2.2.2.1) ?_
    rw [nI_nat (n := i) (by omega)]
    refine wg_aload_n (d115_81 L xs) rfl ?_
    refine wg_get (d115_82 L xs) (kd := 1) (cj := 9) (k0 := 8) rfl (Or.inl rfl) (by decide) rfl rfl ?_
    refine wg_iload_n (d115_85 L xs) rfl ?_
    refine wg_aload_n (d115_86 L xs) rfl ?_
    refine wg_get (d115_87 L xs) (kd := 1) (cj := 9) (k0 := 8) rfl (Or.inl rfl) (by decide) rfl rfl ?_
    refine wg_iload_n (d115_90 L xs) rfl ?_
    refine wg_iconst (d115_91 L xs) (x := 1) (by decide) ?_
    refine wg_iadd (d115_92 L xs) ?_
    refine wg_top (y := (nI (i + 1))) (nI_add i 1) ?_
    refine wg_iald (d115_93 L xs) (n := 16) (by decide) rfl (vp_in_nI (n := i + 1) (by omega) (by omega)) ?_
    refine wg_top (y := (mg_A (mg_A (mg_A s1 143 i (s1.2.1 143 (i + 1))) 145 i ((mg_A s1 143 i (s1.2.1 143 (i + 1))).2.1 145 (i + 1))) 146 i ((mg_A (mg_A s1 143 i (s1.2.1 143 (i + 1))) 145 i ((mg_A s1 143 i (s1.2.1 143 (i + 1))).2.1 145 (i + 1))).2.1 146 (i + 1))).2.1 147 (i + 1)) (by rw [nI_nat (by omega)]) ?_
    refine wg_iast (d115_94 L xs) (n := 16) (by decide) rfl (vp_in_nI (n := i) (by omega) (by omega)) (ar_dA isA_all.2.2.2.2.2.1) ?_
    rw [nI_nat (n := i) (by omega)]
    refine wg_iconst (d115_95 L xs) (x := 0) (by decide) ?_
    refine wg_istore_n (d115_96 L xs) (ls' := [some (.ref 141), some (.int (nI k)), some (.int (nI i)), some (.int 0)]) (Nat.le_of_ble_eq_true rfl) rfl ?_
    refine md_drop_4 (s := s) (k := k) (i := i) hki (by omega) 100 0 _ (by omega) (m_sh_mv h hki) (fun s2 h2 => ?_)
    refine wg_iinc (d115_134 L xs) (y := (nI (i + 1))) (ls' := [some (.ref 141), some (.int (nI k)), some (.int (nI (i + 1))), some (.int (nI 100))]) rfl (nI_add i 1) rfl ?_
    refine wg_goto (d115_137 L xs) (t := 31) (by decide) ?_
    exact ih (i + 1) s2 _ (by omega) (by omega) (by rw [show 100 * (i + 1) = 100 * i + 100 by omega]; exact h2) kk
theorem md_drop {k : Nat} (T : isTabM s R) (hk : k < R.length) : ca L xs (d + 1) 115 [.ref 141, .int (nI k)] s (fun v s' => v = some (.int 1) ∧ s'.1 141 0 = 0 ∧ isTabM s' (R.eraseIdx k) ∧ mfr s s' [0, 3] [143, 144, 145, 146, 147]) := by
  refine wg_call (Nat.le_of_ble_eq_true rfl) ?_
  have hR16 := T.2.1
  show wp L xs d 115 0 [some (.ref 141), some (.int (nI k)), none, none] [] s _
  refine wg_aload_n (d115_0 L xs) rfl ?_
  refine wg_iconst (d115_1 L xs) (x := 0) (by decide) ?_
  refine wg_puti (d115_2 L xs) (cj := 9) (k0 := 0) rfl (by decide) rfl (Nat.le_of_ble_eq_true rfl) rfl rfl rfl ?_
  refine wg_iload_n (d115_5 L xs) rfl ?_
  refine wn_if_lt (d115_6 L xs) (x := k) (by omega) (t := 17) (by decide) (fun h1 => by omega) (fun h1 => ?_)
  refine wg_iload_n (d115_9 L xs) rfl ?_
  refine wg_aload_n (d115_10 L xs) rfl ?_
  refine wg_get (d115_11 L xs) (kd := 1) (cj := 9) (k0 := 3) rfl (Or.inl rfl) (by decide) rfl rfl ?_
  refine wg_top (y := (nI R.length)) T.1 ?_
  refine wn_icmp_lt (d115_14 L xs) (x := k) (y := R.length) (by omega) (by omega) (t := 19) (by decide) (fun h2 => ?_) (fun h2 => by omega)
  refine wg_aload_n (d115_19 L xs) rfl ?_
  refine wg_dup (d115_20 L xs) rfl ?_
  refine wg_get (d115_21 L xs) (kd := 1) (cj := 9) (k0 := 3) rfl (Or.inl rfl) (by decide) rfl rfl ?_
  refine wg_top (y := (nI R.length)) T.1 ?_
  refine wg_iconst (d115_24 L xs) (x := 1) (by decide) ?_
  refine wg_isub (d115_25 L xs) ?_
  refine wg_top (y := (nI (R.length - 1))) (pk_sub (a := R.length) (b := 1) (by omega)) ?_
  refine wg_puti (d115_26 L xs) (cj := 9) (k0 := 3) rfl (by decide) rfl (Nat.le_of_ble_eq_true rfl) rfl rfl rfl ?_
  refine wg_iload_n (d115_29 L xs) rfl ?_
  refine wg_istore_n (d115_30 L xs) (ls' := [some (.ref 141), some (.int (nI k)), some (.int (nI k)), none]) (Nat.le_of_ble_eq_true rfl) rfl ?_
  refine md_drop_l (s := mg_I (mg_I s 141 0 0) 141 3 (nI (R.length - 1))) (k := k) (n := R.length - 1) rfl (by omega) (R.length - 1 - k) k _ none (by omega) (Nat.le_refl _) ⟨mfr.rf _ _ _, fun a ha j => by rw [if_neg (by omega)], fun x => by rw [if_neg (by omega)]⟩ (fun s2 c3 h => ?_)
  refine wg_iconst (d115_140 L xs) (x := 1) (by decide) ?_
  exact wg_iret (d115_141 L xs) rfl rfl ⟨rfl, (h.1.2.1 0 (by decide)).trans rfl, m_dropped (s0 := mg_I s 141 0 0) (isTabM_of T rfl (fun _ _ _ => rfl)) hk h, ((mfr_I s (by decide)).trans (mfr_I _ (by decide))).trans (h.1.more (by decide) (by decide))⟩
theorem md_dropN {x : Int32} (T : isTabM s R) (hx : x < 0 ∨ nI R.length ≤ x) : ca L xs (d + 1) 115 [.ref 141, .int x] s (fun v s' => v = some (.int 0) ∧ mg_I s 141 0 0 = s') := by
  refine wg_call (Nat.le_of_ble_eq_true rfl) ?_
  show wp L xs d 115 0 [some (.ref 141), some (.int x), none, none] [] s _
  refine wg_aload_n (d115_0 L xs) rfl ?_
  refine wg_iconst (d115_1 L xs) (x := 0) (by decide) ?_
  refine wg_puti (d115_2 L xs) (cj := 9) (k0 := 0) rfl (by decide) rfl (Nat.le_of_ble_eq_true rfl) rfl rfl rfl ?_
  refine wg_iload_n (d115_5 L xs) rfl ?_
  refine wg_if_lt (d115_6 L xs) (t := 17) (by decide) (fun h1 => ?_) (fun h1 => ?_)
  · refine wg_iconst (d115_17 L xs) (x := 0) (by decide) ?_
    exact wg_iret (d115_18 L xs) rfl rfl ⟨rfl, rfl⟩
  · refine wg_iload_n (d115_9 L xs) rfl ?_
    refine wg_aload_n (d115_10 L xs) rfl ?_
    refine wg_get (d115_11 L xs) (kd := 1) (cj := 9) (k0 := 3) rfl (Or.inl rfl) (by decide) rfl rfl ?_
    refine wg_top (y := (nI R.length)) T.1 ?_
    refine wg_icmp_lt (d115_14 L xs) (t := 19) (by decide) (fun h2 => absurd h2 (Int32.not_lt.mpr (hx.resolve_left (by assumption)))) (fun h2 => ?_)
    refine wg_iconst (d115_17 L xs) (x := 0) (by decide) ?_
    exact wg_iret (d115_18 L xs) rfl rfl ⟨rfl, rfl⟩
end DR
