/-! the reference: check -/
theorem d116_16 (L : Nat) (xs : Nat → Int32) : decode (ax_code (mgT L xs) 116) 16 = .ok (.iconst 0, 1) := by
  show decode prog_11_method_49_code 16 = _
  decide +kernel
theorem d116_17 (L : Nat) (xs : Nat → Int32) : decode (ax_code (mgT L xs) 116) 17 = .ok (.goto 4, 3) := by
  show decode prog_11_method_49_code 17 = _
  decide +kernel
theorem d116_33 (L : Nat) (xs : Nat → Int32) : decode (ax_code (mgT L xs) 116) 33 = .ok (.aload_n 0, 1) := by
  show decode prog_11_method_49_code 33 = _
  decide +kernel
theorem d116_34 (L : Nat) (xs : Nat → Int32) : decode (ax_code (mgT L xs) 116) 34 = .ok (.iconst 1, 1) := by
  show decode prog_11_method_49_code 34 = _
  decide +kernel
theorem d116_35 (L : Nat) (xs : Nat → Int32) : decode (ax_code (mgT L xs) 116) 35 = .ok (.putfield 280, 3) := by
  show decode prog_11_method_49_code 35 = _
  decide +kernel
theorem d116_38 (L : Nat) (xs : Nat → Int32) : decode (ax_code (mgT L xs) 116) 38 = .ok (.aload_n 0, 1) := by
  show decode prog_11_method_49_code 38 = _
  decide +kernel
theorem d116_39 (L : Nat) (xs : Nat → Int32) : decode (ax_code (mgT L xs) 116) 39 = .ok (.iload_n 1, 1) := by
  show decode prog_11_method_49_code 39 = _
  decide +kernel
theorem d116_40 (L : Nat) (xs : Nat → Int32) : decode (ax_code (mgT L xs) 116) 40 = .ok (.putfield 143, 3) := by
  show decode prog_11_method_49_code 40 = _
  decide +kernel
theorem d116_43 (L : Nat) (xs : Nat → Int32) : decode (ax_code (mgT L xs) 116) 43 = .ok (.aload_n 0, 1) := by
  show decode prog_11_method_49_code 43 = _
  decide +kernel
theorem d116_44 (L : Nat) (xs : Nat → Int32) : decode (ax_code (mgT L xs) 116) 44 = .ok (.iconst 0, 1) := by
  show decode prog_11_method_49_code 44 = _
  decide +kernel
theorem d116_45 (L : Nat) (xs : Nat → Int32) : decode (ax_code (mgT L xs) 116) 45 = .ok (.putfield 227, 3) := by
  show decode prog_11_method_49_code 45 = _
  decide +kernel
theorem d116_48 (L : Nat) (xs : Nat → Int32) : decode (ax_code (mgT L xs) 116) 48 = .ok (.aload_n 0, 1) := by
  show decode prog_11_method_49_code 48 = _
  decide +kernel
theorem d116_49 (L : Nat) (xs : Nat → Int32) : decode (ax_code (mgT L xs) 116) 49 = .ok (.iconst 0, 1) := by
  show decode prog_11_method_49_code 49 = _
  decide +kernel
theorem d116_50 (L : Nat) (xs : Nat → Int32) : decode (ax_code (mgT L xs) 116) 50 = .ok (.putfield 237, 3) := by
  show decode prog_11_method_49_code 50 = _
  decide +kernel
theorem d116_53 (L : Nat) (xs : Nat → Int32) : decode (ax_code (mgT L xs) 116) 53 = .ok (.aload_n 0, 1) := by
  show decode prog_11_method_49_code 53 = _
  decide +kernel
theorem d116_54 (L : Nat) (xs : Nat → Int32) : decode (ax_code (mgT L xs) 116) 54 = .ok (.iconst (-1), 1) := by
  show decode prog_11_method_49_code 54 = _
  decide +kernel
theorem d116_55 (L : Nat) (xs : Nat → Int32) : decode (ax_code (mgT L xs) 116) 55 = .ok (.putfield 224, 3) := by
  show decode prog_11_method_49_code 55 = _
  decide +kernel
theorem d116_58 (L : Nat) (xs : Nat → Int32) : decode (ax_code (mgT L xs) 116) 58 = .ok (.aload_n 0, 1) := by
  show decode prog_11_method_49_code 58 = _
  decide +kernel
theorem d116_59 (L : Nat) (xs : Nat → Int32) : decode (ax_code (mgT L xs) 116) 59 = .ok (.iconst 0, 1) := by
  show decode prog_11_method_49_code 59 = _
  decide +kernel
theorem d116_60 (L : Nat) (xs : Nat → Int32) : decode (ax_code (mgT L xs) 116) 60 = .ok (.putfield 203, 3) := by
  show decode prog_11_method_49_code 60 = _
  decide +kernel
theorem d116_63 (L : Nat) (xs : Nat → Int32) : decode (ax_code (mgT L xs) 116) 63 = .ok (.aload_n 0, 1) := by
  show decode prog_11_method_49_code 63 = _
  decide +kernel
theorem d116_64 (L : Nat) (xs : Nat → Int32) : decode (ax_code (mgT L xs) 116) 64 = .ok (.iconst 0, 1) := by
  show decode prog_11_method_49_code 64 = _
  decide +kernel
theorem d116_65 (L : Nat) (xs : Nat → Int32) : decode (ax_code (mgT L xs) 116) 65 = .ok (.putfield 117, 3) := by
  show decode prog_11_method_49_code 65 = _
  decide +kernel
theorem d116_68 (L : Nat) (xs : Nat → Int32) : decode (ax_code (mgT L xs) 116) 68 = .ok (.aload_n 0, 1) := by
  show decode prog_11_method_49_code 68 = _
  decide +kernel
theorem d116_69 (L : Nat) (xs : Nat → Int32) : decode (ax_code (mgT L xs) 116) 69 = .ok (.aload_n 0, 1) := by
  show decode prog_11_method_49_code 69 = _
  decide +kernel
theorem d116_70 (L : Nat) (xs : Nat → Int32) : decode (ax_code (mgT L xs) 116) 70 = .ok (.getfield 86, 3) := by
  show decode prog_11_method_49_code 70 = _
  decide +kernel
theorem d116_73 (L : Nat) (xs : Nat → Int32) : decode (ax_code (mgT L xs) 116) 73 = .ok (.putfield 114, 3) := by
  show decode prog_11_method_49_code 73 = _
  decide +kernel
theorem d116_76 (L : Nat) (xs : Nat → Int32) : decode (ax_code (mgT L xs) 116) 76 = .ok (.aload_n 0, 1) := by
  show decode prog_11_method_49_code 76 = _
  decide +kernel
theorem d116_77 (L : Nat) (xs : Nat → Int32) : decode (ax_code (mgT L xs) 116) 77 = .ok (.aload_n 0, 1) := by
  show decode prog_11_method_49_code 77 = _
  decide +kernel
theorem d116_78 (L : Nat) (xs : Nat → Int32) : decode (ax_code (mgT L xs) 116) 78 = .ok (.getfield 86, 3) := by
  show decode prog_11_method_49_code 78 = _
  decide +kernel
theorem d116_81 (L : Nat) (xs : Nat → Int32) : decode (ax_code (mgT L xs) 116) 81 = .ok (.putfield 150, 3) := by
  show decode prog_11_method_49_code 81 = _
  decide +kernel
theorem d116_84 (L : Nat) (xs : Nat → Int32) : decode (ax_code (mgT L xs) 116) 84 = .ok (.iconst 0, 1) := by
  show decode prog_11_method_49_code 84 = _
  decide +kernel
theorem d116_85 (L : Nat) (xs : Nat → Int32) : decode (ax_code (mgT L xs) 116) 85 = .ok (.istore_n 2, 1) := by
  show decode prog_11_method_49_code 85 = _
  decide +kernel
theorem d116_86 (L : Nat) (xs : Nat → Int32) : decode (ax_code (mgT L xs) 116) 86 = .ok (.iload_n 2, 1) := by
  show decode prog_11_method_49_code 86 = _
  decide +kernel
theorem d116_87 (L : Nat) (xs : Nat → Int32) : decode (ax_code (mgT L xs) 116) 87 = .ok (.aload_n 0, 1) := by
  show decode prog_11_method_49_code 87 = _
  decide +kernel
theorem d116_88 (L : Nat) (xs : Nat → Int32) : decode (ax_code (mgT L xs) 116) 88 = .ok (.getfield 86, 3) := by
  show decode prog_11_method_49_code 88 = _
  decide +kernel
theorem d116_91 (L : Nat) (xs : Nat → Int32) : decode (ax_code (mgT L xs) 116) 91 = .ok (.if_icmp .ge 33, 3) := by
  show decode prog_11_method_49_code 91 = _
  decide +kernel
theorem d116_94 (L : Nat) (xs : Nat → Int32) : decode (ax_code (mgT L xs) 116) 94 = .ok (.aload_n 0, 1) := by
  show decode prog_11_method_49_code 94 = _
  decide +kernel
theorem d116_95 (L : Nat) (xs : Nat → Int32) : decode (ax_code (mgT L xs) 116) 95 = .ok (.getfield 28, 3) := by
  show decode prog_11_method_49_code 95 = _
  decide +kernel
theorem d116_98 (L : Nat) (xs : Nat → Int32) : decode (ax_code (mgT L xs) 116) 98 = .ok (.iload_n 2, 1) := by
  show decode prog_11_method_49_code 98 = _
  decide +kernel
theorem d116_99 (L : Nat) (xs : Nat → Int32) : decode (ax_code (mgT L xs) 116) 99 = .ok (.aload_n 0, 1) := by
  show decode prog_11_method_49_code 99 = _
  decide +kernel
theorem d116_100 (L : Nat) (xs : Nat → Int32) : decode (ax_code (mgT L xs) 116) 100 = .ok (.getfield 7, 3) := by
  show decode prog_11_method_49_code 100 = _
  decide +kernel
theorem d116_103 (L : Nat) (xs : Nat → Int32) : decode (ax_code (mgT L xs) 116) 103 = .ok (.iload_n 2, 1) := by
  show decode prog_11_method_49_code 103 = _
  decide +kernel
theorem d116_104 (L : Nat) (xs : Nat → Int32) : decode (ax_code (mgT L xs) 116) 104 = .ok (.iaload, 1) := by
  show decode prog_11_method_49_code 104 = _
  decide +kernel
theorem d116_105 (L : Nat) (xs : Nat → Int32) : decode (ax_code (mgT L xs) 116) 105 = .ok (.iastore, 1) := by
  show decode prog_11_method_49_code 105 = _
  decide +kernel
theorem d116_106 (L : Nat) (xs : Nat → Int32) : decode (ax_code (mgT L xs) 116) 106 = .ok (.aload_n 0, 1) := by
  show decode prog_11_method_49_code 106 = _
  decide +kernel
theorem d116_107 (L : Nat) (xs : Nat → Int32) : decode (ax_code (mgT L xs) 116) 107 = .ok (.getfield 73, 3) := by
  show decode prog_11_method_49_code 107 = _
  decide +kernel
theorem d116_110 (L : Nat) (xs : Nat → Int32) : decode (ax_code (mgT L xs) 116) 110 = .ok (.iload_n 2, 1) := by
  show decode prog_11_method_49_code 110 = _
  decide +kernel
theorem d116_111 (L : Nat) (xs : Nat → Int32) : decode (ax_code (mgT L xs) 116) 111 = .ok (.aload_n 0, 1) := by
  show decode prog_11_method_49_code 111 = _
  decide +kernel
theorem d116_112 (L : Nat) (xs : Nat → Int32) : decode (ax_code (mgT L xs) 116) 112 = .ok (.getfield 7, 3) := by
  show decode prog_11_method_49_code 112 = _
  decide +kernel
theorem d116_115 (L : Nat) (xs : Nat → Int32) : decode (ax_code (mgT L xs) 116) 115 = .ok (.iload_n 2, 1) := by
  show decode prog_11_method_49_code 115 = _
  decide +kernel
theorem d116_116 (L : Nat) (xs : Nat → Int32) : decode (ax_code (mgT L xs) 116) 116 = .ok (.iaload, 1) := by
  show decode prog_11_method_49_code 116 = _
  decide +kernel
theorem d116_117 (L : Nat) (xs : Nat → Int32) : decode (ax_code (mgT L xs) 116) 117 = .ok (.iastore, 1) := by
  show decode prog_11_method_49_code 117 = _
  decide +kernel
theorem d116_118 (L : Nat) (xs : Nat → Int32) : decode (ax_code (mgT L xs) 116) 118 = .ok (.iinc 2 1, 3) := by
  show decode prog_11_method_49_code 118 = _
  decide +kernel
theorem d116_121 (L : Nat) (xs : Nat → Int32) : decode (ax_code (mgT L xs) 116) 121 = .ok (.goto (-35), 3) := by
  show decode prog_11_method_49_code 121 = _
  decide +kernel
theorem d116_124 (L : Nat) (xs : Nat → Int32) : decode (ax_code (mgT L xs) 116) 124 = .ok (.aload_n 0, 1) := by
  show decode prog_11_method_49_code 124 = _
  decide +kernel
theorem d116_125 (L : Nat) (xs : Nat → Int32) : decode (ax_code (mgT L xs) 116) 125 = .ok (.iconst 0, 1) := by
  show decode prog_11_method_49_code 125 = _
  decide +kernel
theorem d116_126 (L : Nat) (xs : Nat → Int32) : decode (ax_code (mgT L xs) 116) 126 = .ok (.putfield 86, 3) := by
  show decode prog_11_method_49_code 126 = _
  decide +kernel
theorem d116_129 (L : Nat) (xs : Nat → Int32) : decode (ax_code (mgT L xs) 116) 129 = .ok (.aload_n 0, 1) := by
  show decode prog_11_method_49_code 129 = _
  decide +kernel
theorem d116_130 (L : Nat) (xs : Nat → Int32) : decode (ax_code (mgT L xs) 116) 130 = .ok (.iconst 0, 1) := by
  show decode prog_11_method_49_code 130 = _
  decide +kernel
theorem d116_131 (L : Nat) (xs : Nat → Int32) : decode (ax_code (mgT L xs) 116) 131 = .ok (.putfield 140, 3) := by
  show decode prog_11_method_49_code 131 = _
  decide +kernel
theorem d116_134 (L : Nat) (xs : Nat → Int32) : decode (ax_code (mgT L xs) 116) 134 = .ok (.aload_n 0, 1) := by
  show decode prog_11_method_49_code 134 = _
  decide +kernel
theorem d116_135 (L : Nat) (xs : Nat → Int32) : decode (ax_code (mgT L xs) 116) 135 = .ok (.iconst 0, 1) := by
  show decode prog_11_method_49_code 135 = _
  decide +kernel
theorem d116_136 (L : Nat) (xs : Nat → Int32) : decode (ax_code (mgT L xs) 116) 136 = .ok (.iconst 0, 1) := by
  show decode prog_11_method_49_code 136 = _
  decide +kernel
theorem d116_137 (L : Nat) (xs : Nat → Int32) : decode (ax_code (mgT L xs) 116) 137 = .ok (.invokevirtual 266, 3) := by
  show decode prog_11_method_49_code 137 = _
  decide +kernel
theorem d116_140 (L : Nat) (xs : Nat → Int32) : decode (ax_code (mgT L xs) 116) 140 = .ok (.aload_n 0, 1) := by
  show decode prog_11_method_49_code 140 = _
  decide +kernel
theorem d116_141 (L : Nat) (xs : Nat → Int32) : decode (ax_code (mgT L xs) 116) 141 = .ok (.getfield 140, 3) := by
  show decode prog_11_method_49_code 141 = _
  decide +kernel
theorem d116_144 (L : Nat) (xs : Nat → Int32) : decode (ax_code (mgT L xs) 116) 144 = .ok (.ifCond .le 10, 3) := by
  show decode prog_11_method_49_code 144 = _
  decide +kernel
theorem d116_147 (L : Nat) (xs : Nat → Int32) : decode (ax_code (mgT L xs) 116) 147 = .ok (.aload_n 0, 1) := by
  show decode prog_11_method_49_code 147 = _
  decide +kernel
theorem d116_148 (L : Nat) (xs : Nat → Int32) : decode (ax_code (mgT L xs) 116) 148 = .ok (.invokevirtual 283, 3) := by
  show decode prog_11_method_49_code 148 = _
  decide +kernel
theorem d116_151 (L : Nat) (xs : Nat → Int32) : decode (ax_code (mgT L xs) 116) 151 = .ok (.goto (-11), 3) := by
  show decode prog_11_method_49_code 151 = _
  decide +kernel
theorem d116_154 (L : Nat) (xs : Nat → Int32) : decode (ax_code (mgT L xs) 116) 154 = .ok (.aload_n 0, 1) := by
  show decode prog_11_method_49_code 154 = _
  decide +kernel
theorem d116_155 (L : Nat) (xs : Nat → Int32) : decode (ax_code (mgT L xs) 116) 155 = .ok (.aload_n 0, 1) := by
  show decode prog_11_method_49_code 155 = _
  decide +kernel
theorem d116_156 (L : Nat) (xs : Nat → Int32) : decode (ax_code (mgT L xs) 116) 156 = .ok (.getfield 200, 3) := by
  show decode prog_11_method_49_code 156 = _
  decide +kernel
theorem d116_159 (L : Nat) (xs : Nat → Int32) : decode (ax_code (mgT L xs) 116) 159 = .ok (.iconst 4, 1) := by
  show decode prog_11_method_49_code 159 = _
  decide +kernel
theorem d116_160 (L : Nat) (xs : Nat → Int32) : decode (ax_code (mgT L xs) 116) 160 = .ok (.if_icmp .le 7, 3) := by
  show decode prog_11_method_49_code 160 = _
  decide +kernel
theorem d116_163 (L : Nat) (xs : Nat → Int32) : decode (ax_code (mgT L xs) 116) 163 = .ok (.iconst (-1), 1) := by
  show decode prog_11_method_49_code 163 = _
  decide +kernel
theorem d116_164 (L : Nat) (xs : Nat → Int32) : decode (ax_code (mgT L xs) 116) 164 = .ok (.goto 7, 3) := by
  show decode prog_11_method_49_code 164 = _
  decide +kernel
theorem d116_167 (L : Nat) (xs : Nat → Int32) : decode (ax_code (mgT L xs) 116) 167 = .ok (.aload_n 0, 1) := by
  show decode prog_11_method_49_code 167 = _
  decide +kernel
theorem d116_168 (L : Nat) (xs : Nat → Int32) : decode (ax_code (mgT L xs) 116) 168 = .ok (.getfield 224, 3) := by
  show decode prog_11_method_49_code 168 = _
  decide +kernel
theorem d116_171 (L : Nat) (xs : Nat → Int32) : decode (ax_code (mgT L xs) 116) 171 = .ok (.putfield 224, 3) := by
  show decode prog_11_method_49_code 171 = _
  decide +kernel
theorem d116_174 (L : Nat) (xs : Nat → Int32) : decode (ax_code (mgT L xs) 116) 174 = .ok (.aload_n 0, 1) := by
  show decode prog_11_method_49_code 174 = _
  decide +kernel
theorem d116_175 (L : Nat) (xs : Nat → Int32) : decode (ax_code (mgT L xs) 116) 175 = .ok (.getfield 200, 3) := by
  show decode prog_11_method_49_code 175 = _
  decide +kernel
theorem d116_178 (L : Nat) (xs : Nat → Int32) : decode (ax_code (mgT L xs) 116) 178 = .ok (.ireturn, 1) := by
  show decode prog_11_method_49_code 178 = _
  decide +kernel
/-- inner checks leave the mechanism that matched alone -/
def okMi (inn : List Nat → ckS → Nat × ckS) : Prop := ∀ nm σ, (inn nm σ).2.2.2.1 = σ.2.2.1
theorem ma_m {E : ckE} {inn : List Nat → ckS → Nat × ckS} {D dom : List Nat} {t : tmT} {σ : ckS} (h : okMi inn) : (x_ma E inn D dom t σ).2.2.2.1 = σ.2.2.1 := by
  unfold x_ma
  split
  · rfl
  · split
    · rfl
    · split
      · unfold x_mb
        split
        · exact h _ _
        · split
          · unfold x_mc
            split
            · rfl
            · split <;> rfl
          · rfl
      · rfl
theorem rd_m {E : ckE} {inn : List Nat → ckS → Nat × ckS} {D dom : List Nat} {rf rt : Nat} {σ : ckS} (h : okMi inn) : (x_rd E inn D dom rf rt σ).2.2.2.1 = σ.2.2.1 := by
  unfold x_rd
  split
  · split
    · exact h _ _
    · rfl
  · rfl
theorem gt_m {E : ckE} {inn : List Nat → ckS → Nat × ckS} {dep : Nat} {D dom : List Nat} (h : okMi inn) : ∀ (m st i n rf rt : Nat) (σ : ckS), ¬ dep = 0 ∨ 5 ≤ (x_gt E inn dep D dom m st i n rf rt σ).1 → (x_gt E inn dep D dom m st i n rf rt σ).2.2.2.1 = σ.2.2.1 := by
  intro m
  induction m with
  | zero => intro st i n rf rt σ _; exact rd_m h
  | succ m ih =>
    intro st i n rf rt σ hd
    rw [x_gt] at hd ⊢
    by_cases c1 : i = D.length ∨ gl D i = 32
    · rw [if_pos c1] at hd ⊢
      by_cases c2 : st < i
      · rw [if_pos c2] at hd ⊢
        cases hq : t_term (gl D) st i with
        | none => rw [hq] at hd; exact ih _ _ _ _ _ _ hd
        | some t =>
          rw [hq] at hd
          dsimp only at hd ⊢
          have ho := t_term_ok c2 hq
          have hm := ma_m (E := E) (D := D) (dom := dom) (t := t) (σ := σ) h
          by_cases c6 : t.1 < 6
          · rw [if_pos c6] at hd ⊢
            by_cases a1 : (x_ma E inn D dom t σ).1 = 1
            · rw [if_pos a1] at hd ⊢
              have hd0 : ¬ dep = 0 := hd.resolve_right (by show ¬ 5 ≤ t.2.1; have := ho.2.2.2.1 c6; omega)
              rw [st_mt_ne hd0]; exact hm
            · rw [if_neg a1] at hd ⊢
              by_cases a0 : (x_ma E inn D dom t σ).1 = 0
              · rw [if_pos a0] at hd ⊢
                exact (ih _ _ _ _ _ _ hd).trans hm
              · rw [if_neg a0] at hd ⊢
                exact hm
          · rw [if_neg c6] at hd ⊢
            by_cases a6 : t.1 = 6
            · rw [if_pos a6] at hd ⊢; exact ih _ _ _ _ _ _ hd
            · rw [if_neg a6] at hd ⊢; exact ih _ _ _ _ _ _ hd
      · rw [if_neg c2] at hd ⊢; exact ih _ _ _ _ _ _ hd
    · rw [if_neg c1] at hd ⊢; exact ih _ _ _ _ _ _ hd
theorem e1_m {E : ckE} {inn : List Nat → ckS → Nat × ckS} {dep : Nat} {dom : List Nat} {σ : ckS} (h : okMi inn) (hd : ¬ dep = 0 ∨ 5 ≤ (x_e1 E inn dep dom σ).1) : (x_e1 E inn dep dom σ).2.2.2.1 = σ.2.2.1 := by
  unfold x_e1 at hd ⊢
  by_cases c1 : f_last (gl dom) 1 0 dom.length = 0
  · rw [if_pos c1]
  · rw [if_neg c1] at hd ⊢
    unfold x_e2 at hd ⊢
    cases hq : f_ask dom 2 E.1 0 with
    | none => rfl
    | some _ =>
      rw [hq] at hd
      dsimp only at hd ⊢
      cases hr : f_recs dom E.1 with
      | nil => rfl
      | cons q l =>
        rw [hr] at hd
        cases l with
        | nil =>
          dsimp only at hd ⊢
          unfold x_e3 at hd ⊢
          by_cases c3 : t_al q.2.2.1 = true
          · rw [if_pos c3] at hd ⊢
            exact gt_m h _ _ _ _ _ _ _ hd
          · rw [if_neg c3]; rfl
        | cons q2 l => rfl
theorem ev_m {E : ckE} : ∀ (n dep : Nat) (dom : List Nat) (σ : ckS), ¬ dep = 0 ∨ 5 ≤ (x_ev E n dep dom σ).1 → (x_ev E n dep dom σ).2.2.2.1 = σ.2.2.1 := by
  intro n
  induction n with
  | zero => intro dep dom σ hd; exact e1_m (fun nm σ => rfl) hd
  | succ n ih =>
    intro dep dom σ hd
    refine e1_m (fun nm σ => ?_) hd
    unfold x_in
    split
    · exact ih (dep + 1) nm σ (Or.inl (by omega))
    · rfl
section KK
variable {L : Nat} {xs : Nat → Int32} {d : Nat} {l : List Nat} {s : mg_s} {E : ckE} {Q : Option Value → mg_s → Prop}
theorem md_ck_c {a : Int32} (hcap : l.length ≤ 48) : ∀ (q k : Nat) (s : mg_s), k + q = l.length → s.1 141 1 = nI l.length → holdA s 142 0 l → (∀ j, j < k → s.2.1 148 j = nI (gl l j)) → (∀ j, j < k → s.2.1 163 j = nI (gl l j)) → (∀ s', mfr s s' [] [148, 163] → holdA s' 148 0 l → holdA s' 163 0 l → wp L xs (d + 10) 116 124 [some (.ref 141), some (.int a), some (.int (nI l.length))] [] s' Q) → wp L xs (d + 10) 116 86 [some (.ref 141), some (.int a), some (.int (nI k))] [] s Q := by
  intro q
  induction q with
  | zero =>
    intro k s hk h1 hsrc hd1 hd2 kk
    have hk0 : k = l.length := by omega
    subst hk0
    refine wg_iload_n (d116_86 L xs) rfl ?_
    refine wg_aload_n (d116_87 L xs) rfl ?_
    refine wg_get (d116_88 L xs) (kd := 1) (cj := 9) (k0 := 1) rfl (Or.inl rfl) (by decide) rfl rfl ?_
    refine wg_top (y := (nI l.length)) h1 ?_
    refine wn_icmp_ge (d116_91 L xs) (x := l.length) (y := l.length) (by omega) (by omega) (t := 124) (by decide) (fun h21 => ?_) (fun h21 => by omega)
    exact kk s (mfr.rf s _ _) ⟨hsrc.1, fun j hj => by rw [Nat.zero_add]; exact hd1 j hj⟩ ⟨hsrc.1, fun j hj => by rw [Nat.zero_add]; exact hd2 j hj⟩
  | succ q ih =>
    intro k s hk h1 hsrc hd1 hd2 kk
    have hgk := gl_lt hsrc.1 k
    have hck : s.2.1 142 k = nI (gl l k) := by have := hsrc.2 k (by omega); rw [Nat.zero_add] at this; exact this
    refine wg_iload_n (d116_86 L xs) rfl ?_
    refine wg_aload_n (d116_87 L xs) rfl ?_
    refine wg_get (d116_88 L xs) (kd := 1) (cj := 9) (k0 := 1) rfl (Or.inl rfl) (by decide) rfl rfl ?_
    refine wg_top (y := (nI l.length)) h1 ?_
    refine wn_icmp_ge (d116_91 L xs) (x := k) (y := l.length) (by omega) (by omega) (t := 124) (by decide) (fun h21 => by omega) (fun h21 => ?_)
    refine wg_aload_n (d116_94 L xs) rfl ?_
    refine wg_get (d116_95 L xs) (kd := 1) (cj := 9) (k0 := 11) rfl (Or.inl rfl) (by decide) rfl rfl ?_
    refine wg_iload_n (d116_98 L xs) rfl ?_
    refine wg_aload_n (d116_99 L xs) rfl ?_
    refine wg_get (d116_100 L xs) (kd := 1) (cj := 9) (k0 := 2) rfl (Or.inl rfl) (by decide) rfl rfl ?_
    refine wg_iload_n (d116_103 L xs) rfl ?_
    refine wg_iald (d116_104 L xs) (n := 100) (by decide) rfl (vp_in_nI (n := k) (by omega) (by omega)) ?_
    refine wg_top (y := (nI (gl l k))) (by rw [nI_nat (n := k) (by omega)]; exact hck) ?_
    refine wg_iast (d116_105 L xs) (n := 60) (by decide) rfl (vp_in_nI (n := k) (by omega) (by omega)) rfl ?_
    rw [nI_nat (n := k) (by omega)]
    refine wg_aload_n (d116_106 L xs) rfl ?_
    refine wg_get (d116_107 L xs) (kd := 1) (cj := 9) (k0 := 42) rfl (Or.inl rfl) (by decide) rfl rfl ?_
    refine wg_iload_n (d116_110 L xs) rfl ?_
    refine wg_aload_n (d116_111 L xs) rfl ?_
    refine wg_get (d116_112 L xs) (kd := 1) (cj := 9) (k0 := 2) rfl (Or.inl rfl) (by decide) rfl rfl ?_
    refine wg_iload_n (d116_115 L xs) rfl ?_
    refine wg_iald (d116_116 L xs) (n := 100) (by decide) rfl (vp_in_nI (n := k) (by omega) (by omega)) ?_
    refine wg_top (y := (nI (gl l k))) (by rw [nI_nat (n := k) (by omega)]; exact ((mA_ne _ _ (Or.inl (by omega))).trans hck)) ?_
    refine wg_iast (d116_117 L xs) (n := 48) (by decide) rfl (vp_in_nI (n := k) (by omega) (by omega)) rfl ?_
    rw [nI_nat (n := k) (by omega)]
    refine wg_iinc (d116_118 L xs) (y := (nI (k + 1))) (ls' := [some (.ref 141), some (.int a), some (.int (nI (k + 1)))]) rfl (nI_add k 1) rfl ?_
    refine wg_goto (d116_121 L xs) (t := 86) (by decide) ?_
    refine ih (k + 1) _ (by omega) h1 (holdA_A (holdA_A hsrc (by decide)) (by decide)) (fun j hj => ?_) (fun j hj => ?_) (fun s' m1 => kk s' (((mfr_A s (by decide)).trans (mfr_A _ (by decide))).trans m1))
    · refine (mA_ne _ _ (Or.inl (by omega))).trans ?_
      by_cases e : j = k
      · subst e; exact mA_at _ _ _ _
      · exact (mA_ne _ _ (Or.inr e)).trans (hd1 j (by omega))
    · by_cases e : j = k
      · subst e; exact mA_at _ _ _ _
      · exact (mA_ne _ _ (Or.inr e)).trans ((mA_ne _ _ (Or.inl (by omega))).trans (hd2 j (by omega)))
theorem md_ck_l {a : Int32} {fin : Nat × ckS} {c2 : Option Value} : ∀ (μ : Nat) (s : mg_s), isE s E → kOut s E fin μ → (∀ s', mfr s s' kF kA → s'.1 141 36 = nI fin.1 → isSg s' fin.2 → wp L xs (d + 10) 116 154 [some (.ref 141), some (.int a), c2] [] s' Q) → wp L xs (d + 10) 116 140 [some (.ref 141), some (.int a), c2] [] s Q := by
  intro μ
  induction μ with
  | zero =>
    intro s hE hk kk
    rcases hk with ⟨h23, h36, hsg⟩ | ⟨f, fs, σ, h23, hst, hsg, hok, hfin, hmu, hdp⟩
    · refine wg_aload_n (d116_140 L xs) rfl ?_
      refine wg_get (d116_141 L xs) (kd := 1) (cj := 9) (k0 := 23) rfl (Or.inl rfl) (by decide) rfl rfl ?_
      refine wg_top (y := 0) h23 ?_
      refine wg_if_le (d116_144 L xs) (t := 154) (by decide) (fun _ => ?_) (fun hn => absurd (by decide) hn)
      exact kk s (mfr.rf s _ _) h36 hsg
    · exact absurd hmu (by omega)
  | succ μ ih =>
    intro s hE hk kk
    rcases hk with ⟨h23, h36, hsg⟩ | ⟨f, fs, σ, h23, hst, hsg, hok, hfin, hmu, hdp⟩
    · refine wg_aload_n (d116_140 L xs) rfl ?_
      refine wg_get (d116_141 L xs) (kd := 1) (cj := 9) (k0 := 23) rfl (Or.inl rfl) (by decide) rfl rfl ?_
      refine wg_top (y := 0) h23 ?_
      refine wg_if_le (d116_144 L xs) (t := 154) (by decide) (fun _ => ?_) (fun hn => absurd (by decide) hn)
      exact kk s (mfr.rf s _ _) h36 hsg
    · have hl10 := hok.1
      refine wg_aload_n (d116_140 L xs) rfl ?_
      refine wg_get (d116_141 L xs) (kd := 1) (cj := 9) (k0 := 23) rfl (Or.inl rfl) (by decide) rfl rfl ?_
      refine wg_top (y := (nI (fs.length + 1))) h23 ?_
      refine wn_if_le (d116_144 L xs) (x := fs.length + 1) (by omega) (t := 154) (by decide) (fun h41 => by omega) (fun h41 => ?_)
      refine wg_aload_n (d116_147 L xs) rfl ?_
      refine wg_invv (d116_148 L xs) (kd := 7) (mj := 136) (n := 0) rfl (Or.inl rfl) (ys := []) (r := []) rfl rfl (by decide) rfl rfl (Nat.le_of_ble_eq_true rfl) (md_step hst h23 hE hsg hok hdp) ?_
      rintro _ s1 ⟨rfl, hm1, hko⟩
      refine wg_goto (d116_151 L xs) (t := 140) (by decide) ?_
      rw [hfin] at hko
      exact ih s1 (isE_of hE hm1 (fun _ q => q) (fun _ q => q)) (kOut_le hko (by omega)) (fun s' m2 b36 bsg => kk s' (hm1.trans m2) b36 bsg)
theorem md_checkF (h1 : s.1 141 1 = nI l.length) (hl : holdA s 142 0 l) (hl100 : l.length ≤ 100) {a : Int32} (hN : t_name (gl l) 0 l.length = false) : ca L xs (d + 11) 116 [.ref 141, .int a] s (fun v s' => v = some (.int 0) ∧ mg_I s 141 0 1 = s') := by
  refine wg_call (Nat.le_of_ble_eq_true rfl) ?_
  show wp L xs (d + 10) 116 0 [some (.ref 141), some (.int a), none] [] s _
  refine wg_aload_n (d116_0 L xs) rfl ?_
  refine wg_aload_n (d116_1 L xs) rfl ?_
  refine wg_get (d116_2 L xs) (kd := 1) (cj := 9) (k0 := 2) rfl (Or.inl rfl) (by decide) rfl rfl ?_
  refine wg_iconst (d116_5 L xs) (x := 0) (by decide) ?_
  refine wg_aload_n (d116_6 L xs) rfl ?_
  refine wg_get (d116_7 L xs) (kd := 1) (cj := 9) (k0 := 1) rfl (Or.inl rfl) (by decide) rfl rfl ?_
  refine wg_top (y := (nI l.length)) h1 ?_
  refine wg_invs (d116_10 L xs) (kd := 6) (mj := 110) (n := 3) rfl (Or.inl rfl) (ys := [.int (nI l.length), .int 0, .ref 142]) (r := [.ref 141]) rfl rfl (Nat.le_of_ble_eq_true rfl) (by have h := md_isName (L := L) (xs := xs) (d := d + 8) (s := s) (q := 142) (N := 100) (fr := 0) (to := l.length) (g := gl l) isA_all.1 (fun k hk => ⟨by have := hl.2 k hk; rw [Nat.zero_add] at this; exact this, Nat.lt_trans (gl_lt hl.1 k) (by decide)⟩) hl100 (by omega) (by omega); rw [hN] at h; exact h) ?_
  rintro _ _ ⟨rfl, rfl⟩
  refine wg_if_eq (d116_13 L xs) (t := 20) (by decide) (fun _ => ?_) (fun hn => absurd (by decide) hn)
  refine wg_iconst (d116_20 L xs) (x := 1) (by decide) ?_
  refine wg_puti (d116_21 L xs) (cj := 9) (k0 := 0) rfl (by decide) rfl (Nat.le_of_ble_eq_true rfl) rfl rfl rfl ?_
  refine wg_aload_n (d116_24 L xs) rfl ?_
  refine wg_get (d116_25 L xs) (kd := 1) (cj := 9) (k0 := 0) rfl (Or.inl rfl) (by decide) rfl rfl ?_
  refine wg_top (y := 1) rfl ?_
  refine wg_if_le (d116_28 L xs) (t := 33) (by decide) (fun hp => absurd hp (by decide)) (fun _ => ?_)
  refine wg_iconst (d116_31 L xs) (x := 0) (by decide) ?_
  exact wg_iret (d116_32 L xs) rfl rfl ⟨rfl, rfl⟩
theorem tab_not : ∀ a, 143 ≤ a → a ≤ 147 → a ∉ kA ++ [163] := fun a q1 q2 => by
  have : a = 143 ∨ a = 144 ∨ a = 145 ∨ a = 146 ∨ a = 147 := by omega
  rcases this with e | e | e | e | e <;> (subst e; decide)
theorem md_checkT {R : List rowT} {a : Int32} (h1 : s.1 141 1 = nI l.length) (hl : holdA s 142 0 l) (hl100 : l.length ≤ 100) (hN : t_name (gl l) 0 l.length = true) (T : isTabM s R) : ca L xs (d + 11) 116 [.ref 141, .int a] s (fun v s' => v = some (.int (nI (x_ev (R, a, f_adr a, l) 10 0 l (0, 0, -1, 0, [])).1)) ∧ mfr s s' (kF ++ [0, 1, 34, 35, 41]) (kA ++ [163]) ∧ s'.1 141 0 = 0 ∧ s'.1 141 1 = 0 ∧ s'.1 141 34 = 1 ∧ s'.1 141 36 = nI (x_ev (R, a, f_adr a, l) 10 0 l (0, 0, -1, 0, [])).1 ∧ isE s' (R, a, f_adr a, l) ∧ isSg s' (x_ev (R, a, f_adr a, l) 10 0 l (0, 0, -1, 0, [])).2) := by
  refine wg_call (Nat.le_of_ble_eq_true rfl) ?_
  have hnl := t_name_len hN
  show wp L xs (d + 10) 116 0 [some (.ref 141), some (.int a), none] [] s _
  refine wg_aload_n (d116_0 L xs) rfl ?_
  refine wg_aload_n (d116_1 L xs) rfl ?_
  refine wg_get (d116_2 L xs) (kd := 1) (cj := 9) (k0 := 2) rfl (Or.inl rfl) (by decide) rfl rfl ?_
  refine wg_iconst (d116_5 L xs) (x := 0) (by decide) ?_
  refine wg_aload_n (d116_6 L xs) rfl ?_
  refine wg_get (d116_7 L xs) (kd := 1) (cj := 9) (k0 := 1) rfl (Or.inl rfl) (by decide) rfl rfl ?_
  refine wg_top (y := (nI l.length)) h1 ?_
  refine wg_invs (d116_10 L xs) (kd := 6) (mj := 110) (n := 3) rfl (Or.inl rfl) (ys := [.int (nI l.length), .int 0, .ref 142]) (r := [.ref 141]) rfl rfl (Nat.le_of_ble_eq_true rfl) (by have h := md_isName (L := L) (xs := xs) (d := d + 8) (s := s) (q := 142) (N := 100) (fr := 0) (to := l.length) (g := gl l) isA_all.1 (fun k hk => ⟨by have := hl.2 k hk; rw [Nat.zero_add] at this; exact this, Nat.lt_trans (gl_lt hl.1 k) (by decide)⟩) hl100 (by omega) (by omega); rw [hN] at h; exact h) ?_
  rintro _ _ ⟨rfl, rfl⟩
  refine wg_if_eq (d116_13 L xs) (t := 20) (by decide) (fun hp => absurd hp (by decide)) (fun _ => ?_)
  refine wg_iconst (d116_16 L xs) (x := 0) (by decide) ?_
  refine wg_goto (d116_17 L xs) (t := 21) (by decide) ?_
  refine wg_puti (d116_21 L xs) (cj := 9) (k0 := 0) rfl (by decide) rfl (Nat.le_of_ble_eq_true rfl) rfl rfl rfl ?_
  refine wg_aload_n (d116_24 L xs) rfl ?_
  refine wg_get (d116_25 L xs) (kd := 1) (cj := 9) (k0 := 0) rfl (Or.inl rfl) (by decide) rfl rfl ?_
  refine wg_top (y := 0) rfl ?_
  refine wg_if_le (d116_28 L xs) (t := 33) (by decide) (fun _ => ?_) (fun hn => absurd (by decide) hn)
  refine wg_aload_n (d116_33 L xs) rfl ?_
  refine wg_iconst (d116_34 L xs) (x := 1) (by decide) ?_
  refine wg_putz (d116_35 L xs) (cj := 9) (k0 := 34) rfl (by decide) rfl (Nat.le_of_ble_eq_true rfl) rfl (by decide) rfl rfl ?_
  refine wg_aload_n (d116_38 L xs) rfl ?_
  refine wg_iload_n (d116_39 L xs) rfl ?_
  refine wg_puti (d116_40 L xs) (cj := 9) (k0 := 35) rfl (by decide) rfl (Nat.le_of_ble_eq_true rfl) rfl rfl rfl ?_
  refine wg_aload_n (d116_43 L xs) rfl ?_
  refine wg_iconst (d116_44 L xs) (x := 0) (by decide) ?_
  refine wg_puti (d116_45 L xs) (cj := 9) (k0 := 37) rfl (by decide) rfl (Nat.le_of_ble_eq_true rfl) rfl rfl rfl ?_
  refine wg_aload_n (d116_48 L xs) rfl ?_
  refine wg_iconst (d116_49 L xs) (x := 0) (by decide) ?_
  refine wg_puti (d116_50 L xs) (cj := 9) (k0 := 38) rfl (by decide) rfl (Nat.le_of_ble_eq_true rfl) rfl rfl rfl ?_
  refine wg_aload_n (d116_53 L xs) rfl ?_
  refine wg_iconst (d116_54 L xs) (x := (-1)) (by decide) ?_
  refine wg_puti (d116_55 L xs) (cj := 9) (k0 := 39) rfl (by decide) rfl (Nat.le_of_ble_eq_true rfl) rfl rfl rfl ?_
  refine wg_aload_n (d116_58 L xs) rfl ?_
  refine wg_iconst (d116_59 L xs) (x := 0) (by decide) ?_
  refine wg_puti (d116_60 L xs) (cj := 9) (k0 := 40) rfl (by decide) rfl (Nat.le_of_ble_eq_true rfl) rfl rfl rfl ?_
  refine wg_aload_n (d116_63 L xs) rfl ?_
  refine wg_iconst (d116_64 L xs) (x := 0) (by decide) ?_
  refine wg_putz (d116_65 L xs) (cj := 9) (k0 := 14) rfl (by decide) rfl (Nat.le_of_ble_eq_true rfl) rfl (by decide) rfl rfl ?_
  refine wg_aload_n (d116_68 L xs) rfl ?_
  refine wg_aload_n (d116_69 L xs) rfl ?_
  refine wg_get (d116_70 L xs) (kd := 1) (cj := 9) (k0 := 1) rfl (Or.inl rfl) (by decide) rfl rfl ?_
  refine wg_top (y := (nI l.length)) h1 ?_
  refine wg_puti (d116_73 L xs) (cj := 9) (k0 := 10) rfl (by decide) rfl (Nat.le_of_ble_eq_true rfl) rfl rfl rfl ?_
  refine wg_aload_n (d116_76 L xs) rfl ?_
  refine wg_aload_n (d116_77 L xs) rfl ?_
  refine wg_get (d116_78 L xs) (kd := 1) (cj := 9) (k0 := 1) rfl (Or.inl rfl) (by decide) rfl rfl ?_
  refine wg_top (y := (nI l.length)) h1 ?_
  refine wg_puti (d116_81 L xs) (cj := 9) (k0 := 41) rfl (by decide) rfl (Nat.le_of_ble_eq_true rfl) rfl rfl rfl ?_
  refine wg_iconst (d116_84 L xs) (x := 0) (by decide) ?_
  refine wg_istore_n (d116_85 L xs) (ls' := [some (.ref 141), some (.int a), some (.int 0)]) (Nat.le_of_ble_eq_true rfl) rfl ?_
  generalize hs0 : (mg_I (mg_I (mg_I (mg_I (mg_I (mg_I (mg_I (mg_I (mg_I (mg_I s 141 0 0) 141 34 1) 141 35 a) 141 37 0) 141 38 0) 141 39 (-1)) 141 40 0) 141 14 0) 141 10 (nI l.length)) 141 41 (nI l.length)) = s0
  have m0 : mfr s s0 (kF ++ [0, 1, 34, 35, 41]) (kA ++ [163]) := by rw [← hs0]; exact ((((((((((mfr_I s (by decide)).trans (mfr_I _ (by decide))).trans (mfr_I _ (by decide))).trans (mfr_I _ (by decide))).trans (mfr_I _ (by decide))).trans (mfr_I _ (by decide))).trans (mfr_I _ (by decide))).trans (mfr_I _ (by decide))).trans (mfr_I _ (by decide))).trans (mfr_I _ (by decide)))
  have a1 : s0.1 141 1 = nI l.length := by rw [← hs0]; exact h1
  have a10 : s0.1 141 10 = nI l.length := by rw [← hs0]; rfl
  have a41 : s0.1 141 41 = nI l.length := by rw [← hs0]; rfl
  have a35 : s0.1 141 35 = a := by rw [← hs0]; rfl
  have a0 : s0.1 141 0 = 0 := by rw [← hs0]; rfl
  have a34 : s0.1 141 34 = 1 := by rw [← hs0]; rfl
  have asg : isSg s0 (0, 0, -1, 0, []) := by rw [← hs0]; exact ⟨rfl, rfl, rfl, rfl, fun _ => rfl, fun q => absurd rfl q⟩
  have aT : isTabM s0 R := m0.tab (by decide) (tab_not) T
  refine md_ck_c (by omega) l.length 0 s0 (by omega) a1 (m0.hold (by decide) hl) (fun j hj => absurd hj (by omega)) (fun j hj => absurd hj (by omega)) (fun s1 m1 b148 b163 => ?_)
  have m12 : mfr s0 (mg_I (mg_I s1 141 1 0) 141 23 0) (kF ++ [0, 1, 34, 35, 41]) (kA ++ [163]) := ((m1.more (by decide) (by decide)).trans (mfr_I _ (by decide))).trans (mfr_I _ (by decide))
  have bE : isE (mg_I (mg_I s1 141 1 0) 141 23 0) (R, a, f_adr a, l) := ⟨m12.tab (by decide) tab_not aT, (m1.2.1 35 (by decide)).trans a35, (m1.2.1 41 (by decide)).trans a41, holdA_of b163 rfl, hN, rfl⟩
  refine wg_aload_n (d116_124 L xs) rfl ?_
  refine wg_iconst (d116_125 L xs) (x := 0) (by decide) ?_
  refine wg_puti (d116_126 L xs) (cj := 9) (k0 := 1) rfl (by decide) rfl (Nat.le_of_ble_eq_true rfl) rfl rfl rfl ?_
  refine wg_aload_n (d116_129 L xs) rfl ?_
  refine wg_iconst (d116_130 L xs) (x := 0) (by decide) ?_
  refine wg_puti (d116_131 L xs) (cj := 9) (k0 := 23) rfl (by decide) rfl (Nat.le_of_ble_eq_true rfl) rfl rfl rfl ?_
  refine wg_aload_n (d116_134 L xs) rfl ?_
  refine wg_iconst (d116_135 L xs) (x := 0) (by decide) ?_
  refine wg_iconst (d116_136 L xs) (x := 0) (by decide) ?_
  refine wg_invv (d116_137 L xs) (kd := 7) (mj := 117) (n := 2) rfl (Or.inl rfl) (ys := [.int 0, .int 0]) (r := []) rfl rfl (by decide) rfl rfl (Nat.le_of_ble_eq_true rfl) (md_begin (d := d + 2) (E := (R, a, f_adr a, l)) (fs := []) (how := 0) (sg := 0) (nm := l) (σ := (0, 0, -1, 0, [])) (s := mg_I (mg_I s1 141 1 0) 141 23 0) bE ((m1.2.1 10 (by decide)).trans a10) (holdA_of b148 rfl) hN rfl (by omega) ⟨fun _ => rfl, fun _ => rfl⟩ (fun z => absurd z (by decide)) (by omega) (fun z => absurd z (by decide)) trivial (isSg_I (isSg_I (isSg_of asg m1 (by decide) (by decide)) (by decide)) (by decide)) ⟨Nat.zero_le _, Nat.zero_le _⟩ (Nat.zero_le _)) ?_
  rintro _ s2 ⟨rfl, hm2, hko⟩
  have hfe : k_ret (R, a, f_adr a, l) [] 0 0 (x_ev (R, a, f_adr a, l) 10 0 l (0, 0, -1, 0, [])) = x_ev (R, a, f_adr a, l) 10 0 l (0, 0, -1, 0, []) := rfl
  have hoR := ok_ev (E := (R, a, f_adr a, l)) 10 0 l (0, 0, -1, 0, []) ⟨Nat.zero_le _, Nat.zero_le _⟩
  have hmm := ev_m (E := (R, a, f_adr a, l)) 10 0 l (0, 0, -1, 0, [])
  change kOut s2 (R, a, f_adr a, l) (x_ev (R, a, f_adr a, l) 10 0 l (0, 0, -1, 0, [])) _ at hko
  generalize hrr : x_ev (R, a, f_adr a, l) 10 0 l (0, 0, -1, 0, []) = rr at hko hoR hmm ⊢
  refine md_ck_l _ s2 (isE_of bE hm2 (fun _ q => q) (fun _ q => q)) hko (fun s3 m3 b36 bsg => ?_)
  have hr6 := hoR.1
  have m03 : mfr s s3 (kF ++ [0, 1, 34, 35, 41]) (kA ++ [163]) := (m0.trans m12).trans ((hm2.trans m3).more (by decide) (by decide))
  have m23 := hm2.trans m3
  have hE3 := isE_of bE m23 (fun _ q => q) (fun _ q => q)
  have e0 : s3.1 141 0 = 0 := (m23.2.1 0 (by decide)).trans ((m1.2.1 0 (by decide)).trans a0)
  have e1 : s3.1 141 1 = 0 := m23.2.1 1 (by decide)
  have e34 : s3.1 141 34 = 1 := (m23.2.1 34 (by decide)).trans ((m1.2.1 34 (by decide)).trans a34)
  refine wg_aload_n (d116_154 L xs) rfl ?_
  refine wg_aload_n (d116_155 L xs) rfl ?_
  refine wg_get (d116_156 L xs) (kd := 1) (cj := 9) (k0 := 36) rfl (Or.inl rfl) (by decide) rfl rfl ?_
  refine wg_top (y := (nI rr.1)) b36 ?_
  refine wg_iconst (d116_159 L xs) (x := 4) (by decide) ?_
  refine wn_icmp_le (d116_160 L xs) (x := rr.1) (y := 4) (by omega) (by omega) (t := 167) (by decide) (fun h61 => ?_) (fun h61 => ?_)
  · refine wg_aload_n (d116_167 L xs) rfl ?_
    refine wg_get (d116_168 L xs) (kd := 1) (cj := 9) (k0 := 39) rfl (Or.inl rfl) (by decide) rfl rfl ?_
    refine wg_puti (d116_171 L xs) (cj := 9) (k0 := 39) rfl (by decide) rfl (Nat.le_of_ble_eq_true rfl) rfl rfl rfl ?_
    refine wg_aload_n (d116_174 L xs) rfl ?_
    refine wg_get (d116_175 L xs) (kd := 1) (cj := 9) (k0 := 36) rfl (Or.inl rfl) (by decide) rfl rfl ?_
    refine wg_top (y := (nI rr.1)) b36 ?_
    exact wg_iret (d116_178 L xs) rfl rfl ⟨rfl, m03.trans (mfr_I s3 (by decide)), e0, e1, e34, b36, isE_I hE3 (by decide), ⟨bsg.1, bsg.2.1, bsg.2.2.1, bsg.2.2.2.1, bsg.2.2.2.2.1, bsg.2.2.2.2.2⟩⟩
  · refine wg_iconst (d116_163 L xs) (x := (-1)) (by decide) ?_
    refine wg_goto (d116_164 L xs) (t := 171) (by decide) ?_
    refine wg_puti (d116_171 L xs) (cj := 9) (k0 := 39) rfl (by decide) rfl (Nat.le_of_ble_eq_true rfl) rfl rfl rfl ?_
    refine wg_aload_n (d116_174 L xs) rfl ?_
    refine wg_get (d116_175 L xs) (kd := 1) (cj := 9) (k0 := 36) rfl (Or.inl rfl) (by decide) rfl rfl ?_
    refine wg_top (y := (nI rr.1)) b36 ?_
    exact wg_iret (d116_178 L xs) rfl rfl ⟨rfl, m03.trans (mfr_I s3 (by decide)), e0, e1, e34, b36, isE_I hE3 (by decide), ⟨bsg.1, bsg.2.1, (hmm (Or.inr (by omega))).symm, bsg.2.2.2.1, bsg.2.2.2.2.1, bsg.2.2.2.2.2⟩⟩
end KK
