/-! the reference: one step of a check -/
theorem d136_109 (L : Nat) (xs : Nat → Int32) : decode (ax_code (mgT L xs) 136) 109 = .ok (.aload_n 0, 1) := by
  show decode prog_11_method_48_code 109 = _
  decide +kernel
theorem d136_110 (L : Nat) (xs : Nat → Int32) : decode (ax_code (mgT L xs) 136) 110 = .ok (.iload_n 2, 1) := by
  show decode prog_11_method_48_code 110 = _
  decide +kernel
theorem d136_111 (L : Nat) (xs : Nat → Int32) : decode (ax_code (mgT L xs) 136) 111 = .ok (.iload 6, 2) := by
  show decode prog_11_method_48_code 111 = _
  decide +kernel
theorem d136_113 (L : Nat) (xs : Nat → Int32) : decode (ax_code (mgT L xs) 136) 113 = .ok (.iload 4, 2) := by
  show decode prog_11_method_48_code 113 = _
  decide +kernel
theorem d136_115 (L : Nat) (xs : Nat → Int32) : decode (ax_code (mgT L xs) 136) 115 = .ok (.invokevirtual 174, 3) := by
  show decode prog_11_method_48_code 115 = _
  decide +kernel
theorem d136_118 (L : Nat) (xs : Nat → Int32) : decode (ax_code (mgT L xs) 136) 118 = .ok (.istore 7, 2) := by
  show decode prog_11_method_48_code 118 = _
  decide +kernel
theorem d136_120 (L : Nat) (xs : Nat → Int32) : decode (ax_code (mgT L xs) 136) 120 = .ok (.aload_n 0, 1) := by
  show decode prog_11_method_48_code 120 = _
  decide +kernel
theorem d136_121 (L : Nat) (xs : Nat → Int32) : decode (ax_code (mgT L xs) 136) 121 = .ok (.getfield 70, 3) := by
  show decode prog_11_method_48_code 121 = _
  decide +kernel
theorem d136_124 (L : Nat) (xs : Nat → Int32) : decode (ax_code (mgT L xs) 136) 124 = .ok (.iload_n 1, 1) := by
  show decode prog_11_method_48_code 124 = _
  decide +kernel
theorem d136_125 (L : Nat) (xs : Nat → Int32) : decode (ax_code (mgT L xs) 136) 125 = .ok (.dup2, 1) := by
  show decode prog_11_method_48_code 125 = _
  decide +kernel
theorem d136_126 (L : Nat) (xs : Nat → Int32) : decode (ax_code (mgT L xs) 136) 126 = .ok (.iaload, 1) := by
  show decode prog_11_method_48_code 126 = _
  decide +kernel
theorem d136_127 (L : Nat) (xs : Nat → Int32) : decode (ax_code (mgT L xs) 136) 127 = .ok (.iconst 1, 1) := by
  show decode prog_11_method_48_code 127 = _
  decide +kernel
theorem d136_128 (L : Nat) (xs : Nat → Int32) : decode (ax_code (mgT L xs) 136) 128 = .ok (.iadd, 1) := by
  show decode prog_11_method_48_code 128 = _
  decide +kernel
theorem d136_129 (L : Nat) (xs : Nat → Int32) : decode (ax_code (mgT L xs) 136) 129 = .ok (.iastore, 1) := by
  show decode prog_11_method_48_code 129 = _
  decide +kernel
theorem d136_130 (L : Nat) (xs : Nat → Int32) : decode (ax_code (mgT L xs) 136) 130 = .ok (.aload_n 0, 1) := by
  show decode prog_11_method_48_code 130 = _
  decide +kernel
theorem d136_131 (L : Nat) (xs : Nat → Int32) : decode (ax_code (mgT L xs) 136) 131 = .ok (.iload_n 1, 1) := by
  show decode prog_11_method_48_code 131 = _
  decide +kernel
theorem d136_132 (L : Nat) (xs : Nat → Int32) : decode (ax_code (mgT L xs) 136) 132 = .ok (.iload 7, 2) := by
  show decode prog_11_method_48_code 132 = _
  decide +kernel
theorem d136_134 (L : Nat) (xs : Nat → Int32) : decode (ax_code (mgT L xs) 136) 134 = .ok (.aload_n 0, 1) := by
  show decode prog_11_method_48_code 134 = _
  decide +kernel
theorem d136_135 (L : Nat) (xs : Nat → Int32) : decode (ax_code (mgT L xs) 136) 135 = .ok (.getfield 96, 3) := by
  show decode prog_11_method_48_code 135 = _
  decide +kernel
theorem d136_138 (L : Nat) (xs : Nat → Int32) : decode (ax_code (mgT L xs) 136) 138 = .ok (.iload 4, 2) := by
  show decode prog_11_method_48_code 138 = _
  decide +kernel
theorem d136_140 (L : Nat) (xs : Nat → Int32) : decode (ax_code (mgT L xs) 136) 140 = .ok (.invokevirtual 276, 3) := by
  show decode prog_11_method_48_code 140 = _
  decide +kernel
theorem d136_143 (L : Nat) (xs : Nat → Int32) : decode (ax_code (mgT L xs) 136) 143 = .ok (.istore 8, 2) := by
  show decode prog_11_method_48_code 143 = _
  decide +kernel
theorem d136_145 (L : Nat) (xs : Nat → Int32) : decode (ax_code (mgT L xs) 136) 145 = .ok (.iload 8, 2) := by
  show decode prog_11_method_48_code 145 = _
  decide +kernel
theorem d136_147 (L : Nat) (xs : Nat → Int32) : decode (ax_code (mgT L xs) 136) 147 = .ok (.iconst 1, 1) := by
  show decode prog_11_method_48_code 147 = _
  decide +kernel
theorem d136_148 (L : Nat) (xs : Nat → Int32) : decode (ax_code (mgT L xs) 136) 148 = .ok (.if_icmp .ne 34, 3) := by
  show decode prog_11_method_48_code 148 = _
  decide +kernel
theorem d136_151 (L : Nat) (xs : Nat → Int32) : decode (ax_code (mgT L xs) 136) 151 = .ok (.aload_n 0, 1) := by
  show decode prog_11_method_48_code 151 = _
  decide +kernel
theorem d136_152 (L : Nat) (xs : Nat → Int32) : decode (ax_code (mgT L xs) 136) 152 = .ok (.iload_n 1, 1) := by
  show decode prog_11_method_48_code 152 = _
  decide +kernel
theorem d136_153 (L : Nat) (xs : Nat → Int32) : decode (ax_code (mgT L xs) 136) 153 = .ok (.ifCond .ne 14, 3) := by
  show decode prog_11_method_48_code 153 = _
  decide +kernel
theorem d136_156 (L : Nat) (xs : Nat → Int32) : decode (ax_code (mgT L xs) 136) 156 = .ok (.aload_n 0, 1) := by
  show decode prog_11_method_48_code 156 = _
  decide +kernel
theorem d136_157 (L : Nat) (xs : Nat → Int32) : decode (ax_code (mgT L xs) 136) 157 = .ok (.getfield 70, 3) := by
  show decode prog_11_method_48_code 157 = _
  decide +kernel
theorem d136_160 (L : Nat) (xs : Nat → Int32) : decode (ax_code (mgT L xs) 136) 160 = .ok (.iconst 0, 1) := by
  show decode prog_11_method_48_code 160 = _
  decide +kernel
theorem d136_161 (L : Nat) (xs : Nat → Int32) : decode (ax_code (mgT L xs) 136) 161 = .ok (.iaload, 1) := by
  show decode prog_11_method_48_code 161 = _
  decide +kernel
theorem d136_162 (L : Nat) (xs : Nat → Int32) : decode (ax_code (mgT L xs) 136) 162 = .ok (.iconst 1, 1) := by
  show decode prog_11_method_48_code 162 = _
  decide +kernel
theorem d136_163 (L : Nat) (xs : Nat → Int32) : decode (ax_code (mgT L xs) 136) 163 = .ok (.isub, 1) := by
  show decode prog_11_method_48_code 163 = _
  decide +kernel
theorem d136_164 (L : Nat) (xs : Nat → Int32) : decode (ax_code (mgT L xs) 136) 164 = .ok (.goto 7, 3) := by
  show decode prog_11_method_48_code 164 = _
  decide +kernel
theorem d136_167 (L : Nat) (xs : Nat → Int32) : decode (ax_code (mgT L xs) 136) 167 = .ok (.aload_n 0, 1) := by
  show decode prog_11_method_48_code 167 = _
  decide +kernel
theorem d136_168 (L : Nat) (xs : Nat → Int32) : decode (ax_code (mgT L xs) 136) 168 = .ok (.getfield 224, 3) := by
  show decode prog_11_method_48_code 168 = _
  decide +kernel
theorem d136_171 (L : Nat) (xs : Nat → Int32) : decode (ax_code (mgT L xs) 136) 171 = .ok (.putfield 224, 3) := by
  show decode prog_11_method_48_code 171 = _
  decide +kernel
theorem d136_174 (L : Nat) (xs : Nat → Int32) : decode (ax_code (mgT L xs) 136) 174 = .ok (.aload_n 0, 1) := by
  show decode prog_11_method_48_code 174 = _
  decide +kernel
theorem d136_175 (L : Nat) (xs : Nat → Int32) : decode (ax_code (mgT L xs) 136) 175 = .ok (.aload_n 0, 1) := by
  show decode prog_11_method_48_code 175 = _
  decide +kernel
theorem d136_176 (L : Nat) (xs : Nat → Int32) : decode (ax_code (mgT L xs) 136) 176 = .ok (.getfield 263, 3) := by
  show decode prog_11_method_48_code 176 = _
  decide +kernel
theorem d136_179 (L : Nat) (xs : Nat → Int32) : decode (ax_code (mgT L xs) 136) 179 = .ok (.invokevirtual 206, 3) := by
  show decode prog_11_method_48_code 179 = _
  decide +kernel
theorem d136_182 (L : Nat) (xs : Nat → Int32) : decode (ax_code (mgT L xs) 136) 182 = .ok (.iload 8, 2) := by
  show decode prog_11_method_48_code 182 = _
  decide +kernel
theorem d136_184 (L : Nat) (xs : Nat → Int32) : decode (ax_code (mgT L xs) 136) 184 = .ok (.ifCond .eq 4, 3) := by
  show decode prog_11_method_48_code 184 = _
  decide +kernel
theorem d136_187 (L : Nat) (xs : Nat → Int32) : decode (ax_code (mgT L xs) 136) 187 = .ok (.return_, 1) := by
  show decode prog_11_method_48_code 187 = _
  decide +kernel
theorem d136_188 (L : Nat) (xs : Nat → Int32) : decode (ax_code (mgT L xs) 136) 188 = .ok (.goto (-174), 3) := by
  show decode prog_11_method_48_code 188 = _
  decide +kernel
theorem cnt_v (o : Option Nat) (v : Nat) : (v_cnt o v).1 = 0 ∨ (v_cnt o v).1 = 1 ∨ 5 ≤ (v_cnt o v).1 := by
  cases o with
  | none => exact Or.inr (Or.inr (Nat.le_refl _))
  | some n =>
    by_cases e : n = 0
    · subst e
      by_cases e3 : 3 ≤ v + 1
      · right; right; show 5 ≤ (if 3 ≤ v + 1 then 6 else 0); rw [if_pos e3]; omega
      · left; show (if 3 ≤ v + 1 then 6 else 0) = 0; rw [if_neg e3]
    · right; left; unfold v_cnt; dsimp only; rw [if_neg e]
theorem host_v (R : List rowT) (adr : Int32) (m : List Nat) (bits v : Nat) : (x_host R adr m bits v).1 = 0 ∨ (x_host R adr m bits v).1 = 1 ∨ 5 ≤ (x_host R adr m bits v).1 := by
  by_cases h0 : (x_host R adr m bits v).1 = 0
  · exact Or.inl h0
  · by_cases h1 : (x_host R adr m bits v).1 = 1
    · exact Or.inr (Or.inl h1)
    · exact Or.inr (Or.inr (xh_5' h0 h1))
theorem fmail_v {R : List rowT} {adr : Int32} {m : List Nat} {bits : Nat} : ∀ (Rs : List rowT) (t v : Nat) (as : List Nat), (f_mail R adr m bits Rs t v as).1 = 0 ∨ (f_mail R adr m bits Rs t v as).1 = 1 ∨ 5 ≤ (f_mail R adr m bits Rs t v as).1 := by
  intro Rs
  induction Rs with
  | nil => intro t v as; exact Or.inl rfl
  | cons q Rs ih =>
    intro t v as
    rw [f_mail]
    split
    · exact Or.inl rfl
    · split
      · split
        · exact ih _ _ _
        · exact host_v R adr q.2.2.1 bits v
      · exact ih _ _ _
theorem ma_v {E : ckE} {inn : List Nat → ckS → Nat × ckS} {D dom : List Nat} {t : tmT} {σ : ckS} (h1 : ¬ t.1 = 1) : ((x_ma E inn D dom t σ).1 = 0 ∨ (x_ma E inn D dom t σ).1 = 1 ∨ 5 ≤ (x_ma E inn D dom t σ).1) ∧ σ.1 ≤ (x_ma E inn D dom t σ).2.1 := by
  by_cases h0 : t.1 = 0
  · rw [ma_0 h0]; exact ⟨Or.inr (Or.inl rfl), Nat.le_refl _⟩
  · by_cases h4 : t.1 = 4
    · rw [ma_4 h4]
      have := bI_lt (c_sb (nI t.2.2.2.2.2) E.2.1 t.2.2.2.2.1)
      exact ⟨by show bI _ = 0 ∨ bI _ = 1 ∨ 5 ≤ bI _; omega, Nat.le_refl _⟩
    · by_cases hl : σ.1 < 10
      · rw [ma_b h0 h4 hl]
        cases hN : t_name (gl (x_nm E D dom t)) 0 (x_nm E D dom t).length with
        | false => rw [mb_n h1 hN]; exact ⟨Or.inl rfl, Nat.le_succ _⟩
        | true =>
          rw [mb_c h1 hN]
          unfold x_mc
          split
          · exact ⟨host_v _ _ _ _ _, Nat.le_succ _⟩
          · split
            · refine ⟨?_, Nat.le_succ _⟩
              unfold x_mail
              split
              · exact fmail_v _ _ _ _
              · exact cnt_v _ _
            · exact ⟨cnt_v _ _, Nat.le_succ _⟩
      · rw [ma_6 h0 h4 hl]; exact ⟨Or.inr (Or.inr (by show 5 ≤ 6; omega)), Nat.le_refl _⟩
theorem ok_kin {E : ckE} {dep : Nat} : okI (k_in E dep) := by
  unfold k_in
  split
  · intro nm σ h; exact ⟨Nat.le_refl _, h.1, Or.inl rfl⟩
  · exact ok_in (ok_ev _ _)
theorem isFr_nx {s s' : mg_s} {k how sg : Nat} {dom D : List Nat} {p n p' n' : Nat} {o : Nat × Nat} (h : isFr s k (how, sg, dom, D, p, n, o)) (h57 : s'.2.1 157 k = nI (dom.length + 1 + p')) (h62 : s'.2.1 162 k = nI n') (ha : ∀ a, ¬ a = 157 → ¬ a = 162 → (144 ≤ a ∧ a ≤ 146) ∨ (154 ≤ a ∧ a ≤ 162) → s'.2.1 a = s.2.1 a) : isFr s' k (how, sg, dom, D, p', n', o) := by
  obtain ⟨a1, a2, a3, a4, a5, a6, a7, a8, r, a9, a10⟩ := h
  refine ⟨?_, ?_, ?_, h62, h57, ?_, ?_, ?_, r, ?_, isRec_of a10 (ha 144 (by omega) (by omega) (by omega)) (ha 145 (by omega) (by omega) (by omega)) (ha 146 (by omega) (by omega) (by omega))⟩
  · rw [ha 160 (by omega) (by omega) (by omega)]; exact a1
  · rw [ha 161 (by omega) (by omega) (by omega)]; exact a2
  · rw [ha 155 (by omega) (by omega) (by omega)]; exact a3
  · rw [ha 158 (by omega) (by omega) (by omega)]; exact a6
  · intro q; rw [ha 159 (by omega) (by omega) (by omega)]; exact a7 q
  · intro i hi; rw [ha 154 (by omega) (by omega) (by omega)]; exact a8 i hi
  · rw [ha 156 (by omega) (by omega) (by omega)]; exact a9
theorem isStk_nx {s s' : mg_s} {how sg : Nat} {dom D : List Nat} {p n p' n' : Nat} {o : Nat × Nat} {fs : List frT} (h : isStk s ((how, sg, dom, D, p, n, o) :: fs)) (h57 : s'.2.1 157 fs.length = nI (dom.length + 1 + p')) (h62 : s'.2.1 162 fs.length = nI n') (hk : ∀ a j, ¬ j = fs.length → s'.2.1 a j = s.2.1 a j) (ha : ∀ a, ¬ a = 157 → ¬ a = 162 → s'.2.1 a = s.2.1 a) (hp : p' ≤ D.length + 1) (hal : ∃ cnt, f_al D (D.length + 1 - p') p' p' cnt = true) : isStk s' ((how, sg, dom, D, p', n', o) :: fs) := by
  obtain ⟨h1, h2, h3, h4⟩ := h
  refine ⟨isFr_nx h1 h57 h62 (fun a q1 q2 _ => ha a q1 q2), ?_, h3, isStk_of fs h4 (fun k a q _ _ => hk a k (by omega)) (fun i hi => congrFun (ha 154 (by omega) (by omega)) i) (fun a q1 q2 => ha a (by omega) (by omega))⟩
  obtain ⟨b1, b2, b3, b4, b5, b6, b7, b8, b9⟩ := h2
  exact ⟨b1, b2, b3, b4, b5, b6, hp, hal, b9⟩
theorem isX_fr {s : mg_s} {E : ckE} {r c : Nat} {how sg : Nat} {dom D : List Nat} {p n : Nat} {o : Nat × Nat} {fs : List frT} (h : isStk s ((how, sg, dom, D, p, n, o) :: fs)) (hE : isE s E) (h23 : s.1 141 23 = nI (fs.length + 1)) (hf : fs.length < 13) (hR : isRec s r c D) : isX s E r c fs.length D dom :=
  ⟨hR, hE, hf, h23, h.1.2.2.1, ⟨h.2.1.2.2.2.2.2.1, h.1.2.2.2.2.2.2.2.1⟩, h.2.1.2.2.2.2.1⟩
theorem modi_67 {g : Nat → Nat} {fr e to : Nat} {t : tmT} (h : t_modi g fr e to = some t) : ¬ t.1 < 6 := by
  unfold t_modi at h
  split at h
  · split at h
    · cases h; show ¬ (if _ then 6 else 7) < 6; split <;> omega
    · cases h
  · split at h
    · cases h
    · cases h; show ¬ 7 < 6; omega
section KT
variable {L : Nat} {xs : Nat → Int32} {d r c how sg : Nat} {D dom : List Nat} {o : Nat × Nat} {fs : List frT} {s : mg_s} {E : ckE} {σ : ckS} {Q : Option Value → mg_s → Prop}
theorem okS_mt {σ : ckS} {dep n : Nat} (h : okS σ) : okS (st_mt σ dep n) := h
theorem md_st109 {p n te st res k5 : Nat} {t : tmT} {c7 c8 : Option Value} (hc : c = dom.length + 1) (hte : te ≤ D.length) (hst0 : st ≤ te) (h32 : ga D te = 32) (htr : t_rest (gl D) st te res = some t) (hres1 : 1 ≤ res) (hres4 : res ≤ 4) (h33 : s.1 141 33 = nI res) (hst : isStk s (((how, sg, dom, D, te + 1, n, o) : frT) :: fs)) (h23 : s.1 141 23 = nI (fs.length + 1)) (hE : isE s E) (h56 : s.2.1 156 fs.length = nI r) (hR : isRec s r c D) (hsg : isSg s σ) (hok : okS σ) (hdp : fs.length ≤ σ.1) (kk : ∀ (s' : mg_s) (σ' : ckS) (c3 c4 c5 c6 c7 c8 : Option Value), mfr s s' kF kA → isStk s' (((how, sg, dom, D, te + 1, n + 1, o) : frT) :: fs) → isSg s' σ' → okS σ' → σ.1 ≤ σ'.1 → s'.1 141 23 = nI (fs.length + 1) → isE s' E → s'.2.1 156 fs.length = nI r → isRec s' r c D → wp L xs (d + 9) 136 14 [some (.ref 141), some (.int (nI fs.length)), some (.int (nI r)), c3, c4, c5, c6, c7, c8] [] s' (fun rv s'' => rv = none ∧ mfr s' s'' kF kA ∧ kOut s'' E (k_ret E fs how sg (k_fr E fs.length ((how, sg, dom, D, te + 1, n + 1, o) : frT) σ')) (2 * (10 - σ'.1) + fs.length))) : wp L xs (d + 9) 136 109 [some (.ref 141), some (.int (nI fs.length)), some (.int (nI r)), some (.int (nI (c + p))), some (.int (nI (c + te))), some (.int (nI k5)), some (.int (nI (c + st))), c7, c8] [] s (fun rv s' => rv = none ∧ mfr s s' kF kA ∧ kOut s' E (k_ret E fs how sg (k_aft E fs ((how, sg, dom, D, p, n, o) : frT) te t (x_ma E (k_in E fs.length) D dom t σ))) (2 * (10 - σ.1) + fs.length)) := by
  have hr16 := hR.1
  have hc1 := hR.2.1
  have hcl := hR.2.2.1
  have hl10 := hok.1
  obtain ⟨k, rd, S, b, v, hm, hS, rfl, k5', hlt, hrS, hSte, hb32, hb1, hb2, h4, h15, htg⟩ := rest_facts hte hst0 h32 htr
  have m3 : mfr s (mg_A (mg_I s 141 9 (nI (c + rd))) 162 fs.length (nI (n + 1))) kF kA := (mfr_I s (by decide)).trans (mfr_A _ (by decide))
  have hst3 : isStk (mg_A (mg_I s 141 9 (nI (c + rd))) 162 fs.length (nI (n + 1))) (((how, sg, dom, D, te + 1, n + 1, o) : frT) :: fs) := isStk_nx (isStk_I (a := 141) (k := 9) (x := nI (c + rd)) hst) ((mA_ne _ _ (Or.inl (by omega))).trans hst.1.2.2.2.2.1) (mA_at _ _ _ _) (fun a j hj => mA_ne _ _ (Or.inr hj)) (fun a _ h2 => by funext j; exact mA_ne _ _ (Or.inl h2)) hst.2.1.2.2.2.2.2.2.1 hst.2.1.2.2.2.2.2.2.2.1
  have hR3 : isRec (mg_A (mg_I s 141 9 (nI (c + rd))) 162 fs.length (nI (n + 1))) r c D := isRec_of hR rfl rfl rfl
  have hE3 : isE (mg_A (mg_I s 141 9 (nI (c + rd))) 162 fs.length (nI (n + 1))) E := isE_of hE m3 (fun _ q => q) (fun _ q => q)
  have hX3 : isX (mg_A (mg_I s 141 9 (nI (c + rd))) 162 fs.length (nI (n + 1))) E r c fs.length D dom := isX_fr hst3 hE3 h23 (by omega) hR3
  have hsg3 : isSg (mg_A (mg_I s 141 9 (nI (c + rd))) 162 fs.length (nI (n + 1))) σ := isSg_A (isSg_I hsg (by decide)) (by omega)
  have h563 : (mg_A (mg_I s 141 9 (nI (c + rd))) 162 fs.length (nI (n + 1))).2.1 156 fs.length = nI r := (mA_ne _ _ (Or.inl (by omega))).trans h56
  have h62 : s.2.1 162 fs.length = nI n := hst.1.2.2.2.1
  rcases (show k = 0 ∨ k = 1 ∨ k = 2 ∨ k = 3 ∨ k = 4 ∨ k = 5 by omega) with rfl | rfl | rfl | rfl | rfl | rfl
  · have hma := ma_v (E := E) (inn := k_in E fs.length) (D := D) (dom := dom) (t := (0, res, if rd < S then rd + 1 else S, S, b, v)) (σ := σ) (show ¬ (0 : Nat) = 1 by omega)
    have hoR := ok_ma (E := E) (D := D) (dom := dom) (t := (0, res, if rd < S then rd + 1 else S, S, b, v)) (ok_kin (E := E) (dep := fs.length)) hok
    generalize hX : x_ma E (k_in E fs.length) D dom (0, res, if rd < S then rd + 1 else S, S, b, v) σ = X at hma hoR ⊢
    have hmo := hma.2
    rcases hma.1 with hx | hx | hx
    · have hok4 : okS X.2 := okR_S hoR (by omega)
      refine wg_aload_n (d136_109 L xs) rfl ?_
      refine wg_iload_n (d136_110 L xs) rfl ?_
      refine wg_iload (d136_111 L xs) rfl ?_
      refine wg_iload (d136_113 L xs) rfl ?_
      refine wg_invv (d136_115 L xs) (kd := 7) (mj := 134) (n := 3) rfl (Or.inl rfl) (ys := [.int (nI (c + te)), .int (nI (c + st)), .int (nI r)]) (r := []) rfl rfl (by decide) rfl rfl (Nat.le_of_ble_eq_true rfl) (by have h := md_mech (L := L) (xs := xs) (d := d + 6) hR hte hst0; rw [hm] at h; exact h) ?_
      rintro _ _ ⟨rfl, rfl⟩
      refine wg_istore (d136_118 L xs) (ls' := [some (.ref 141), some (.int (nI fs.length)), some (.int (nI r)), some (.int (nI (c + p))), some (.int (nI (c + te))), some (.int (nI k5)), some (.int (nI (c + st))), some (.int 0), c8]) (Nat.le_of_ble_eq_true rfl) rfl ?_
      refine wg_aload_n (d136_120 L xs) rfl ?_
      refine wg_get (d136_121 L xs) (kd := 1) (cj := 9) (k0 := 32) rfl (Or.inl rfl) (by decide) rfl rfl ?_
      refine wg_iload_n (d136_124 L xs) rfl ?_
      refine wg_dup2 (d136_125 L xs) rfl rfl ?_
      refine wg_iald (d136_126 L xs) (n := 13) (by decide) rfl (vp_in_nI (n := fs.length) (by omega) (by omega)) ?_
      refine wg_top (y := (nI n)) (by rw [nI_nat (n := fs.length) (by omega)]; exact h62) ?_
      refine wg_iconst (d136_127 L xs) (x := 1) (by decide) ?_
      refine wg_iadd (d136_128 L xs) ?_
      refine wg_top (y := (nI (n + 1))) (nI_add n 1) ?_
      refine wg_iast (d136_129 L xs) (n := 13) (by decide) rfl (vp_in_nI (n := fs.length) (by omega) (by omega)) rfl ?_
      rw [nI_nat (n := fs.length) (by omega)]
      refine wg_aload_n (d136_130 L xs) rfl ?_
      refine wg_iload_n (d136_131 L xs) rfl ?_
      refine wg_iload (d136_132 L xs) rfl ?_
      refine wg_aload_n (d136_134 L xs) rfl ?_
      refine wg_get (d136_135 L xs) (kd := 1) (cj := 9) (k0 := 9) rfl (Or.inl rfl) (by decide) rfl rfl ?_
      refine wg_top (y := (nI (c + rd))) rfl ?_
      refine wg_iload (d136_138 L xs) rfl ?_
      refine wg_invv (d136_140 L xs) (kd := 7) (mj := 138) (n := 4) rfl (Or.inl rfl) (ys := [.int (nI (c + te)), .int (nI (c + rd)), .int 0, .int (nI fs.length)]) (r := []) rfl rfl (by decide) rfl rfl (Nat.le_of_ble_eq_true rfl) (by have h := md_does0 (L := L) (xs := xs) (d := d) (inn := k_in E fs.length) (res := res) (v := v) (b := b) (σ := σ) (s := (mg_A (mg_I s 141 9 (nI (c + rd))) 162 fs.length (nI (n + 1)))) hX3 h563 hte hS hrS hSte hb32 hb1 hb2 trivial (fun _ => trivial) hsg3 hok; rw [hX, hx] at h; exact h) ?_
      rintro _ s4 ⟨rfl, hm4, hp4⟩
      have e23 : s4.1 141 23 = nI (fs.length + 1) := (hp4.2.1 (by decide)).trans h23
      refine wg_istore (d136_143 L xs) (ls' := [some (.ref 141), some (.int (nI fs.length)), some (.int (nI r)), some (.int (nI (c + p))), some (.int (nI (c + te))), some (.int (nI k5)), some (.int (nI (c + st))), some (.int 0), some (.int 0)]) (Nat.le_of_ble_eq_true rfl) rfl ?_
      refine wg_iload (d136_145 L xs) rfl ?_
      refine wg_iconst (d136_147 L xs) (x := 1) (by decide) ?_
      refine wg_icmp_ne (d136_148 L xs) (t := 182) (by decide) (fun _ => ?_) (fun hn => absurd (by decide) hn)
      refine wg_iload (d136_182 L xs) rfl ?_
      refine wg_if_eq (d136_184 L xs) (t := 188) (by decide) (fun _ => ?_) (fun hn => absurd (by decide) hn)
      refine wg_goto (d136_188 L xs) (t := 14) (by decide) ?_
      have hm04 := m3.trans (hm4.more (F' := kF) (A' := kA) (by decide) (by decide))
      unfold k_aft
      rw [if_neg (by omega), if_pos hx]
      exact wp_mono (kk s4 X.2 _ _ _ _ _ _ hm04 (isStk_m hst3 hm4 (by decide)) hp4.1 hok4 hmo e23 (isE_of hE hm04 (fun _ q => q) (fun _ q => q)) ((congrFun (hm4.2.2.1 156 (by decide)) _).trans h563) (isRec_of hR3 (hm4.2.2.1 144 (by decide)) (hm4.2.2.1 145 (by decide)) (hm4.2.2.1 146 (by decide)))) (fun rv s' h => ⟨h.1, hm04.trans h.2.1, kOut_le h.2.2 (by omega)⟩)
    · have hok4 : okS X.2 := okR_S hoR (by omega)
      refine wg_aload_n (d136_109 L xs) rfl ?_
      refine wg_iload_n (d136_110 L xs) rfl ?_
      refine wg_iload (d136_111 L xs) rfl ?_
      refine wg_iload (d136_113 L xs) rfl ?_
      refine wg_invv (d136_115 L xs) (kd := 7) (mj := 134) (n := 3) rfl (Or.inl rfl) (ys := [.int (nI (c + te)), .int (nI (c + st)), .int (nI r)]) (r := []) rfl rfl (by decide) rfl rfl (Nat.le_of_ble_eq_true rfl) (by have h := md_mech (L := L) (xs := xs) (d := d + 6) hR hte hst0; rw [hm] at h; exact h) ?_
      rintro _ _ ⟨rfl, rfl⟩
      refine wg_istore (d136_118 L xs) (ls' := [some (.ref 141), some (.int (nI fs.length)), some (.int (nI r)), some (.int (nI (c + p))), some (.int (nI (c + te))), some (.int (nI k5)), some (.int (nI (c + st))), some (.int 0), c8]) (Nat.le_of_ble_eq_true rfl) rfl ?_
      refine wg_aload_n (d136_120 L xs) rfl ?_
      refine wg_get (d136_121 L xs) (kd := 1) (cj := 9) (k0 := 32) rfl (Or.inl rfl) (by decide) rfl rfl ?_
      refine wg_iload_n (d136_124 L xs) rfl ?_
      refine wg_dup2 (d136_125 L xs) rfl rfl ?_
      refine wg_iald (d136_126 L xs) (n := 13) (by decide) rfl (vp_in_nI (n := fs.length) (by omega) (by omega)) ?_
      refine wg_top (y := (nI n)) (by rw [nI_nat (n := fs.length) (by omega)]; exact h62) ?_
      refine wg_iconst (d136_127 L xs) (x := 1) (by decide) ?_
      refine wg_iadd (d136_128 L xs) ?_
      refine wg_top (y := (nI (n + 1))) (nI_add n 1) ?_
      refine wg_iast (d136_129 L xs) (n := 13) (by decide) rfl (vp_in_nI (n := fs.length) (by omega) (by omega)) rfl ?_
      rw [nI_nat (n := fs.length) (by omega)]
      refine wg_aload_n (d136_130 L xs) rfl ?_
      refine wg_iload_n (d136_131 L xs) rfl ?_
      refine wg_iload (d136_132 L xs) rfl ?_
      refine wg_aload_n (d136_134 L xs) rfl ?_
      refine wg_get (d136_135 L xs) (kd := 1) (cj := 9) (k0 := 9) rfl (Or.inl rfl) (by decide) rfl rfl ?_
      refine wg_top (y := (nI (c + rd))) rfl ?_
      refine wg_iload (d136_138 L xs) rfl ?_
      refine wg_invv (d136_140 L xs) (kd := 7) (mj := 138) (n := 4) rfl (Or.inl rfl) (ys := [.int (nI (c + te)), .int (nI (c + rd)), .int 0, .int (nI fs.length)]) (r := []) rfl rfl (by decide) rfl rfl (Nat.le_of_ble_eq_true rfl) (by have h := md_does0 (L := L) (xs := xs) (d := d) (inn := k_in E fs.length) (res := res) (v := v) (b := b) (σ := σ) (s := (mg_A (mg_I s 141 9 (nI (c + rd))) 162 fs.length (nI (n + 1)))) hX3 h563 hte hS hrS hSte hb32 hb1 hb2 trivial (fun _ => trivial) hsg3 hok; rw [hX, hx] at h; exact h) ?_
      rintro _ s4 ⟨rfl, hm4, hp4⟩
      have e23 : s4.1 141 23 = nI (fs.length + 1) := (hp4.2.1 (by decide)).trans h23
      refine wg_istore (d136_143 L xs) (ls' := [some (.ref 141), some (.int (nI fs.length)), some (.int (nI r)), some (.int (nI (c + p))), some (.int (nI (c + te))), some (.int (nI k5)), some (.int (nI (c + st))), some (.int 0), some (.int 1)]) (Nat.le_of_ble_eq_true rfl) rfl ?_
      refine wg_iload (d136_145 L xs) rfl ?_
      refine wg_iconst (d136_147 L xs) (x := 1) (by decide) ?_
      refine wg_icmp_ne (d136_148 L xs) (t := 182) (by decide) (fun hp => absurd hp (by decide)) (fun _ => ?_)
      have hst4 := isStk_m hst3 hm4 (by decide)
      have e62 : s4.2.1 162 fs.length = nI (n + 1) := hst4.1.2.2.2.1
      have e33 : s4.1 141 33 = nI res := (hm4.2.1 33 (by decide)).trans h33
      have hm04 := m3.trans (hm4.more (F' := kF) (A' := kA) (by decide) (by decide))
      unfold k_aft
      rw [if_pos hx]
      by_cases hf0 : fs.length = 0
      · have hsg5 : isSg (mg_I s4 141 39 (nI n)) (st_mt X.2 fs.length n) := by rw [st_mt_z hf0]; exact isSg_mt hp4.1 _
        refine wg_aload_n (d136_151 L xs) rfl ?_
        refine wg_iload_n (d136_152 L xs) rfl ?_
        refine wn_if_ne (d136_153 L xs) (x := fs.length) (by omega) (t := 167) (by decide) (fun h41 => by omega) (fun h41 => ?_)
        refine wg_aload_n (d136_156 L xs) rfl ?_
        refine wg_get (d136_157 L xs) (kd := 1) (cj := 9) (k0 := 32) rfl (Or.inl rfl) (by decide) rfl rfl ?_
        refine wg_iconst (d136_160 L xs) (x := 0) (by decide) ?_
        refine wg_iald (d136_161 L xs) (n := 13) (by decide) rfl (vp_in_nI (n := 0) (by omega) (by omega)) ?_
        refine wg_top (y := (nI (n + 1))) (by have := e62; rw [show fs.length = 0 by omega] at this; exact this) ?_
        refine wg_iconst (d136_162 L xs) (x := 1) (by decide) ?_
        refine wg_isub (d136_163 L xs) ?_
        refine wg_top (y := (nI n)) (pk_sub (a := n + 1) (b := 1) (by omega)) ?_
        refine wg_goto (d136_164 L xs) (t := 171) (by decide) ?_
        refine wg_puti (d136_171 L xs) (cj := 9) (k0 := 39) rfl (by decide) rfl (Nat.le_of_ble_eq_true rfl) rfl rfl rfl ?_
        refine wg_aload_n (d136_174 L xs) rfl ?_
        refine wg_aload_n (d136_175 L xs) rfl ?_
        refine wg_get (d136_176 L xs) (kd := 1) (cj := 9) (k0 := 33) rfl (Or.inl rfl) (by decide) rfl rfl ?_
        refine wg_top (y := (nI res)) e33 ?_
        refine wg_invv (d136_179 L xs) (kd := 7) (mj := 118) (n := 1) rfl (Or.inl rfl) (ys := [.int (nI res)]) (r := []) rfl rfl (by decide) rfl rfl (Nat.le_of_ble_eq_true rfl) (md_comes (E := E) (fs := fs) (how := how) (sg := sg) (x := res) (σ := st_mt X.2 fs.length n) (s := (mg_I s4 141 39 (nI n))) e23 hst4.1.1 hst4.1.2.1 hst.2.1.1 hst.2.1.2.1 hst.2.1.2.2.1 hst.2.1.2.2.2.1 hst.2.2.1 (isStk_I hst4.2.2.2) hsg5 (okS_mt hok4) hres4 (Nat.le_trans hdp hmo)) ?_
        rintro _ s6 ⟨rfl, hm6, hko⟩
        refine wg_iload (d136_182 L xs) rfl ?_
        refine wg_if_eq (d136_184 L xs) (t := 188) (by decide) (fun hp => absurd hp (by decide)) (fun _ => ?_)
        exact wg_vret (d136_187 L xs) rfl ⟨rfl, (hm04.trans (mfr_I s4 (by decide))).trans (hm6.more (by decide) (by decide)), kOut_le hko (by show 2 * (10 - X.2.1) + fs.length ≤ _; omega)⟩
      · have hsg5 : isSg (mg_I s4 141 39 (s4.1 141 39)) (st_mt X.2 fs.length n) := by rw [st_mt_ne hf0]; exact ⟨hp4.1.1, hp4.1.2.1, hp4.1.2.2.1, hp4.1.2.2.2.1, hp4.1.2.2.2.2.1, hp4.1.2.2.2.2.2⟩
        refine wg_aload_n (d136_151 L xs) rfl ?_
        refine wg_iload_n (d136_152 L xs) rfl ?_
        refine wn_if_ne (d136_153 L xs) (x := fs.length) (by omega) (t := 167) (by decide) (fun h41 => ?_) (fun h41 => by omega)
        refine wg_aload_n (d136_167 L xs) rfl ?_
        refine wg_get (d136_168 L xs) (kd := 1) (cj := 9) (k0 := 39) rfl (Or.inl rfl) (by decide) rfl rfl ?_
        refine wg_puti (d136_171 L xs) (cj := 9) (k0 := 39) rfl (by decide) rfl (Nat.le_of_ble_eq_true rfl) rfl rfl rfl ?_
        refine wg_aload_n (d136_174 L xs) rfl ?_
        refine wg_aload_n (d136_175 L xs) rfl ?_
        refine wg_get (d136_176 L xs) (kd := 1) (cj := 9) (k0 := 33) rfl (Or.inl rfl) (by decide) rfl rfl ?_
        refine wg_top (y := (nI res)) e33 ?_
        refine wg_invv (d136_179 L xs) (kd := 7) (mj := 118) (n := 1) rfl (Or.inl rfl) (ys := [.int (nI res)]) (r := []) rfl rfl (by decide) rfl rfl (Nat.le_of_ble_eq_true rfl) (md_comes (E := E) (fs := fs) (how := how) (sg := sg) (x := res) (σ := st_mt X.2 fs.length n) (s := (mg_I s4 141 39 (s4.1 141 39))) e23 hst4.1.1 hst4.1.2.1 hst.2.1.1 hst.2.1.2.1 hst.2.1.2.2.1 hst.2.1.2.2.2.1 hst.2.2.1 (isStk_I hst4.2.2.2) hsg5 (okS_mt hok4) hres4 (Nat.le_trans hdp hmo)) ?_
        rintro _ s6 ⟨rfl, hm6, hko⟩
        refine wg_iload (d136_182 L xs) rfl ?_
        refine wg_if_eq (d136_184 L xs) (t := 188) (by decide) (fun hp => absurd hp (by decide)) (fun _ => ?_)
        exact wg_vret (d136_187 L xs) rfl ⟨rfl, (hm04.trans (mfr_I s4 (by decide))).trans (hm6.more (by decide) (by decide)), kOut_le hko (by show 2 * (10 - X.2.1) + fs.length ≤ _; omega)⟩
    · refine wg_aload_n (d136_109 L xs) rfl ?_
      refine wg_iload_n (d136_110 L xs) rfl ?_
      refine wg_iload (d136_111 L xs) rfl ?_
      refine wg_iload (d136_113 L xs) rfl ?_
      refine wg_invv (d136_115 L xs) (kd := 7) (mj := 134) (n := 3) rfl (Or.inl rfl) (ys := [.int (nI (c + te)), .int (nI (c + st)), .int (nI r)]) (r := []) rfl rfl (by decide) rfl rfl (Nat.le_of_ble_eq_true rfl) (by have h := md_mech (L := L) (xs := xs) (d := d + 6) hR hte hst0; rw [hm] at h; exact h) ?_
      rintro _ _ ⟨rfl, rfl⟩
      refine wg_istore (d136_118 L xs) (ls' := [some (.ref 141), some (.int (nI fs.length)), some (.int (nI r)), some (.int (nI (c + p))), some (.int (nI (c + te))), some (.int (nI k5)), some (.int (nI (c + st))), some (.int 0), c8]) (Nat.le_of_ble_eq_true rfl) rfl ?_
      refine wg_aload_n (d136_120 L xs) rfl ?_
      refine wg_get (d136_121 L xs) (kd := 1) (cj := 9) (k0 := 32) rfl (Or.inl rfl) (by decide) rfl rfl ?_
      refine wg_iload_n (d136_124 L xs) rfl ?_
      refine wg_dup2 (d136_125 L xs) rfl rfl ?_
      refine wg_iald (d136_126 L xs) (n := 13) (by decide) rfl (vp_in_nI (n := fs.length) (by omega) (by omega)) ?_
      refine wg_top (y := (nI n)) (by rw [nI_nat (n := fs.length) (by omega)]; exact h62) ?_
      refine wg_iconst (d136_127 L xs) (x := 1) (by decide) ?_
      refine wg_iadd (d136_128 L xs) ?_
      refine wg_top (y := (nI (n + 1))) (nI_add n 1) ?_
      refine wg_iast (d136_129 L xs) (n := 13) (by decide) rfl (vp_in_nI (n := fs.length) (by omega) (by omega)) rfl ?_
      rw [nI_nat (n := fs.length) (by omega)]
      refine wg_aload_n (d136_130 L xs) rfl ?_
      refine wg_iload_n (d136_131 L xs) rfl ?_
      refine wg_iload (d136_132 L xs) rfl ?_
      refine wg_aload_n (d136_134 L xs) rfl ?_
      refine wg_get (d136_135 L xs) (kd := 1) (cj := 9) (k0 := 9) rfl (Or.inl rfl) (by decide) rfl rfl ?_
      refine wg_top (y := (nI (c + rd))) rfl ?_
      refine wg_iload (d136_138 L xs) rfl ?_
      refine wg_invv (d136_140 L xs) (kd := 7) (mj := 138) (n := 4) rfl (Or.inl rfl) (ys := [.int (nI (c + te)), .int (nI (c + rd)), .int 0, .int (nI fs.length)]) (r := []) rfl rfl (by decide) rfl rfl (Nat.le_of_ble_eq_true rfl) (by have h := md_does0 (L := L) (xs := xs) (d := d) (inn := k_in E fs.length) (res := res) (v := v) (b := b) (σ := σ) (s := (mg_A (mg_I s 141 9 (nI (c + rd))) 162 fs.length (nI (n + 1)))) hX3 h563 hte hS hrS hSte hb32 hb1 hb2 trivial (fun _ => trivial) hsg3 hok; rw [hX, xI_n (show ¬ X.1 = 0 by omega) (show ¬ X.1 = 1 by omega)] at h; exact h) ?_
      rintro _ s4 ⟨rfl, hm4, hp4⟩
      refine wg_istore (d136_143 L xs) (ls' := [some (.ref 141), some (.int (nI fs.length)), some (.int (nI r)), some (.int (nI (c + p))), some (.int (nI (c + te))), some (.int (nI k5)), some (.int (nI (c + st))), some (.int 0), some (.int (-1))]) (Nat.le_of_ble_eq_true rfl) rfl ?_
      refine wg_iload (d136_145 L xs) rfl ?_
      refine wg_iconst (d136_147 L xs) (x := 1) (by decide) ?_
      refine wg_icmp_ne (d136_148 L xs) (t := 182) (by decide) (fun _ => ?_) (fun hn => absurd (by decide) hn)
      refine wg_iload (d136_182 L xs) rfl ?_
      refine wg_if_eq (d136_184 L xs) (t := 188) (by decide) (fun hp => absurd hp (by decide)) (fun _ => ?_)
      exact wg_vret (d136_187 L xs) rfl ⟨rfl, m3.trans (hm4.more (by decide) (by decide)), by unfold k_aft; rw [if_neg (by omega), if_neg (by omega), k_ret_err hx]; exact Or.inl ⟨(hp4.2.2 hx).1, (hp4.2.2 hx).2, hp4.1⟩⟩
  · have hrS1 := (h15 (Or.inl rfl)).2
    have htg1 := htg (by omega) hrS1
    have hSt := (h15 (Or.inl rfl)).1
    subst hSt
    rw [if_pos hrS1]
    refine wg_aload_n (d136_109 L xs) rfl ?_
    refine wg_iload_n (d136_110 L xs) rfl ?_
    refine wg_iload (d136_111 L xs) rfl ?_
    refine wg_iload (d136_113 L xs) rfl ?_
    refine wg_invv (d136_115 L xs) (kd := 7) (mj := 134) (n := 3) rfl (Or.inl rfl) (ys := [.int (nI (c + S)), .int (nI (c + st)), .int (nI r)]) (r := []) rfl rfl (by decide) rfl rfl (Nat.le_of_ble_eq_true rfl) (by have h := md_mech (L := L) (xs := xs) (d := d + 6) hR hte hst0; rw [hm] at h; exact h) ?_
    rintro _ _ ⟨rfl, rfl⟩
    refine wg_istore (d136_118 L xs) (ls' := [some (.ref 141), some (.int (nI fs.length)), some (.int (nI r)), some (.int (nI (c + p))), some (.int (nI (c + S))), some (.int (nI k5)), some (.int (nI (c + st))), some (.int 1), c8]) (Nat.le_of_ble_eq_true rfl) rfl ?_
    refine wg_aload_n (d136_120 L xs) rfl ?_
    refine wg_get (d136_121 L xs) (kd := 1) (cj := 9) (k0 := 32) rfl (Or.inl rfl) (by decide) rfl rfl ?_
    refine wg_iload_n (d136_124 L xs) rfl ?_
    refine wg_dup2 (d136_125 L xs) rfl rfl ?_
    refine wg_iald (d136_126 L xs) (n := 13) (by decide) rfl (vp_in_nI (n := fs.length) (by omega) (by omega)) ?_
    refine wg_top (y := (nI n)) (by rw [nI_nat (n := fs.length) (by omega)]; exact h62) ?_
    refine wg_iconst (d136_127 L xs) (x := 1) (by decide) ?_
    refine wg_iadd (d136_128 L xs) ?_
    refine wg_top (y := (nI (n + 1))) (nI_add n 1) ?_
    refine wg_iast (d136_129 L xs) (n := 13) (by decide) rfl (vp_in_nI (n := fs.length) (by omega) (by omega)) rfl ?_
    rw [nI_nat (n := fs.length) (by omega)]
    refine wg_aload_n (d136_130 L xs) rfl ?_
    refine wg_iload_n (d136_131 L xs) rfl ?_
    refine wg_iload (d136_132 L xs) rfl ?_
    refine wg_aload_n (d136_134 L xs) rfl ?_
    refine wg_get (d136_135 L xs) (kd := 1) (cj := 9) (k0 := 9) rfl (Or.inl rfl) (by decide) rfl rfl ?_
    refine wg_top (y := (nI (c + rd))) rfl ?_
    refine wg_iload (d136_138 L xs) rfl ?_
    refine wg_invv (d136_140 L xs) (kd := 7) (mj := 138) (n := 4) rfl (Or.inl rfl) (ys := [.int (nI (c + S)), .int (nI (c + rd)), .int 1, .int (nI fs.length)]) (r := []) rfl rfl (by decide) rfl rfl (Nat.le_of_ble_eq_true rfl) (md_does1 (E := E) (F := ((how, sg, dom, D, p, n, o) : frT)) (tq := S) (v := v) (b := b) (σ := σ) (s := (mg_A (mg_I s 141 9 (nI (c + rd))) 162 fs.length (nI (n + 1)))) hX3 h563 hte hS hrS1 htg1 h33 hres1 hres4 hst3 hsg3 hok hdp) ?_
    rintro _ s4 ⟨rfl, hm4, hko⟩
    refine wg_istore (d136_143 L xs) (ls' := [some (.ref 141), some (.int (nI fs.length)), some (.int (nI r)), some (.int (nI (c + p))), some (.int (nI (c + S))), some (.int (nI k5)), some (.int (nI (c + st))), some (.int 1), some (.int (-1))]) (Nat.le_of_ble_eq_true rfl) rfl ?_
    refine wg_iload (d136_145 L xs) rfl ?_
    refine wg_iconst (d136_147 L xs) (x := 1) (by decide) ?_
    refine wg_icmp_ne (d136_148 L xs) (t := 182) (by decide) (fun _ => ?_) (fun hn => absurd (by decide) hn)
    refine wg_iload (d136_182 L xs) rfl ?_
    refine wg_if_eq (d136_184 L xs) (t := 188) (by decide) (fun hp => absurd hp (by decide)) (fun _ => ?_)
    exact wg_vret (d136_187 L xs) rfl ⟨rfl, m3.trans hm4, hko⟩
  · have hma := ma_v (E := E) (inn := k_in E fs.length) (D := D) (dom := dom) (t := (2, res, if rd < S then rd + 1 else S, S, b, v)) (σ := σ) (show ¬ (2 : Nat) = 1 by omega)
    have hoR := ok_ma (E := E) (D := D) (dom := dom) (t := (2, res, if rd < S then rd + 1 else S, S, b, v)) (ok_kin (E := E) (dep := fs.length)) hok
    generalize hX : x_ma E (k_in E fs.length) D dom (2, res, if rd < S then rd + 1 else S, S, b, v) σ = X at hma hoR ⊢
    have hmo := hma.2
    rcases hma.1 with hx | hx | hx
    · have hok4 : okS X.2 := okR_S hoR (by omega)
      refine wg_aload_n (d136_109 L xs) rfl ?_
      refine wg_iload_n (d136_110 L xs) rfl ?_
      refine wg_iload (d136_111 L xs) rfl ?_
      refine wg_iload (d136_113 L xs) rfl ?_
      refine wg_invv (d136_115 L xs) (kd := 7) (mj := 134) (n := 3) rfl (Or.inl rfl) (ys := [.int (nI (c + te)), .int (nI (c + st)), .int (nI r)]) (r := []) rfl rfl (by decide) rfl rfl (Nat.le_of_ble_eq_true rfl) (by have h := md_mech (L := L) (xs := xs) (d := d + 6) hR hte hst0; rw [hm] at h; exact h) ?_
      rintro _ _ ⟨rfl, rfl⟩
      refine wg_istore (d136_118 L xs) (ls' := [some (.ref 141), some (.int (nI fs.length)), some (.int (nI r)), some (.int (nI (c + p))), some (.int (nI (c + te))), some (.int (nI k5)), some (.int (nI (c + st))), some (.int 2), c8]) (Nat.le_of_ble_eq_true rfl) rfl ?_
      refine wg_aload_n (d136_120 L xs) rfl ?_
      refine wg_get (d136_121 L xs) (kd := 1) (cj := 9) (k0 := 32) rfl (Or.inl rfl) (by decide) rfl rfl ?_
      refine wg_iload_n (d136_124 L xs) rfl ?_
      refine wg_dup2 (d136_125 L xs) rfl rfl ?_
      refine wg_iald (d136_126 L xs) (n := 13) (by decide) rfl (vp_in_nI (n := fs.length) (by omega) (by omega)) ?_
      refine wg_top (y := (nI n)) (by rw [nI_nat (n := fs.length) (by omega)]; exact h62) ?_
      refine wg_iconst (d136_127 L xs) (x := 1) (by decide) ?_
      refine wg_iadd (d136_128 L xs) ?_
      refine wg_top (y := (nI (n + 1))) (nI_add n 1) ?_
      refine wg_iast (d136_129 L xs) (n := 13) (by decide) rfl (vp_in_nI (n := fs.length) (by omega) (by omega)) rfl ?_
      rw [nI_nat (n := fs.length) (by omega)]
      refine wg_aload_n (d136_130 L xs) rfl ?_
      refine wg_iload_n (d136_131 L xs) rfl ?_
      refine wg_iload (d136_132 L xs) rfl ?_
      refine wg_aload_n (d136_134 L xs) rfl ?_
      refine wg_get (d136_135 L xs) (kd := 1) (cj := 9) (k0 := 9) rfl (Or.inl rfl) (by decide) rfl rfl ?_
      refine wg_top (y := (nI (c + rd))) rfl ?_
      refine wg_iload (d136_138 L xs) rfl ?_
      refine wg_invv (d136_140 L xs) (kd := 7) (mj := 138) (n := 4) rfl (Or.inl rfl) (ys := [.int (nI (c + te)), .int (nI (c + rd)), .int 2, .int (nI fs.length)]) (r := []) rfl rfl (by decide) rfl rfl (Nat.le_of_ble_eq_true rfl) (by have h := md_does2 (L := L) (xs := xs) (d := d) (inn := k_in E fs.length) (res := res) (v := v) (b := b) (σ := σ) (s := (mg_A (mg_I s 141 9 (nI (c + rd))) 162 fs.length (nI (n + 1)))) hX3 h563 hte hS hrS hSte hb32 hb1 hb2 trivial (fun z => htg (by omega) z) hsg3 hok; rw [hX, hx] at h; exact h) ?_
      rintro _ s4 ⟨rfl, hm4, hp4⟩
      have e23 : s4.1 141 23 = nI (fs.length + 1) := (hp4.2.1 (by decide)).trans h23
      refine wg_istore (d136_143 L xs) (ls' := [some (.ref 141), some (.int (nI fs.length)), some (.int (nI r)), some (.int (nI (c + p))), some (.int (nI (c + te))), some (.int (nI k5)), some (.int (nI (c + st))), some (.int 2), some (.int 0)]) (Nat.le_of_ble_eq_true rfl) rfl ?_
      refine wg_iload (d136_145 L xs) rfl ?_
      refine wg_iconst (d136_147 L xs) (x := 1) (by decide) ?_
      refine wg_icmp_ne (d136_148 L xs) (t := 182) (by decide) (fun _ => ?_) (fun hn => absurd (by decide) hn)
      refine wg_iload (d136_182 L xs) rfl ?_
      refine wg_if_eq (d136_184 L xs) (t := 188) (by decide) (fun _ => ?_) (fun hn => absurd (by decide) hn)
      refine wg_goto (d136_188 L xs) (t := 14) (by decide) ?_
      have hm04 := m3.trans (hm4.more (F' := kF) (A' := kA) (by decide) (by decide))
      unfold k_aft
      rw [if_neg (by omega), if_pos hx]
      exact wp_mono (kk s4 X.2 _ _ _ _ _ _ hm04 (isStk_m hst3 hm4 (by decide)) hp4.1 hok4 hmo e23 (isE_of hE hm04 (fun _ q => q) (fun _ q => q)) ((congrFun (hm4.2.2.1 156 (by decide)) _).trans h563) (isRec_of hR3 (hm4.2.2.1 144 (by decide)) (hm4.2.2.1 145 (by decide)) (hm4.2.2.1 146 (by decide)))) (fun rv s' h => ⟨h.1, hm04.trans h.2.1, kOut_le h.2.2 (by omega)⟩)
    · have hok4 : okS X.2 := okR_S hoR (by omega)
      refine wg_aload_n (d136_109 L xs) rfl ?_
      refine wg_iload_n (d136_110 L xs) rfl ?_
      refine wg_iload (d136_111 L xs) rfl ?_
      refine wg_iload (d136_113 L xs) rfl ?_
      refine wg_invv (d136_115 L xs) (kd := 7) (mj := 134) (n := 3) rfl (Or.inl rfl) (ys := [.int (nI (c + te)), .int (nI (c + st)), .int (nI r)]) (r := []) rfl rfl (by decide) rfl rfl (Nat.le_of_ble_eq_true rfl) (by have h := md_mech (L := L) (xs := xs) (d := d + 6) hR hte hst0; rw [hm] at h; exact h) ?_
      rintro _ _ ⟨rfl, rfl⟩
      refine wg_istore (d136_118 L xs) (ls' := [some (.ref 141), some (.int (nI fs.length)), some (.int (nI r)), some (.int (nI (c + p))), some (.int (nI (c + te))), some (.int (nI k5)), some (.int (nI (c + st))), some (.int 2), c8]) (Nat.le_of_ble_eq_true rfl) rfl ?_
      refine wg_aload_n (d136_120 L xs) rfl ?_
      refine wg_get (d136_121 L xs) (kd := 1) (cj := 9) (k0 := 32) rfl (Or.inl rfl) (by decide) rfl rfl ?_
      refine wg_iload_n (d136_124 L xs) rfl ?_
      refine wg_dup2 (d136_125 L xs) rfl rfl ?_
      refine wg_iald (d136_126 L xs) (n := 13) (by decide) rfl (vp_in_nI (n := fs.length) (by omega) (by omega)) ?_
      refine wg_top (y := (nI n)) (by rw [nI_nat (n := fs.length) (by omega)]; exact h62) ?_
      refine wg_iconst (d136_127 L xs) (x := 1) (by decide) ?_
      refine wg_iadd (d136_128 L xs) ?_
      refine wg_top (y := (nI (n + 1))) (nI_add n 1) ?_
      refine wg_iast (d136_129 L xs) (n := 13) (by decide) rfl (vp_in_nI (n := fs.length) (by omega) (by omega)) rfl ?_
      rw [nI_nat (n := fs.length) (by omega)]
      refine wg_aload_n (d136_130 L xs) rfl ?_
      refine wg_iload_n (d136_131 L xs) rfl ?_
      refine wg_iload (d136_132 L xs) rfl ?_
      refine wg_aload_n (d136_134 L xs) rfl ?_
      refine wg_get (d136_135 L xs) (kd := 1) (cj := 9) (k0 := 9) rfl (Or.inl rfl) (by decide) rfl rfl ?_
      refine wg_top (y := (nI (c + rd))) rfl ?_
      refine wg_iload (d136_138 L xs) rfl ?_
      refine wg_invv (d136_140 L xs) (kd := 7) (mj := 138) (n := 4) rfl (Or.inl rfl) (ys := [.int (nI (c + te)), .int (nI (c + rd)), .int 2, .int (nI fs.length)]) (r := []) rfl rfl (by decide) rfl rfl (Nat.le_of_ble_eq_true rfl) (by have h := md_does2 (L := L) (xs := xs) (d := d) (inn := k_in E fs.length) (res := res) (v := v) (b := b) (σ := σ) (s := (mg_A (mg_I s 141 9 (nI (c + rd))) 162 fs.length (nI (n + 1)))) hX3 h563 hte hS hrS hSte hb32 hb1 hb2 trivial (fun z => htg (by omega) z) hsg3 hok; rw [hX, hx] at h; exact h) ?_
      rintro _ s4 ⟨rfl, hm4, hp4⟩
      have e23 : s4.1 141 23 = nI (fs.length + 1) := (hp4.2.1 (by decide)).trans h23
      refine wg_istore (d136_143 L xs) (ls' := [some (.ref 141), some (.int (nI fs.length)), some (.int (nI r)), some (.int (nI (c + p))), some (.int (nI (c + te))), some (.int (nI k5)), some (.int (nI (c + st))), some (.int 2), some (.int 1)]) (Nat.le_of_ble_eq_true rfl) rfl ?_
      refine wg_iload (d136_145 L xs) rfl ?_
      refine wg_iconst (d136_147 L xs) (x := 1) (by decide) ?_
      refine wg_icmp_ne (d136_148 L xs) (t := 182) (by decide) (fun hp => absurd hp (by decide)) (fun _ => ?_)
      have hst4 := isStk_m hst3 hm4 (by decide)
      have e62 : s4.2.1 162 fs.length = nI (n + 1) := hst4.1.2.2.2.1
      have e33 : s4.1 141 33 = nI res := (hm4.2.1 33 (by decide)).trans h33
      have hm04 := m3.trans (hm4.more (F' := kF) (A' := kA) (by decide) (by decide))
      unfold k_aft
      rw [if_pos hx]
      by_cases hf0 : fs.length = 0
      · have hsg5 : isSg (mg_I s4 141 39 (nI n)) (st_mt X.2 fs.length n) := by rw [st_mt_z hf0]; exact isSg_mt hp4.1 _
        refine wg_aload_n (d136_151 L xs) rfl ?_
        refine wg_iload_n (d136_152 L xs) rfl ?_
        refine wn_if_ne (d136_153 L xs) (x := fs.length) (by omega) (t := 167) (by decide) (fun h41 => by omega) (fun h41 => ?_)
        refine wg_aload_n (d136_156 L xs) rfl ?_
        refine wg_get (d136_157 L xs) (kd := 1) (cj := 9) (k0 := 32) rfl (Or.inl rfl) (by decide) rfl rfl ?_
        refine wg_iconst (d136_160 L xs) (x := 0) (by decide) ?_
        refine wg_iald (d136_161 L xs) (n := 13) (by decide) rfl (vp_in_nI (n := 0) (by omega) (by omega)) ?_
        refine wg_top (y := (nI (n + 1))) (by have := e62; rw [show fs.length = 0 by omega] at this; exact this) ?_
        refine wg_iconst (d136_162 L xs) (x := 1) (by decide) ?_
        refine wg_isub (d136_163 L xs) ?_
        refine wg_top (y := (nI n)) (pk_sub (a := n + 1) (b := 1) (by omega)) ?_
        refine wg_goto (d136_164 L xs) (t := 171) (by decide) ?_
        refine wg_puti (d136_171 L xs) (cj := 9) (k0 := 39) rfl (by decide) rfl (Nat.le_of_ble_eq_true rfl) rfl rfl rfl ?_
        refine wg_aload_n (d136_174 L xs) rfl ?_
        refine wg_aload_n (d136_175 L xs) rfl ?_
        refine wg_get (d136_176 L xs) (kd := 1) (cj := 9) (k0 := 33) rfl (Or.inl rfl) (by decide) rfl rfl ?_
        refine wg_top (y := (nI res)) e33 ?_
        refine wg_invv (d136_179 L xs) (kd := 7) (mj := 118) (n := 1) rfl (Or.inl rfl) (ys := [.int (nI res)]) (r := []) rfl rfl (by decide) rfl rfl (Nat.le_of_ble_eq_true rfl) (md_comes (E := E) (fs := fs) (how := how) (sg := sg) (x := res) (σ := st_mt X.2 fs.length n) (s := (mg_I s4 141 39 (nI n))) e23 hst4.1.1 hst4.1.2.1 hst.2.1.1 hst.2.1.2.1 hst.2.1.2.2.1 hst.2.1.2.2.2.1 hst.2.2.1 (isStk_I hst4.2.2.2) hsg5 (okS_mt hok4) hres4 (Nat.le_trans hdp hmo)) ?_
        rintro _ s6 ⟨rfl, hm6, hko⟩
        refine wg_iload (d136_182 L xs) rfl ?_
        refine wg_if_eq (d136_184 L xs) (t := 188) (by decide) (fun hp => absurd hp (by decide)) (fun _ => ?_)
        exact wg_vret (d136_187 L xs) rfl ⟨rfl, (hm04.trans (mfr_I s4 (by decide))).trans (hm6.more (by decide) (by decide)), kOut_le hko (by show 2 * (10 - X.2.1) + fs.length ≤ _; omega)⟩
      · have hsg5 : isSg (mg_I s4 141 39 (s4.1 141 39)) (st_mt X.2 fs.length n) := by rw [st_mt_ne hf0]; exact ⟨hp4.1.1, hp4.1.2.1, hp4.1.2.2.1, hp4.1.2.2.2.1, hp4.1.2.2.2.2.1, hp4.1.2.2.2.2.2⟩
        refine wg_aload_n (d136_151 L xs) rfl ?_
        refine wg_iload_n (d136_152 L xs) rfl ?_
        refine wn_if_ne (d136_153 L xs) (x := fs.length) (by omega) (t := 167) (by decide) (fun h41 => ?_) (fun h41 => by omega)
        refine wg_aload_n (d136_167 L xs) rfl ?_
        refine wg_get (d136_168 L xs) (kd := 1) (cj := 9) (k0 := 39) rfl (Or.inl rfl) (by decide) rfl rfl ?_
        refine wg_puti (d136_171 L xs) (cj := 9) (k0 := 39) rfl (by decide) rfl (Nat.le_of_ble_eq_true rfl) rfl rfl rfl ?_
        refine wg_aload_n (d136_174 L xs) rfl ?_
        refine wg_aload_n (d136_175 L xs) rfl ?_
        refine wg_get (d136_176 L xs) (kd := 1) (cj := 9) (k0 := 33) rfl (Or.inl rfl) (by decide) rfl rfl ?_
        refine wg_top (y := (nI res)) e33 ?_
        refine wg_invv (d136_179 L xs) (kd := 7) (mj := 118) (n := 1) rfl (Or.inl rfl) (ys := [.int (nI res)]) (r := []) rfl rfl (by decide) rfl rfl (Nat.le_of_ble_eq_true rfl) (md_comes (E := E) (fs := fs) (how := how) (sg := sg) (x := res) (σ := st_mt X.2 fs.length n) (s := (mg_I s4 141 39 (s4.1 141 39))) e23 hst4.1.1 hst4.1.2.1 hst.2.1.1 hst.2.1.2.1 hst.2.1.2.2.1 hst.2.1.2.2.2.1 hst.2.2.1 (isStk_I hst4.2.2.2) hsg5 (okS_mt hok4) hres4 (Nat.le_trans hdp hmo)) ?_
        rintro _ s6 ⟨rfl, hm6, hko⟩
        refine wg_iload (d136_182 L xs) rfl ?_
        refine wg_if_eq (d136_184 L xs) (t := 188) (by decide) (fun hp => absurd hp (by decide)) (fun _ => ?_)
        exact wg_vret (d136_187 L xs) rfl ⟨rfl, (hm04.trans (mfr_I s4 (by decide))).trans (hm6.more (by decide) (by decide)), kOut_le hko (by show 2 * (10 - X.2.1) + fs.length ≤ _; omega)⟩
    · refine wg_aload_n (d136_109 L xs) rfl ?_
      refine wg_iload_n (d136_110 L xs) rfl ?_
      refine wg_iload (d136_111 L xs) rfl ?_
      refine wg_iload (d136_113 L xs) rfl ?_
      refine wg_invv (d136_115 L xs) (kd := 7) (mj := 134) (n := 3) rfl (Or.inl rfl) (ys := [.int (nI (c + te)), .int (nI (c + st)), .int (nI r)]) (r := []) rfl rfl (by decide) rfl rfl (Nat.le_of_ble_eq_true rfl) (by have h := md_mech (L := L) (xs := xs) (d := d + 6) hR hte hst0; rw [hm] at h; exact h) ?_
      rintro _ _ ⟨rfl, rfl⟩
      refine wg_istore (d136_118 L xs) (ls' := [some (.ref 141), some (.int (nI fs.length)), some (.int (nI r)), some (.int (nI (c + p))), some (.int (nI (c + te))), some (.int (nI k5)), some (.int (nI (c + st))), some (.int 2), c8]) (Nat.le_of_ble_eq_true rfl) rfl ?_
      refine wg_aload_n (d136_120 L xs) rfl ?_
      refine wg_get (d136_121 L xs) (kd := 1) (cj := 9) (k0 := 32) rfl (Or.inl rfl) (by decide) rfl rfl ?_
      refine wg_iload_n (d136_124 L xs) rfl ?_
      refine wg_dup2 (d136_125 L xs) rfl rfl ?_
      refine wg_iald (d136_126 L xs) (n := 13) (by decide) rfl (vp_in_nI (n := fs.length) (by omega) (by omega)) ?_
      refine wg_top (y := (nI n)) (by rw [nI_nat (n := fs.length) (by omega)]; exact h62) ?_
      refine wg_iconst (d136_127 L xs) (x := 1) (by decide) ?_
      refine wg_iadd (d136_128 L xs) ?_
      refine wg_top (y := (nI (n + 1))) (nI_add n 1) ?_
      refine wg_iast (d136_129 L xs) (n := 13) (by decide) rfl (vp_in_nI (n := fs.length) (by omega) (by omega)) rfl ?_
      rw [nI_nat (n := fs.length) (by omega)]
      refine wg_aload_n (d136_130 L xs) rfl ?_
      refine wg_iload_n (d136_131 L xs) rfl ?_
      refine wg_iload (d136_132 L xs) rfl ?_
      refine wg_aload_n (d136_134 L xs) rfl ?_
      refine wg_get (d136_135 L xs) (kd := 1) (cj := 9) (k0 := 9) rfl (Or.inl rfl) (by decide) rfl rfl ?_
      refine wg_top (y := (nI (c + rd))) rfl ?_
      refine wg_iload (d136_138 L xs) rfl ?_
      refine wg_invv (d136_140 L xs) (kd := 7) (mj := 138) (n := 4) rfl (Or.inl rfl) (ys := [.int (nI (c + te)), .int (nI (c + rd)), .int 2, .int (nI fs.length)]) (r := []) rfl rfl (by decide) rfl rfl (Nat.le_of_ble_eq_true rfl) (by have h := md_does2 (L := L) (xs := xs) (d := d) (inn := k_in E fs.length) (res := res) (v := v) (b := b) (σ := σ) (s := (mg_A (mg_I s 141 9 (nI (c + rd))) 162 fs.length (nI (n + 1)))) hX3 h563 hte hS hrS hSte hb32 hb1 hb2 trivial (fun z => htg (by omega) z) hsg3 hok; rw [hX, xI_n (show ¬ X.1 = 0 by omega) (show ¬ X.1 = 1 by omega)] at h; exact h) ?_
      rintro _ s4 ⟨rfl, hm4, hp4⟩
      refine wg_istore (d136_143 L xs) (ls' := [some (.ref 141), some (.int (nI fs.length)), some (.int (nI r)), some (.int (nI (c + p))), some (.int (nI (c + te))), some (.int (nI k5)), some (.int (nI (c + st))), some (.int 2), some (.int (-1))]) (Nat.le_of_ble_eq_true rfl) rfl ?_
      refine wg_iload (d136_145 L xs) rfl ?_
      refine wg_iconst (d136_147 L xs) (x := 1) (by decide) ?_
      refine wg_icmp_ne (d136_148 L xs) (t := 182) (by decide) (fun _ => ?_) (fun hn => absurd (by decide) hn)
      refine wg_iload (d136_182 L xs) rfl ?_
      refine wg_if_eq (d136_184 L xs) (t := 188) (by decide) (fun hp => absurd hp (by decide)) (fun _ => ?_)
      exact wg_vret (d136_187 L xs) rfl ⟨rfl, m3.trans (hm4.more (by decide) (by decide)), by unfold k_aft; rw [if_neg (by omega), if_neg (by omega), k_ret_err hx]; exact Or.inl ⟨(hp4.2.2 hx).1, (hp4.2.2 hx).2, hp4.1⟩⟩
  · have hma := ma_v (E := E) (inn := k_in E fs.length) (D := D) (dom := dom) (t := (3, res, if rd < S then rd + 1 else S, S, b, v)) (σ := σ) (show ¬ (3 : Nat) = 1 by omega)
    have hoR := ok_ma (E := E) (D := D) (dom := dom) (t := (3, res, if rd < S then rd + 1 else S, S, b, v)) (ok_kin (E := E) (dep := fs.length)) hok
    generalize hX : x_ma E (k_in E fs.length) D dom (3, res, if rd < S then rd + 1 else S, S, b, v) σ = X at hma hoR ⊢
    have hmo := hma.2
    rcases hma.1 with hx | hx | hx
    · have hok4 : okS X.2 := okR_S hoR (by omega)
      refine wg_aload_n (d136_109 L xs) rfl ?_
      refine wg_iload_n (d136_110 L xs) rfl ?_
      refine wg_iload (d136_111 L xs) rfl ?_
      refine wg_iload (d136_113 L xs) rfl ?_
      refine wg_invv (d136_115 L xs) (kd := 7) (mj := 134) (n := 3) rfl (Or.inl rfl) (ys := [.int (nI (c + te)), .int (nI (c + st)), .int (nI r)]) (r := []) rfl rfl (by decide) rfl rfl (Nat.le_of_ble_eq_true rfl) (by have h := md_mech (L := L) (xs := xs) (d := d + 6) hR hte hst0; rw [hm] at h; exact h) ?_
      rintro _ _ ⟨rfl, rfl⟩
      refine wg_istore (d136_118 L xs) (ls' := [some (.ref 141), some (.int (nI fs.length)), some (.int (nI r)), some (.int (nI (c + p))), some (.int (nI (c + te))), some (.int (nI k5)), some (.int (nI (c + st))), some (.int 3), c8]) (Nat.le_of_ble_eq_true rfl) rfl ?_
      refine wg_aload_n (d136_120 L xs) rfl ?_
      refine wg_get (d136_121 L xs) (kd := 1) (cj := 9) (k0 := 32) rfl (Or.inl rfl) (by decide) rfl rfl ?_
      refine wg_iload_n (d136_124 L xs) rfl ?_
      refine wg_dup2 (d136_125 L xs) rfl rfl ?_
      refine wg_iald (d136_126 L xs) (n := 13) (by decide) rfl (vp_in_nI (n := fs.length) (by omega) (by omega)) ?_
      refine wg_top (y := (nI n)) (by rw [nI_nat (n := fs.length) (by omega)]; exact h62) ?_
      refine wg_iconst (d136_127 L xs) (x := 1) (by decide) ?_
      refine wg_iadd (d136_128 L xs) ?_
      refine wg_top (y := (nI (n + 1))) (nI_add n 1) ?_
      refine wg_iast (d136_129 L xs) (n := 13) (by decide) rfl (vp_in_nI (n := fs.length) (by omega) (by omega)) rfl ?_
      rw [nI_nat (n := fs.length) (by omega)]
      refine wg_aload_n (d136_130 L xs) rfl ?_
      refine wg_iload_n (d136_131 L xs) rfl ?_
      refine wg_iload (d136_132 L xs) rfl ?_
      refine wg_aload_n (d136_134 L xs) rfl ?_
      refine wg_get (d136_135 L xs) (kd := 1) (cj := 9) (k0 := 9) rfl (Or.inl rfl) (by decide) rfl rfl ?_
      refine wg_top (y := (nI (c + rd))) rfl ?_
      refine wg_iload (d136_138 L xs) rfl ?_
      refine wg_invv (d136_140 L xs) (kd := 7) (mj := 138) (n := 4) rfl (Or.inl rfl) (ys := [.int (nI (c + te)), .int (nI (c + rd)), .int 3, .int (nI fs.length)]) (r := []) rfl rfl (by decide) rfl rfl (Nat.le_of_ble_eq_true rfl) (by have h := md_does3 (L := L) (xs := xs) (d := d) (inn := k_in E fs.length) (res := res) (v := v) (b := b) (σ := σ) (s := (mg_A (mg_I s 141 9 (nI (c + rd))) 162 fs.length (nI (n + 1)))) hX3 h563 hte hS hrS hSte hb32 hb1 hb2 trivial (fun z => htg (by omega) z) hsg3 hok; rw [hX, hx] at h; exact h) ?_
      rintro _ s4 ⟨rfl, hm4, hp4⟩
      have e23 : s4.1 141 23 = nI (fs.length + 1) := (hp4.2.1 (by decide)).trans h23
      refine wg_istore (d136_143 L xs) (ls' := [some (.ref 141), some (.int (nI fs.length)), some (.int (nI r)), some (.int (nI (c + p))), some (.int (nI (c + te))), some (.int (nI k5)), some (.int (nI (c + st))), some (.int 3), some (.int 0)]) (Nat.le_of_ble_eq_true rfl) rfl ?_
      refine wg_iload (d136_145 L xs) rfl ?_
      refine wg_iconst (d136_147 L xs) (x := 1) (by decide) ?_
      refine wg_icmp_ne (d136_148 L xs) (t := 182) (by decide) (fun _ => ?_) (fun hn => absurd (by decide) hn)
      refine wg_iload (d136_182 L xs) rfl ?_
      refine wg_if_eq (d136_184 L xs) (t := 188) (by decide) (fun _ => ?_) (fun hn => absurd (by decide) hn)
      refine wg_goto (d136_188 L xs) (t := 14) (by decide) ?_
      have hm04 := m3.trans (hm4.more (F' := kF) (A' := kA) (by decide) (by decide))
      unfold k_aft
      rw [if_neg (by omega), if_pos hx]
      exact wp_mono (kk s4 X.2 _ _ _ _ _ _ hm04 (isStk_m hst3 hm4 (by decide)) hp4.1 hok4 hmo e23 (isE_of hE hm04 (fun _ q => q) (fun _ q => q)) ((congrFun (hm4.2.2.1 156 (by decide)) _).trans h563) (isRec_of hR3 (hm4.2.2.1 144 (by decide)) (hm4.2.2.1 145 (by decide)) (hm4.2.2.1 146 (by decide)))) (fun rv s' h => ⟨h.1, hm04.trans h.2.1, kOut_le h.2.2 (by omega)⟩)
    · have hok4 : okS X.2 := okR_S hoR (by omega)
      refine wg_aload_n (d136_109 L xs) rfl ?_
      refine wg_iload_n (d136_110 L xs) rfl ?_
      refine wg_iload (d136_111 L xs) rfl ?_
      refine wg_iload (d136_113 L xs) rfl ?_
      refine wg_invv (d136_115 L xs) (kd := 7) (mj := 134) (n := 3) rfl (Or.inl rfl) (ys := [.int (nI (c + te)), .int (nI (c + st)), .int (nI r)]) (r := []) rfl rfl (by decide) rfl rfl (Nat.le_of_ble_eq_true rfl) (by have h := md_mech (L := L) (xs := xs) (d := d + 6) hR hte hst0; rw [hm] at h; exact h) ?_
      rintro _ _ ⟨rfl, rfl⟩
      refine wg_istore (d136_118 L xs) (ls' := [some (.ref 141), some (.int (nI fs.length)), some (.int (nI r)), some (.int (nI (c + p))), some (.int (nI (c + te))), some (.int (nI k5)), some (.int (nI (c + st))), some (.int 3), c8]) (Nat.le_of_ble_eq_true rfl) rfl ?_
      refine wg_aload_n (d136_120 L xs) rfl ?_
      refine wg_get (d136_121 L xs) (kd := 1) (cj := 9) (k0 := 32) rfl (Or.inl rfl) (by decide) rfl rfl ?_
      refine wg_iload_n (d136_124 L xs) rfl ?_
      refine wg_dup2 (d136_125 L xs) rfl rfl ?_
      refine wg_iald (d136_126 L xs) (n := 13) (by decide) rfl (vp_in_nI (n := fs.length) (by omega) (by omega)) ?_
      refine wg_top (y := (nI n)) (by rw [nI_nat (n := fs.length) (by omega)]; exact h62) ?_
      refine wg_iconst (d136_127 L xs) (x := 1) (by decide) ?_
      refine wg_iadd (d136_128 L xs) ?_
      refine wg_top (y := (nI (n + 1))) (nI_add n 1) ?_
      refine wg_iast (d136_129 L xs) (n := 13) (by decide) rfl (vp_in_nI (n := fs.length) (by omega) (by omega)) rfl ?_
      rw [nI_nat (n := fs.length) (by omega)]
      refine wg_aload_n (d136_130 L xs) rfl ?_
      refine wg_iload_n (d136_131 L xs) rfl ?_
      refine wg_iload (d136_132 L xs) rfl ?_
      refine wg_aload_n (d136_134 L xs) rfl ?_
      refine wg_get (d136_135 L xs) (kd := 1) (cj := 9) (k0 := 9) rfl (Or.inl rfl) (by decide) rfl rfl ?_
      refine wg_top (y := (nI (c + rd))) rfl ?_
      refine wg_iload (d136_138 L xs) rfl ?_
      refine wg_invv (d136_140 L xs) (kd := 7) (mj := 138) (n := 4) rfl (Or.inl rfl) (ys := [.int (nI (c + te)), .int (nI (c + rd)), .int 3, .int (nI fs.length)]) (r := []) rfl rfl (by decide) rfl rfl (Nat.le_of_ble_eq_true rfl) (by have h := md_does3 (L := L) (xs := xs) (d := d) (inn := k_in E fs.length) (res := res) (v := v) (b := b) (σ := σ) (s := (mg_A (mg_I s 141 9 (nI (c + rd))) 162 fs.length (nI (n + 1)))) hX3 h563 hte hS hrS hSte hb32 hb1 hb2 trivial (fun z => htg (by omega) z) hsg3 hok; rw [hX, hx] at h; exact h) ?_
      rintro _ s4 ⟨rfl, hm4, hp4⟩
      have e23 : s4.1 141 23 = nI (fs.length + 1) := (hp4.2.1 (by decide)).trans h23
      refine wg_istore (d136_143 L xs) (ls' := [some (.ref 141), some (.int (nI fs.length)), some (.int (nI r)), some (.int (nI (c + p))), some (.int (nI (c + te))), some (.int (nI k5)), some (.int (nI (c + st))), some (.int 3), some (.int 1)]) (Nat.le_of_ble_eq_true rfl) rfl ?_
      refine wg_iload (d136_145 L xs) rfl ?_
      refine wg_iconst (d136_147 L xs) (x := 1) (by decide) ?_
      refine wg_icmp_ne (d136_148 L xs) (t := 182) (by decide) (fun hp => absurd hp (by decide)) (fun _ => ?_)
      have hst4 := isStk_m hst3 hm4 (by decide)
      have e62 : s4.2.1 162 fs.length = nI (n + 1) := hst4.1.2.2.2.1
      have e33 : s4.1 141 33 = nI res := (hm4.2.1 33 (by decide)).trans h33
      have hm04 := m3.trans (hm4.more (F' := kF) (A' := kA) (by decide) (by decide))
      unfold k_aft
      rw [if_pos hx]
      by_cases hf0 : fs.length = 0
      · have hsg5 : isSg (mg_I s4 141 39 (nI n)) (st_mt X.2 fs.length n) := by rw [st_mt_z hf0]; exact isSg_mt hp4.1 _
        refine wg_aload_n (d136_151 L xs) rfl ?_
        refine wg_iload_n (d136_152 L xs) rfl ?_
        refine wn_if_ne (d136_153 L xs) (x := fs.length) (by omega) (t := 167) (by decide) (fun h41 => by omega) (fun h41 => ?_)
        refine wg_aload_n (d136_156 L xs) rfl ?_
        refine wg_get (d136_157 L xs) (kd := 1) (cj := 9) (k0 := 32) rfl (Or.inl rfl) (by decide) rfl rfl ?_
        refine wg_iconst (d136_160 L xs) (x := 0) (by decide) ?_
        refine wg_iald (d136_161 L xs) (n := 13) (by decide) rfl (vp_in_nI (n := 0) (by omega) (by omega)) ?_
        refine wg_top (y := (nI (n + 1))) (by have := e62; rw [show fs.length = 0 by omega] at this; exact this) ?_
        refine wg_iconst (d136_162 L xs) (x := 1) (by decide) ?_
        refine wg_isub (d136_163 L xs) ?_
        refine wg_top (y := (nI n)) (pk_sub (a := n + 1) (b := 1) (by omega)) ?_
        refine wg_goto (d136_164 L xs) (t := 171) (by decide) ?_
        refine wg_puti (d136_171 L xs) (cj := 9) (k0 := 39) rfl (by decide) rfl (Nat.le_of_ble_eq_true rfl) rfl rfl rfl ?_
        refine wg_aload_n (d136_174 L xs) rfl ?_
        refine wg_aload_n (d136_175 L xs) rfl ?_
        refine wg_get (d136_176 L xs) (kd := 1) (cj := 9) (k0 := 33) rfl (Or.inl rfl) (by decide) rfl rfl ?_
        refine wg_top (y := (nI res)) e33 ?_
        refine wg_invv (d136_179 L xs) (kd := 7) (mj := 118) (n := 1) rfl (Or.inl rfl) (ys := [.int (nI res)]) (r := []) rfl rfl (by decide) rfl rfl (Nat.le_of_ble_eq_true rfl) (md_comes (E := E) (fs := fs) (how := how) (sg := sg) (x := res) (σ := st_mt X.2 fs.length n) (s := (mg_I s4 141 39 (nI n))) e23 hst4.1.1 hst4.1.2.1 hst.2.1.1 hst.2.1.2.1 hst.2.1.2.2.1 hst.2.1.2.2.2.1 hst.2.2.1 (isStk_I hst4.2.2.2) hsg5 (okS_mt hok4) hres4 (Nat.le_trans hdp hmo)) ?_
        rintro _ s6 ⟨rfl, hm6, hko⟩
        refine wg_iload (d136_182 L xs) rfl ?_
        refine wg_if_eq (d136_184 L xs) (t := 188) (by decide) (fun hp => absurd hp (by decide)) (fun _ => ?_)
        exact wg_vret (d136_187 L xs) rfl ⟨rfl, (hm04.trans (mfr_I s4 (by decide))).trans (hm6.more (by decide) (by decide)), kOut_le hko (by show 2 * (10 - X.2.1) + fs.length ≤ _; omega)⟩
      · have hsg5 : isSg (mg_I s4 141 39 (s4.1 141 39)) (st_mt X.2 fs.length n) := by rw [st_mt_ne hf0]; exact ⟨hp4.1.1, hp4.1.2.1, hp4.1.2.2.1, hp4.1.2.2.2.1, hp4.1.2.2.2.2.1, hp4.1.2.2.2.2.2⟩
        refine wg_aload_n (d136_151 L xs) rfl ?_
        refine wg_iload_n (d136_152 L xs) rfl ?_
        refine wn_if_ne (d136_153 L xs) (x := fs.length) (by omega) (t := 167) (by decide) (fun h41 => ?_) (fun h41 => by omega)
        refine wg_aload_n (d136_167 L xs) rfl ?_
        refine wg_get (d136_168 L xs) (kd := 1) (cj := 9) (k0 := 39) rfl (Or.inl rfl) (by decide) rfl rfl ?_
        refine wg_puti (d136_171 L xs) (cj := 9) (k0 := 39) rfl (by decide) rfl (Nat.le_of_ble_eq_true rfl) rfl rfl rfl ?_
        refine wg_aload_n (d136_174 L xs) rfl ?_
        refine wg_aload_n (d136_175 L xs) rfl ?_
        refine wg_get (d136_176 L xs) (kd := 1) (cj := 9) (k0 := 33) rfl (Or.inl rfl) (by decide) rfl rfl ?_
        refine wg_top (y := (nI res)) e33 ?_
        refine wg_invv (d136_179 L xs) (kd := 7) (mj := 118) (n := 1) rfl (Or.inl rfl) (ys := [.int (nI res)]) (r := []) rfl rfl (by decide) rfl rfl (Nat.le_of_ble_eq_true rfl) (md_comes (E := E) (fs := fs) (how := how) (sg := sg) (x := res) (σ := st_mt X.2 fs.length n) (s := (mg_I s4 141 39 (s4.1 141 39))) e23 hst4.1.1 hst4.1.2.1 hst.2.1.1 hst.2.1.2.1 hst.2.1.2.2.1 hst.2.1.2.2.2.1 hst.2.2.1 (isStk_I hst4.2.2.2) hsg5 (okS_mt hok4) hres4 (Nat.le_trans hdp hmo)) ?_
        rintro _ s6 ⟨rfl, hm6, hko⟩
        refine wg_iload (d136_182 L xs) rfl ?_
        refine wg_if_eq (d136_184 L xs) (t := 188) (by decide) (fun hp => absurd hp (by decide)) (fun _ => ?_)
        exact wg_vret (d136_187 L xs) rfl ⟨rfl, (hm04.trans (mfr_I s4 (by decide))).trans (hm6.more (by decide) (by decide)), kOut_le hko (by show 2 * (10 - X.2.1) + fs.length ≤ _; omega)⟩
    · refine wg_aload_n (d136_109 L xs) rfl ?_
      refine wg_iload_n (d136_110 L xs) rfl ?_
      refine wg_iload (d136_111 L xs) rfl ?_
      refine wg_iload (d136_113 L xs) rfl ?_
      refine wg_invv (d136_115 L xs) (kd := 7) (mj := 134) (n := 3) rfl (Or.inl rfl) (ys := [.int (nI (c + te)), .int (nI (c + st)), .int (nI r)]) (r := []) rfl rfl (by decide) rfl rfl (Nat.le_of_ble_eq_true rfl) (by have h := md_mech (L := L) (xs := xs) (d := d + 6) hR hte hst0; rw [hm] at h; exact h) ?_
      rintro _ _ ⟨rfl, rfl⟩
      refine wg_istore (d136_118 L xs) (ls' := [some (.ref 141), some (.int (nI fs.length)), some (.int (nI r)), some (.int (nI (c + p))), some (.int (nI (c + te))), some (.int (nI k5)), some (.int (nI (c + st))), some (.int 3), c8]) (Nat.le_of_ble_eq_true rfl) rfl ?_
      refine wg_aload_n (d136_120 L xs) rfl ?_
      refine wg_get (d136_121 L xs) (kd := 1) (cj := 9) (k0 := 32) rfl (Or.inl rfl) (by decide) rfl rfl ?_
      refine wg_iload_n (d136_124 L xs) rfl ?_
      refine wg_dup2 (d136_125 L xs) rfl rfl ?_
      refine wg_iald (d136_126 L xs) (n := 13) (by decide) rfl (vp_in_nI (n := fs.length) (by omega) (by omega)) ?_
      refine wg_top (y := (nI n)) (by rw [nI_nat (n := fs.length) (by omega)]; exact h62) ?_
      refine wg_iconst (d136_127 L xs) (x := 1) (by decide) ?_
      refine wg_iadd (d136_128 L xs) ?_
      refine wg_top (y := (nI (n + 1))) (nI_add n 1) ?_
      refine wg_iast (d136_129 L xs) (n := 13) (by decide) rfl (vp_in_nI (n := fs.length) (by omega) (by omega)) rfl ?_
      rw [nI_nat (n := fs.length) (by omega)]
      refine wg_aload_n (d136_130 L xs) rfl ?_
      refine wg_iload_n (d136_131 L xs) rfl ?_
      refine wg_iload (d136_132 L xs) rfl ?_
      refine wg_aload_n (d136_134 L xs) rfl ?_
      refine wg_get (d136_135 L xs) (kd := 1) (cj := 9) (k0 := 9) rfl (Or.inl rfl) (by decide) rfl rfl ?_
      refine wg_top (y := (nI (c + rd))) rfl ?_
      refine wg_iload (d136_138 L xs) rfl ?_
      refine wg_invv (d136_140 L xs) (kd := 7) (mj := 138) (n := 4) rfl (Or.inl rfl) (ys := [.int (nI (c + te)), .int (nI (c + rd)), .int 3, .int (nI fs.length)]) (r := []) rfl rfl (by decide) rfl rfl (Nat.le_of_ble_eq_true rfl) (by have h := md_does3 (L := L) (xs := xs) (d := d) (inn := k_in E fs.length) (res := res) (v := v) (b := b) (σ := σ) (s := (mg_A (mg_I s 141 9 (nI (c + rd))) 162 fs.length (nI (n + 1)))) hX3 h563 hte hS hrS hSte hb32 hb1 hb2 trivial (fun z => htg (by omega) z) hsg3 hok; rw [hX, xI_n (show ¬ X.1 = 0 by omega) (show ¬ X.1 = 1 by omega)] at h; exact h) ?_
      rintro _ s4 ⟨rfl, hm4, hp4⟩
      refine wg_istore (d136_143 L xs) (ls' := [some (.ref 141), some (.int (nI fs.length)), some (.int (nI r)), some (.int (nI (c + p))), some (.int (nI (c + te))), some (.int (nI k5)), some (.int (nI (c + st))), some (.int 3), some (.int (-1))]) (Nat.le_of_ble_eq_true rfl) rfl ?_
      refine wg_iload (d136_145 L xs) rfl ?_
      refine wg_iconst (d136_147 L xs) (x := 1) (by decide) ?_
      refine wg_icmp_ne (d136_148 L xs) (t := 182) (by decide) (fun _ => ?_) (fun hn => absurd (by decide) hn)
      refine wg_iload (d136_182 L xs) rfl ?_
      refine wg_if_eq (d136_184 L xs) (t := 188) (by decide) (fun hp => absurd hp (by decide)) (fun _ => ?_)
      exact wg_vret (d136_187 L xs) rfl ⟨rfl, m3.trans (hm4.more (by decide) (by decide)), by unfold k_aft; rw [if_neg (by omega), if_neg (by omega), k_ret_err hx]; exact Or.inl ⟨(hp4.2.2 hx).1, (hp4.2.2 hx).2, hp4.1⟩⟩
  · have hma := ma_v (E := E) (inn := k_in E fs.length) (D := D) (dom := dom) (t := (4, res, if rd < S then rd + 1 else S, S, b, v)) (σ := σ) (show ¬ (4 : Nat) = 1 by omega)
    have hoR := ok_ma (E := E) (D := D) (dom := dom) (t := (4, res, if rd < S then rd + 1 else S, S, b, v)) (ok_kin (E := E) (dep := fs.length)) hok
    generalize hX : x_ma E (k_in E fs.length) D dom (4, res, if rd < S then rd + 1 else S, S, b, v) σ = X at hma hoR ⊢
    have hmo := hma.2
    rcases hma.1 with hx | hx | hx
    · have hok4 : okS X.2 := okR_S hoR (by omega)
      refine wg_aload_n (d136_109 L xs) rfl ?_
      refine wg_iload_n (d136_110 L xs) rfl ?_
      refine wg_iload (d136_111 L xs) rfl ?_
      refine wg_iload (d136_113 L xs) rfl ?_
      refine wg_invv (d136_115 L xs) (kd := 7) (mj := 134) (n := 3) rfl (Or.inl rfl) (ys := [.int (nI (c + te)), .int (nI (c + st)), .int (nI r)]) (r := []) rfl rfl (by decide) rfl rfl (Nat.le_of_ble_eq_true rfl) (by have h := md_mech (L := L) (xs := xs) (d := d + 6) hR hte hst0; rw [hm] at h; exact h) ?_
      rintro _ _ ⟨rfl, rfl⟩
      refine wg_istore (d136_118 L xs) (ls' := [some (.ref 141), some (.int (nI fs.length)), some (.int (nI r)), some (.int (nI (c + p))), some (.int (nI (c + te))), some (.int (nI k5)), some (.int (nI (c + st))), some (.int 4), c8]) (Nat.le_of_ble_eq_true rfl) rfl ?_
      refine wg_aload_n (d136_120 L xs) rfl ?_
      refine wg_get (d136_121 L xs) (kd := 1) (cj := 9) (k0 := 32) rfl (Or.inl rfl) (by decide) rfl rfl ?_
      refine wg_iload_n (d136_124 L xs) rfl ?_
      refine wg_dup2 (d136_125 L xs) rfl rfl ?_
      refine wg_iald (d136_126 L xs) (n := 13) (by decide) rfl (vp_in_nI (n := fs.length) (by omega) (by omega)) ?_
      refine wg_top (y := (nI n)) (by rw [nI_nat (n := fs.length) (by omega)]; exact h62) ?_
      refine wg_iconst (d136_127 L xs) (x := 1) (by decide) ?_
      refine wg_iadd (d136_128 L xs) ?_
      refine wg_top (y := (nI (n + 1))) (nI_add n 1) ?_
      refine wg_iast (d136_129 L xs) (n := 13) (by decide) rfl (vp_in_nI (n := fs.length) (by omega) (by omega)) rfl ?_
      rw [nI_nat (n := fs.length) (by omega)]
      refine wg_aload_n (d136_130 L xs) rfl ?_
      refine wg_iload_n (d136_131 L xs) rfl ?_
      refine wg_iload (d136_132 L xs) rfl ?_
      refine wg_aload_n (d136_134 L xs) rfl ?_
      refine wg_get (d136_135 L xs) (kd := 1) (cj := 9) (k0 := 9) rfl (Or.inl rfl) (by decide) rfl rfl ?_
      refine wg_top (y := (nI (c + rd))) rfl ?_
      refine wg_iload (d136_138 L xs) rfl ?_
      refine wg_invv (d136_140 L xs) (kd := 7) (mj := 138) (n := 4) rfl (Or.inl rfl) (ys := [.int (nI (c + te)), .int (nI (c + rd)), .int 4, .int (nI fs.length)]) (r := []) rfl rfl (by decide) rfl rfl (Nat.le_of_ble_eq_true rfl) (by have h := md_does4 (L := L) (xs := xs) (d := d) (inn := k_in E fs.length) (res := res) (v := v) (b := b) (σ := σ) (s := (mg_A (mg_I s 141 9 (nI (c + rd))) 162 fs.length (nI (n + 1)))) hX3 h563 hte hS hrS hSte hb32 hb1 hb2 (h4 rfl) (fun _ => trivial) hsg3 hok; rw [hX, hx] at h; exact h) ?_
      rintro _ s4 ⟨rfl, hm4, hp4⟩
      have e23 : s4.1 141 23 = nI (fs.length + 1) := (hp4.2.1 (by decide)).trans h23
      refine wg_istore (d136_143 L xs) (ls' := [some (.ref 141), some (.int (nI fs.length)), some (.int (nI r)), some (.int (nI (c + p))), some (.int (nI (c + te))), some (.int (nI k5)), some (.int (nI (c + st))), some (.int 4), some (.int 0)]) (Nat.le_of_ble_eq_true rfl) rfl ?_
      refine wg_iload (d136_145 L xs) rfl ?_
      refine wg_iconst (d136_147 L xs) (x := 1) (by decide) ?_
      refine wg_icmp_ne (d136_148 L xs) (t := 182) (by decide) (fun _ => ?_) (fun hn => absurd (by decide) hn)
      refine wg_iload (d136_182 L xs) rfl ?_
      refine wg_if_eq (d136_184 L xs) (t := 188) (by decide) (fun _ => ?_) (fun hn => absurd (by decide) hn)
      refine wg_goto (d136_188 L xs) (t := 14) (by decide) ?_
      have hm04 := m3.trans (hm4.more (F' := kF) (A' := kA) (by decide) (by decide))
      unfold k_aft
      rw [if_neg (by omega), if_pos hx]
      exact wp_mono (kk s4 X.2 _ _ _ _ _ _ hm04 (isStk_m hst3 hm4 (by decide)) hp4.1 hok4 hmo e23 (isE_of hE hm04 (fun _ q => q) (fun _ q => q)) ((congrFun (hm4.2.2.1 156 (by decide)) _).trans h563) (isRec_of hR3 (hm4.2.2.1 144 (by decide)) (hm4.2.2.1 145 (by decide)) (hm4.2.2.1 146 (by decide)))) (fun rv s' h => ⟨h.1, hm04.trans h.2.1, kOut_le h.2.2 (by omega)⟩)
    · have hok4 : okS X.2 := okR_S hoR (by omega)
      refine wg_aload_n (d136_109 L xs) rfl ?_
      refine wg_iload_n (d136_110 L xs) rfl ?_
      refine wg_iload (d136_111 L xs) rfl ?_
      refine wg_iload (d136_113 L xs) rfl ?_
      refine wg_invv (d136_115 L xs) (kd := 7) (mj := 134) (n := 3) rfl (Or.inl rfl) (ys := [.int (nI (c + te)), .int (nI (c + st)), .int (nI r)]) (r := []) rfl rfl (by decide) rfl rfl (Nat.le_of_ble_eq_true rfl) (by have h := md_mech (L := L) (xs := xs) (d := d + 6) hR hte hst0; rw [hm] at h; exact h) ?_
      rintro _ _ ⟨rfl, rfl⟩
      refine wg_istore (d136_118 L xs) (ls' := [some (.ref 141), some (.int (nI fs.length)), some (.int (nI r)), some (.int (nI (c + p))), some (.int (nI (c + te))), some (.int (nI k5)), some (.int (nI (c + st))), some (.int 4), c8]) (Nat.le_of_ble_eq_true rfl) rfl ?_
      refine wg_aload_n (d136_120 L xs) rfl ?_
      refine wg_get (d136_121 L xs) (kd := 1) (cj := 9) (k0 := 32) rfl (Or.inl rfl) (by decide) rfl rfl ?_
      refine wg_iload_n (d136_124 L xs) rfl ?_
      refine wg_dup2 (d136_125 L xs) rfl rfl ?_
      refine wg_iald (d136_126 L xs) (n := 13) (by decide) rfl (vp_in_nI (n := fs.length) (by omega) (by omega)) ?_
      refine wg_top (y := (nI n)) (by rw [nI_nat (n := fs.length) (by omega)]; exact h62) ?_
      refine wg_iconst (d136_127 L xs) (x := 1) (by decide) ?_
      refine wg_iadd (d136_128 L xs) ?_
      refine wg_top (y := (nI (n + 1))) (nI_add n 1) ?_
      refine wg_iast (d136_129 L xs) (n := 13) (by decide) rfl (vp_in_nI (n := fs.length) (by omega) (by omega)) rfl ?_
      rw [nI_nat (n := fs.length) (by omega)]
      refine wg_aload_n (d136_130 L xs) rfl ?_
      refine wg_iload_n (d136_131 L xs) rfl ?_
      refine wg_iload (d136_132 L xs) rfl ?_
      refine wg_aload_n (d136_134 L xs) rfl ?_
      refine wg_get (d136_135 L xs) (kd := 1) (cj := 9) (k0 := 9) rfl (Or.inl rfl) (by decide) rfl rfl ?_
      refine wg_top (y := (nI (c + rd))) rfl ?_
      refine wg_iload (d136_138 L xs) rfl ?_
      refine wg_invv (d136_140 L xs) (kd := 7) (mj := 138) (n := 4) rfl (Or.inl rfl) (ys := [.int (nI (c + te)), .int (nI (c + rd)), .int 4, .int (nI fs.length)]) (r := []) rfl rfl (by decide) rfl rfl (Nat.le_of_ble_eq_true rfl) (by have h := md_does4 (L := L) (xs := xs) (d := d) (inn := k_in E fs.length) (res := res) (v := v) (b := b) (σ := σ) (s := (mg_A (mg_I s 141 9 (nI (c + rd))) 162 fs.length (nI (n + 1)))) hX3 h563 hte hS hrS hSte hb32 hb1 hb2 (h4 rfl) (fun _ => trivial) hsg3 hok; rw [hX, hx] at h; exact h) ?_
      rintro _ s4 ⟨rfl, hm4, hp4⟩
      have e23 : s4.1 141 23 = nI (fs.length + 1) := (hp4.2.1 (by decide)).trans h23
      refine wg_istore (d136_143 L xs) (ls' := [some (.ref 141), some (.int (nI fs.length)), some (.int (nI r)), some (.int (nI (c + p))), some (.int (nI (c + te))), some (.int (nI k5)), some (.int (nI (c + st))), some (.int 4), some (.int 1)]) (Nat.le_of_ble_eq_true rfl) rfl ?_
      refine wg_iload (d136_145 L xs) rfl ?_
      refine wg_iconst (d136_147 L xs) (x := 1) (by decide) ?_
      refine wg_icmp_ne (d136_148 L xs) (t := 182) (by decide) (fun hp => absurd hp (by decide)) (fun _ => ?_)
      have hst4 := isStk_m hst3 hm4 (by decide)
      have e62 : s4.2.1 162 fs.length = nI (n + 1) := hst4.1.2.2.2.1
      have e33 : s4.1 141 33 = nI res := (hm4.2.1 33 (by decide)).trans h33
      have hm04 := m3.trans (hm4.more (F' := kF) (A' := kA) (by decide) (by decide))
      unfold k_aft
      rw [if_pos hx]
      by_cases hf0 : fs.length = 0
      · have hsg5 : isSg (mg_I s4 141 39 (nI n)) (st_mt X.2 fs.length n) := by rw [st_mt_z hf0]; exact isSg_mt hp4.1 _
        refine wg_aload_n (d136_151 L xs) rfl ?_
        refine wg_iload_n (d136_152 L xs) rfl ?_
        refine wn_if_ne (d136_153 L xs) (x := fs.length) (by omega) (t := 167) (by decide) (fun h41 => by omega) (fun h41 => ?_)
        refine wg_aload_n (d136_156 L xs) rfl ?_
        refine wg_get (d136_157 L xs) (kd := 1) (cj := 9) (k0 := 32) rfl (Or.inl rfl) (by decide) rfl rfl ?_
        refine wg_iconst (d136_160 L xs) (x := 0) (by decide) ?_
        refine wg_iald (d136_161 L xs) (n := 13) (by decide) rfl (vp_in_nI (n := 0) (by omega) (by omega)) ?_
        refine wg_top (y := (nI (n + 1))) (by have := e62; rw [show fs.length = 0 by omega] at this; exact this) ?_
        refine wg_iconst (d136_162 L xs) (x := 1) (by decide) ?_
        refine wg_isub (d136_163 L xs) ?_
        refine wg_top (y := (nI n)) (pk_sub (a := n + 1) (b := 1) (by omega)) ?_
        refine wg_goto (d136_164 L xs) (t := 171) (by decide) ?_
        refine wg_puti (d136_171 L xs) (cj := 9) (k0 := 39) rfl (by decide) rfl (Nat.le_of_ble_eq_true rfl) rfl rfl rfl ?_
        refine wg_aload_n (d136_174 L xs) rfl ?_
        refine wg_aload_n (d136_175 L xs) rfl ?_
        refine wg_get (d136_176 L xs) (kd := 1) (cj := 9) (k0 := 33) rfl (Or.inl rfl) (by decide) rfl rfl ?_
        refine wg_top (y := (nI res)) e33 ?_
        refine wg_invv (d136_179 L xs) (kd := 7) (mj := 118) (n := 1) rfl (Or.inl rfl) (ys := [.int (nI res)]) (r := []) rfl rfl (by decide) rfl rfl (Nat.le_of_ble_eq_true rfl) (md_comes (E := E) (fs := fs) (how := how) (sg := sg) (x := res) (σ := st_mt X.2 fs.length n) (s := (mg_I s4 141 39 (nI n))) e23 hst4.1.1 hst4.1.2.1 hst.2.1.1 hst.2.1.2.1 hst.2.1.2.2.1 hst.2.1.2.2.2.1 hst.2.2.1 (isStk_I hst4.2.2.2) hsg5 (okS_mt hok4) hres4 (Nat.le_trans hdp hmo)) ?_
        rintro _ s6 ⟨rfl, hm6, hko⟩
        refine wg_iload (d136_182 L xs) rfl ?_
        refine wg_if_eq (d136_184 L xs) (t := 188) (by decide) (fun hp => absurd hp (by decide)) (fun _ => ?_)
        exact wg_vret (d136_187 L xs) rfl ⟨rfl, (hm04.trans (mfr_I s4 (by decide))).trans (hm6.more (by decide) (by decide)), kOut_le hko (by show 2 * (10 - X.2.1) + fs.length ≤ _; omega)⟩
      · have hsg5 : isSg (mg_I s4 141 39 (s4.1 141 39)) (st_mt X.2 fs.length n) := by rw [st_mt_ne hf0]; exact ⟨hp4.1.1, hp4.1.2.1, hp4.1.2.2.1, hp4.1.2.2.2.1, hp4.1.2.2.2.2.1, hp4.1.2.2.2.2.2⟩
        refine wg_aload_n (d136_151 L xs) rfl ?_
        refine wg_iload_n (d136_152 L xs) rfl ?_
        refine wn_if_ne (d136_153 L xs) (x := fs.length) (by omega) (t := 167) (by decide) (fun h41 => ?_) (fun h41 => by omega)
        refine wg_aload_n (d136_167 L xs) rfl ?_
        refine wg_get (d136_168 L xs) (kd := 1) (cj := 9) (k0 := 39) rfl (Or.inl rfl) (by decide) rfl rfl ?_
        refine wg_puti (d136_171 L xs) (cj := 9) (k0 := 39) rfl (by decide) rfl (Nat.le_of_ble_eq_true rfl) rfl rfl rfl ?_
        refine wg_aload_n (d136_174 L xs) rfl ?_
        refine wg_aload_n (d136_175 L xs) rfl ?_
        refine wg_get (d136_176 L xs) (kd := 1) (cj := 9) (k0 := 33) rfl (Or.inl rfl) (by decide) rfl rfl ?_
        refine wg_top (y := (nI res)) e33 ?_
        refine wg_invv (d136_179 L xs) (kd := 7) (mj := 118) (n := 1) rfl (Or.inl rfl) (ys := [.int (nI res)]) (r := []) rfl rfl (by decide) rfl rfl (Nat.le_of_ble_eq_true rfl) (md_comes (E := E) (fs := fs) (how := how) (sg := sg) (x := res) (σ := st_mt X.2 fs.length n) (s := (mg_I s4 141 39 (s4.1 141 39))) e23 hst4.1.1 hst4.1.2.1 hst.2.1.1 hst.2.1.2.1 hst.2.1.2.2.1 hst.2.1.2.2.2.1 hst.2.2.1 (isStk_I hst4.2.2.2) hsg5 (okS_mt hok4) hres4 (Nat.le_trans hdp hmo)) ?_
        rintro _ s6 ⟨rfl, hm6, hko⟩
        refine wg_iload (d136_182 L xs) rfl ?_
        refine wg_if_eq (d136_184 L xs) (t := 188) (by decide) (fun hp => absurd hp (by decide)) (fun _ => ?_)
        exact wg_vret (d136_187 L xs) rfl ⟨rfl, (hm04.trans (mfr_I s4 (by decide))).trans (hm6.more (by decide) (by decide)), kOut_le hko (by show 2 * (10 - X.2.1) + fs.length ≤ _; omega)⟩
    · refine wg_aload_n (d136_109 L xs) rfl ?_
      refine wg_iload_n (d136_110 L xs) rfl ?_
      refine wg_iload (d136_111 L xs) rfl ?_
      refine wg_iload (d136_113 L xs) rfl ?_
      refine wg_invv (d136_115 L xs) (kd := 7) (mj := 134) (n := 3) rfl (Or.inl rfl) (ys := [.int (nI (c + te)), .int (nI (c + st)), .int (nI r)]) (r := []) rfl rfl (by decide) rfl rfl (Nat.le_of_ble_eq_true rfl) (by have h := md_mech (L := L) (xs := xs) (d := d + 6) hR hte hst0; rw [hm] at h; exact h) ?_
      rintro _ _ ⟨rfl, rfl⟩
      refine wg_istore (d136_118 L xs) (ls' := [some (.ref 141), some (.int (nI fs.length)), some (.int (nI r)), some (.int (nI (c + p))), some (.int (nI (c + te))), some (.int (nI k5)), some (.int (nI (c + st))), some (.int 4), c8]) (Nat.le_of_ble_eq_true rfl) rfl ?_
      refine wg_aload_n (d136_120 L xs) rfl ?_
      refine wg_get (d136_121 L xs) (kd := 1) (cj := 9) (k0 := 32) rfl (Or.inl rfl) (by decide) rfl rfl ?_
      refine wg_iload_n (d136_124 L xs) rfl ?_
      refine wg_dup2 (d136_125 L xs) rfl rfl ?_
      refine wg_iald (d136_126 L xs) (n := 13) (by decide) rfl (vp_in_nI (n := fs.length) (by omega) (by omega)) ?_
      refine wg_top (y := (nI n)) (by rw [nI_nat (n := fs.length) (by omega)]; exact h62) ?_
      refine wg_iconst (d136_127 L xs) (x := 1) (by decide) ?_
      refine wg_iadd (d136_128 L xs) ?_
      refine wg_top (y := (nI (n + 1))) (nI_add n 1) ?_
      refine wg_iast (d136_129 L xs) (n := 13) (by decide) rfl (vp_in_nI (n := fs.length) (by omega) (by omega)) rfl ?_
      rw [nI_nat (n := fs.length) (by omega)]
      refine wg_aload_n (d136_130 L xs) rfl ?_
      refine wg_iload_n (d136_131 L xs) rfl ?_
      refine wg_iload (d136_132 L xs) rfl ?_
      refine wg_aload_n (d136_134 L xs) rfl ?_
      refine wg_get (d136_135 L xs) (kd := 1) (cj := 9) (k0 := 9) rfl (Or.inl rfl) (by decide) rfl rfl ?_
      refine wg_top (y := (nI (c + rd))) rfl ?_
      refine wg_iload (d136_138 L xs) rfl ?_
      refine wg_invv (d136_140 L xs) (kd := 7) (mj := 138) (n := 4) rfl (Or.inl rfl) (ys := [.int (nI (c + te)), .int (nI (c + rd)), .int 4, .int (nI fs.length)]) (r := []) rfl rfl (by decide) rfl rfl (Nat.le_of_ble_eq_true rfl) (by have h := md_does4 (L := L) (xs := xs) (d := d) (inn := k_in E fs.length) (res := res) (v := v) (b := b) (σ := σ) (s := (mg_A (mg_I s 141 9 (nI (c + rd))) 162 fs.length (nI (n + 1)))) hX3 h563 hte hS hrS hSte hb32 hb1 hb2 (h4 rfl) (fun _ => trivial) hsg3 hok; rw [hX, xI_n (show ¬ X.1 = 0 by omega) (show ¬ X.1 = 1 by omega)] at h; exact h) ?_
      rintro _ s4 ⟨rfl, hm4, hp4⟩
      refine wg_istore (d136_143 L xs) (ls' := [some (.ref 141), some (.int (nI fs.length)), some (.int (nI r)), some (.int (nI (c + p))), some (.int (nI (c + te))), some (.int (nI k5)), some (.int (nI (c + st))), some (.int 4), some (.int (-1))]) (Nat.le_of_ble_eq_true rfl) rfl ?_
      refine wg_iload (d136_145 L xs) rfl ?_
      refine wg_iconst (d136_147 L xs) (x := 1) (by decide) ?_
      refine wg_icmp_ne (d136_148 L xs) (t := 182) (by decide) (fun _ => ?_) (fun hn => absurd (by decide) hn)
      refine wg_iload (d136_182 L xs) rfl ?_
      refine wg_if_eq (d136_184 L xs) (t := 188) (by decide) (fun hp => absurd hp (by decide)) (fun _ => ?_)
      exact wg_vret (d136_187 L xs) rfl ⟨rfl, m3.trans (hm4.more (by decide) (by decide)), by unfold k_aft; rw [if_neg (by omega), if_neg (by omega), k_ret_err hx]; exact Or.inl ⟨(hp4.2.2 hx).1, (hp4.2.2 hx).2, hp4.1⟩⟩
  · have hma := ma_v (E := E) (inn := k_in E fs.length) (D := D) (dom := dom) (t := (5, res, if rd < S then rd + 1 else S, S, b, v)) (σ := σ) (show ¬ (5 : Nat) = 1 by omega)
    have hoR := ok_ma (E := E) (D := D) (dom := dom) (t := (5, res, if rd < S then rd + 1 else S, S, b, v)) (ok_kin (E := E) (dep := fs.length)) hok
    generalize hX : x_ma E (k_in E fs.length) D dom (5, res, if rd < S then rd + 1 else S, S, b, v) σ = X at hma hoR ⊢
    have hmo := hma.2
    rcases hma.1 with hx | hx | hx
    · have hok4 : okS X.2 := okR_S hoR (by omega)
      refine wg_aload_n (d136_109 L xs) rfl ?_
      refine wg_iload_n (d136_110 L xs) rfl ?_
      refine wg_iload (d136_111 L xs) rfl ?_
      refine wg_iload (d136_113 L xs) rfl ?_
      refine wg_invv (d136_115 L xs) (kd := 7) (mj := 134) (n := 3) rfl (Or.inl rfl) (ys := [.int (nI (c + te)), .int (nI (c + st)), .int (nI r)]) (r := []) rfl rfl (by decide) rfl rfl (Nat.le_of_ble_eq_true rfl) (by have h := md_mech (L := L) (xs := xs) (d := d + 6) hR hte hst0; rw [hm] at h; exact h) ?_
      rintro _ _ ⟨rfl, rfl⟩
      refine wg_istore (d136_118 L xs) (ls' := [some (.ref 141), some (.int (nI fs.length)), some (.int (nI r)), some (.int (nI (c + p))), some (.int (nI (c + te))), some (.int (nI k5)), some (.int (nI (c + st))), some (.int 5), c8]) (Nat.le_of_ble_eq_true rfl) rfl ?_
      refine wg_aload_n (d136_120 L xs) rfl ?_
      refine wg_get (d136_121 L xs) (kd := 1) (cj := 9) (k0 := 32) rfl (Or.inl rfl) (by decide) rfl rfl ?_
      refine wg_iload_n (d136_124 L xs) rfl ?_
      refine wg_dup2 (d136_125 L xs) rfl rfl ?_
      refine wg_iald (d136_126 L xs) (n := 13) (by decide) rfl (vp_in_nI (n := fs.length) (by omega) (by omega)) ?_
      refine wg_top (y := (nI n)) (by rw [nI_nat (n := fs.length) (by omega)]; exact h62) ?_
      refine wg_iconst (d136_127 L xs) (x := 1) (by decide) ?_
      refine wg_iadd (d136_128 L xs) ?_
      refine wg_top (y := (nI (n + 1))) (nI_add n 1) ?_
      refine wg_iast (d136_129 L xs) (n := 13) (by decide) rfl (vp_in_nI (n := fs.length) (by omega) (by omega)) rfl ?_
      rw [nI_nat (n := fs.length) (by omega)]
      refine wg_aload_n (d136_130 L xs) rfl ?_
      refine wg_iload_n (d136_131 L xs) rfl ?_
      refine wg_iload (d136_132 L xs) rfl ?_
      refine wg_aload_n (d136_134 L xs) rfl ?_
      refine wg_get (d136_135 L xs) (kd := 1) (cj := 9) (k0 := 9) rfl (Or.inl rfl) (by decide) rfl rfl ?_
      refine wg_top (y := (nI (c + rd))) rfl ?_
      refine wg_iload (d136_138 L xs) rfl ?_
      refine wg_invv (d136_140 L xs) (kd := 7) (mj := 138) (n := 4) rfl (Or.inl rfl) (ys := [.int (nI (c + te)), .int (nI (c + rd)), .int 5, .int (nI fs.length)]) (r := []) rfl rfl (by decide) rfl rfl (Nat.le_of_ble_eq_true rfl) (by have h := md_does5 (L := L) (xs := xs) (d := d) (inn := k_in E fs.length) (res := res) (v := v) (b := b) (σ := σ) (s := (mg_A (mg_I s 141 9 (nI (c + rd))) 162 fs.length (nI (n + 1)))) hX3 h563 hte hS hrS hSte hb32 hb1 hb2 (h15 (Or.inr rfl)).1 (fun z => htg (by omega) z) hsg3 hok; rw [hX, hx] at h; exact h) ?_
      rintro _ s4 ⟨rfl, hm4, hp4⟩
      have e23 : s4.1 141 23 = nI (fs.length + 1) := (hp4.2.1 (by decide)).trans h23
      refine wg_istore (d136_143 L xs) (ls' := [some (.ref 141), some (.int (nI fs.length)), some (.int (nI r)), some (.int (nI (c + p))), some (.int (nI (c + te))), some (.int (nI k5)), some (.int (nI (c + st))), some (.int 5), some (.int 0)]) (Nat.le_of_ble_eq_true rfl) rfl ?_
      refine wg_iload (d136_145 L xs) rfl ?_
      refine wg_iconst (d136_147 L xs) (x := 1) (by decide) ?_
      refine wg_icmp_ne (d136_148 L xs) (t := 182) (by decide) (fun _ => ?_) (fun hn => absurd (by decide) hn)
      refine wg_iload (d136_182 L xs) rfl ?_
      refine wg_if_eq (d136_184 L xs) (t := 188) (by decide) (fun _ => ?_) (fun hn => absurd (by decide) hn)
      refine wg_goto (d136_188 L xs) (t := 14) (by decide) ?_
      have hm04 := m3.trans (hm4.more (F' := kF) (A' := kA) (by decide) (by decide))
      unfold k_aft
      rw [if_neg (by omega), if_pos hx]
      exact wp_mono (kk s4 X.2 _ _ _ _ _ _ hm04 (isStk_m hst3 hm4 (by decide)) hp4.1 hok4 hmo e23 (isE_of hE hm04 (fun _ q => q) (fun _ q => q)) ((congrFun (hm4.2.2.1 156 (by decide)) _).trans h563) (isRec_of hR3 (hm4.2.2.1 144 (by decide)) (hm4.2.2.1 145 (by decide)) (hm4.2.2.1 146 (by decide)))) (fun rv s' h => ⟨h.1, hm04.trans h.2.1, kOut_le h.2.2 (by omega)⟩)
    · have hok4 : okS X.2 := okR_S hoR (by omega)
      refine wg_aload_n (d136_109 L xs) rfl ?_
      refine wg_iload_n (d136_110 L xs) rfl ?_
      refine wg_iload (d136_111 L xs) rfl ?_
      refine wg_iload (d136_113 L xs) rfl ?_
      refine wg_invv (d136_115 L xs) (kd := 7) (mj := 134) (n := 3) rfl (Or.inl rfl) (ys := [.int (nI (c + te)), .int (nI (c + st)), .int (nI r)]) (r := []) rfl rfl (by decide) rfl rfl (Nat.le_of_ble_eq_true rfl) (by have h := md_mech (L := L) (xs := xs) (d := d + 6) hR hte hst0; rw [hm] at h; exact h) ?_
      rintro _ _ ⟨rfl, rfl⟩
      refine wg_istore (d136_118 L xs) (ls' := [some (.ref 141), some (.int (nI fs.length)), some (.int (nI r)), some (.int (nI (c + p))), some (.int (nI (c + te))), some (.int (nI k5)), some (.int (nI (c + st))), some (.int 5), c8]) (Nat.le_of_ble_eq_true rfl) rfl ?_
      refine wg_aload_n (d136_120 L xs) rfl ?_
      refine wg_get (d136_121 L xs) (kd := 1) (cj := 9) (k0 := 32) rfl (Or.inl rfl) (by decide) rfl rfl ?_
      refine wg_iload_n (d136_124 L xs) rfl ?_
      refine wg_dup2 (d136_125 L xs) rfl rfl ?_
      refine wg_iald (d136_126 L xs) (n := 13) (by decide) rfl (vp_in_nI (n := fs.length) (by omega) (by omega)) ?_
      refine wg_top (y := (nI n)) (by rw [nI_nat (n := fs.length) (by omega)]; exact h62) ?_
      refine wg_iconst (d136_127 L xs) (x := 1) (by decide) ?_
      refine wg_iadd (d136_128 L xs) ?_
      refine wg_top (y := (nI (n + 1))) (nI_add n 1) ?_
      refine wg_iast (d136_129 L xs) (n := 13) (by decide) rfl (vp_in_nI (n := fs.length) (by omega) (by omega)) rfl ?_
      rw [nI_nat (n := fs.length) (by omega)]
      refine wg_aload_n (d136_130 L xs) rfl ?_
      refine wg_iload_n (d136_131 L xs) rfl ?_
      refine wg_iload (d136_132 L xs) rfl ?_
      refine wg_aload_n (d136_134 L xs) rfl ?_
      refine wg_get (d136_135 L xs) (kd := 1) (cj := 9) (k0 := 9) rfl (Or.inl rfl) (by decide) rfl rfl ?_
      refine wg_top (y := (nI (c + rd))) rfl ?_
      refine wg_iload (d136_138 L xs) rfl ?_
      refine wg_invv (d136_140 L xs) (kd := 7) (mj := 138) (n := 4) rfl (Or.inl rfl) (ys := [.int (nI (c + te)), .int (nI (c + rd)), .int 5, .int (nI fs.length)]) (r := []) rfl rfl (by decide) rfl rfl (Nat.le_of_ble_eq_true rfl) (by have h := md_does5 (L := L) (xs := xs) (d := d) (inn := k_in E fs.length) (res := res) (v := v) (b := b) (σ := σ) (s := (mg_A (mg_I s 141 9 (nI (c + rd))) 162 fs.length (nI (n + 1)))) hX3 h563 hte hS hrS hSte hb32 hb1 hb2 (h15 (Or.inr rfl)).1 (fun z => htg (by omega) z) hsg3 hok; rw [hX, hx] at h; exact h) ?_
      rintro _ s4 ⟨rfl, hm4, hp4⟩
      have e23 : s4.1 141 23 = nI (fs.length + 1) := (hp4.2.1 (by decide)).trans h23
      refine wg_istore (d136_143 L xs) (ls' := [some (.ref 141), some (.int (nI fs.length)), some (.int (nI r)), some (.int (nI (c + p))), some (.int (nI (c + te))), some (.int (nI k5)), some (.int (nI (c + st))), some (.int 5), some (.int 1)]) (Nat.le_of_ble_eq_true rfl) rfl ?_
      refine wg_iload (d136_145 L xs) rfl ?_
      refine wg_iconst (d136_147 L xs) (x := 1) (by decide) ?_
      refine wg_icmp_ne (d136_148 L xs) (t := 182) (by decide) (fun hp => absurd hp (by decide)) (fun _ => ?_)
      have hst4 := isStk_m hst3 hm4 (by decide)
      have e62 : s4.2.1 162 fs.length = nI (n + 1) := hst4.1.2.2.2.1
      have e33 : s4.1 141 33 = nI res := (hm4.2.1 33 (by decide)).trans h33
      have hm04 := m3.trans (hm4.more (F' := kF) (A' := kA) (by decide) (by decide))
      unfold k_aft
      rw [if_pos hx]
      by_cases hf0 : fs.length = 0
      · have hsg5 : isSg (mg_I s4 141 39 (nI n)) (st_mt X.2 fs.length n) := by rw [st_mt_z hf0]; exact isSg_mt hp4.1 _
        refine wg_aload_n (d136_151 L xs) rfl ?_
        refine wg_iload_n (d136_152 L xs) rfl ?_
        refine wn_if_ne (d136_153 L xs) (x := fs.length) (by omega) (t := 167) (by decide) (fun h41 => by omega) (fun h41 => ?_)
        refine wg_aload_n (d136_156 L xs) rfl ?_
        refine wg_get (d136_157 L xs) (kd := 1) (cj := 9) (k0 := 32) rfl (Or.inl rfl) (by decide) rfl rfl ?_
        refine wg_iconst (d136_160 L xs) (x := 0) (by decide) ?_
        refine wg_iald (d136_161 L xs) (n := 13) (by decide) rfl (vp_in_nI (n := 0) (by omega) (by omega)) ?_
        refine wg_top (y := (nI (n + 1))) (by have := e62; rw [show fs.length = 0 by omega] at this; exact this) ?_
        refine wg_iconst (d136_162 L xs) (x := 1) (by decide) ?_
        refine wg_isub (d136_163 L xs) ?_
        refine wg_top (y := (nI n)) (pk_sub (a := n + 1) (b := 1) (by omega)) ?_
        refine wg_goto (d136_164 L xs) (t := 171) (by decide) ?_
        refine wg_puti (d136_171 L xs) (cj := 9) (k0 := 39) rfl (by decide) rfl (Nat.le_of_ble_eq_true rfl) rfl rfl rfl ?_
        refine wg_aload_n (d136_174 L xs) rfl ?_
        refine wg_aload_n (d136_175 L xs) rfl ?_
        refine wg_get (d136_176 L xs) (kd := 1) (cj := 9) (k0 := 33) rfl (Or.inl rfl) (by decide) rfl rfl ?_
        refine wg_top (y := (nI res)) e33 ?_
        refine wg_invv (d136_179 L xs) (kd := 7) (mj := 118) (n := 1) rfl (Or.inl rfl) (ys := [.int (nI res)]) (r := []) rfl rfl (by decide) rfl rfl (Nat.le_of_ble_eq_true rfl) (md_comes (E := E) (fs := fs) (how := how) (sg := sg) (x := res) (σ := st_mt X.2 fs.length n) (s := (mg_I s4 141 39 (nI n))) e23 hst4.1.1 hst4.1.2.1 hst.2.1.1 hst.2.1.2.1 hst.2.1.2.2.1 hst.2.1.2.2.2.1 hst.2.2.1 (isStk_I hst4.2.2.2) hsg5 (okS_mt hok4) hres4 (Nat.le_trans hdp hmo)) ?_
        rintro _ s6 ⟨rfl, hm6, hko⟩
        refine wg_iload (d136_182 L xs) rfl ?_
        refine wg_if_eq (d136_184 L xs) (t := 188) (by decide) (fun hp => absurd hp (by decide)) (fun _ => ?_)
        exact wg_vret (d136_187 L xs) rfl ⟨rfl, (hm04.trans (mfr_I s4 (by decide))).trans (hm6.more (by decide) (by decide)), kOut_le hko (by show 2 * (10 - X.2.1) + fs.length ≤ _; omega)⟩
      · have hsg5 : isSg (mg_I s4 141 39 (s4.1 141 39)) (st_mt X.2 fs.length n) := by rw [st_mt_ne hf0]; exact ⟨hp4.1.1, hp4.1.2.1, hp4.1.2.2.1, hp4.1.2.2.2.1, hp4.1.2.2.2.2.1, hp4.1.2.2.2.2.2⟩
        refine wg_aload_n (d136_151 L xs) rfl ?_
        refine wg_iload_n (d136_152 L xs) rfl ?_
        refine wn_if_ne (d136_153 L xs) (x := fs.length) (by omega) (t := 167) (by decide) (fun h41 => ?_) (fun h41 => by omega)
        refine wg_aload_n (d136_167 L xs) rfl ?_
        refine wg_get (d136_168 L xs) (kd := 1) (cj := 9) (k0 := 39) rfl (Or.inl rfl) (by decide) rfl rfl ?_
        refine wg_puti (d136_171 L xs) (cj := 9) (k0 := 39) rfl (by decide) rfl (Nat.le_of_ble_eq_true rfl) rfl rfl rfl ?_
        refine wg_aload_n (d136_174 L xs) rfl ?_
        refine wg_aload_n (d136_175 L xs) rfl ?_
        refine wg_get (d136_176 L xs) (kd := 1) (cj := 9) (k0 := 33) rfl (Or.inl rfl) (by decide) rfl rfl ?_
        refine wg_top (y := (nI res)) e33 ?_
        refine wg_invv (d136_179 L xs) (kd := 7) (mj := 118) (n := 1) rfl (Or.inl rfl) (ys := [.int (nI res)]) (r := []) rfl rfl (by decide) rfl rfl (Nat.le_of_ble_eq_true rfl) (md_comes (E := E) (fs := fs) (how := how) (sg := sg) (x := res) (σ := st_mt X.2 fs.length n) (s := (mg_I s4 141 39 (s4.1 141 39))) e23 hst4.1.1 hst4.1.2.1 hst.2.1.1 hst.2.1.2.1 hst.2.1.2.2.1 hst.2.1.2.2.2.1 hst.2.2.1 (isStk_I hst4.2.2.2) hsg5 (okS_mt hok4) hres4 (Nat.le_trans hdp hmo)) ?_
        rintro _ s6 ⟨rfl, hm6, hko⟩
        refine wg_iload (d136_182 L xs) rfl ?_
        refine wg_if_eq (d136_184 L xs) (t := 188) (by decide) (fun hp => absurd hp (by decide)) (fun _ => ?_)
        exact wg_vret (d136_187 L xs) rfl ⟨rfl, (hm04.trans (mfr_I s4 (by decide))).trans (hm6.more (by decide) (by decide)), kOut_le hko (by show 2 * (10 - X.2.1) + fs.length ≤ _; omega)⟩
    · refine wg_aload_n (d136_109 L xs) rfl ?_
      refine wg_iload_n (d136_110 L xs) rfl ?_
      refine wg_iload (d136_111 L xs) rfl ?_
      refine wg_iload (d136_113 L xs) rfl ?_
      refine wg_invv (d136_115 L xs) (kd := 7) (mj := 134) (n := 3) rfl (Or.inl rfl) (ys := [.int (nI (c + te)), .int (nI (c + st)), .int (nI r)]) (r := []) rfl rfl (by decide) rfl rfl (Nat.le_of_ble_eq_true rfl) (by have h := md_mech (L := L) (xs := xs) (d := d + 6) hR hte hst0; rw [hm] at h; exact h) ?_
      rintro _ _ ⟨rfl, rfl⟩
      refine wg_istore (d136_118 L xs) (ls' := [some (.ref 141), some (.int (nI fs.length)), some (.int (nI r)), some (.int (nI (c + p))), some (.int (nI (c + te))), some (.int (nI k5)), some (.int (nI (c + st))), some (.int 5), c8]) (Nat.le_of_ble_eq_true rfl) rfl ?_
      refine wg_aload_n (d136_120 L xs) rfl ?_
      refine wg_get (d136_121 L xs) (kd := 1) (cj := 9) (k0 := 32) rfl (Or.inl rfl) (by decide) rfl rfl ?_
      refine wg_iload_n (d136_124 L xs) rfl ?_
      refine wg_dup2 (d136_125 L xs) rfl rfl ?_
      refine wg_iald (d136_126 L xs) (n := 13) (by decide) rfl (vp_in_nI (n := fs.length) (by omega) (by omega)) ?_
      refine wg_top (y := (nI n)) (by rw [nI_nat (n := fs.length) (by omega)]; exact h62) ?_
      refine wg_iconst (d136_127 L xs) (x := 1) (by decide) ?_
      refine wg_iadd (d136_128 L xs) ?_
      refine wg_top (y := (nI (n + 1))) (nI_add n 1) ?_
      refine wg_iast (d136_129 L xs) (n := 13) (by decide) rfl (vp_in_nI (n := fs.length) (by omega) (by omega)) rfl ?_
      rw [nI_nat (n := fs.length) (by omega)]
      refine wg_aload_n (d136_130 L xs) rfl ?_
      refine wg_iload_n (d136_131 L xs) rfl ?_
      refine wg_iload (d136_132 L xs) rfl ?_
      refine wg_aload_n (d136_134 L xs) rfl ?_
      refine wg_get (d136_135 L xs) (kd := 1) (cj := 9) (k0 := 9) rfl (Or.inl rfl) (by decide) rfl rfl ?_
      refine wg_top (y := (nI (c + rd))) rfl ?_
      refine wg_iload (d136_138 L xs) rfl ?_
      refine wg_invv (d136_140 L xs) (kd := 7) (mj := 138) (n := 4) rfl (Or.inl rfl) (ys := [.int (nI (c + te)), .int (nI (c + rd)), .int 5, .int (nI fs.length)]) (r := []) rfl rfl (by decide) rfl rfl (Nat.le_of_ble_eq_true rfl) (by have h := md_does5 (L := L) (xs := xs) (d := d) (inn := k_in E fs.length) (res := res) (v := v) (b := b) (σ := σ) (s := (mg_A (mg_I s 141 9 (nI (c + rd))) 162 fs.length (nI (n + 1)))) hX3 h563 hte hS hrS hSte hb32 hb1 hb2 (h15 (Or.inr rfl)).1 (fun z => htg (by omega) z) hsg3 hok; rw [hX, xI_n (show ¬ X.1 = 0 by omega) (show ¬ X.1 = 1 by omega)] at h; exact h) ?_
      rintro _ s4 ⟨rfl, hm4, hp4⟩
      refine wg_istore (d136_143 L xs) (ls' := [some (.ref 141), some (.int (nI fs.length)), some (.int (nI r)), some (.int (nI (c + p))), some (.int (nI (c + te))), some (.int (nI k5)), some (.int (nI (c + st))), some (.int 5), some (.int (-1))]) (Nat.le_of_ble_eq_true rfl) rfl ?_
      refine wg_iload (d136_145 L xs) rfl ?_
      refine wg_iconst (d136_147 L xs) (x := 1) (by decide) ?_
      refine wg_icmp_ne (d136_148 L xs) (t := 182) (by decide) (fun _ => ?_) (fun hn => absurd (by decide) hn)
      refine wg_iload (d136_182 L xs) rfl ?_
      refine wg_if_eq (d136_184 L xs) (t := 188) (by decide) (fun hp => absurd hp (by decide)) (fun _ => ?_)
      exact wg_vret (d136_187 L xs) rfl ⟨rfl, m3.trans (hm4.more (by decide) (by decide)), by unfold k_aft; rw [if_neg (by omega), if_neg (by omega), k_ret_err hx]; exact Or.inl ⟨(hp4.2.2 hx).1, (hp4.2.2 hx).2, hp4.1⟩⟩
end KT
