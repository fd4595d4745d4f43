/-! the reference: checks that wait for others, and what becomes of them -/
theorem d118_0 (L : Nat) (xs : Nat → Int32) : decode (ax_code (mgT L xs) 118) 0 = .ok (.iload_n 1, 1) := by
  show decode prog_11_method_37_code 0 = _
  decide +kernel
theorem d118_1 (L : Nat) (xs : Nat → Int32) : decode (ax_code (mgT L xs) 118) 1 = .ok (.istore_n 2, 1) := by
  show decode prog_11_method_37_code 1 = _
  decide +kernel
theorem d118_2 (L : Nat) (xs : Nat → Int32) : decode (ax_code (mgT L xs) 118) 2 = .ok (.iconst 1, 1) := by
  show decode prog_11_method_37_code 2 = _
  decide +kernel
theorem d118_3 (L : Nat) (xs : Nat → Int32) : decode (ax_code (mgT L xs) 118) 3 = .ok (.istore_n 3, 1) := by
  show decode prog_11_method_37_code 3 = _
  decide +kernel
theorem d118_4 (L : Nat) (xs : Nat → Int32) : decode (ax_code (mgT L xs) 118) 4 = .ok (.iload_n 3, 1) := by
  show decode prog_11_method_37_code 4 = _
  decide +kernel
theorem d118_5 (L : Nat) (xs : Nat → Int32) : decode (ax_code (mgT L xs) 118) 5 = .ok (.ifCond .eq 117, 3) := by
  show decode prog_11_method_37_code 5 = _
  decide +kernel
theorem d118_8 (L : Nat) (xs : Nat → Int32) : decode (ax_code (mgT L xs) 118) 8 = .ok (.aload_n 0, 1) := by
  show decode prog_11_method_37_code 8 = _
  decide +kernel
theorem d118_9 (L : Nat) (xs : Nat → Int32) : decode (ax_code (mgT L xs) 118) 9 = .ok (.getfield 140, 3) := by
  show decode prog_11_method_37_code 9 = _
  decide +kernel
theorem d118_12 (L : Nat) (xs : Nat → Int32) : decode (ax_code (mgT L xs) 118) 12 = .ok (.ifCond .le 110, 3) := by
  show decode prog_11_method_37_code 12 = _
  decide +kernel
theorem d118_15 (L : Nat) (xs : Nat → Int32) : decode (ax_code (mgT L xs) 118) 15 = .ok (.aload_n 0, 1) := by
  show decode prog_11_method_37_code 15 = _
  decide +kernel
theorem d118_16 (L : Nat) (xs : Nat → Int32) : decode (ax_code (mgT L xs) 118) 16 = .ok (.dup, 1) := by
  show decode prog_11_method_37_code 16 = _
  decide +kernel
theorem d118_17 (L : Nat) (xs : Nat → Int32) : decode (ax_code (mgT L xs) 118) 17 = .ok (.getfield 140, 3) := by
  show decode prog_11_method_37_code 17 = _
  decide +kernel
theorem d118_20 (L : Nat) (xs : Nat → Int32) : decode (ax_code (mgT L xs) 118) 20 = .ok (.iconst 1, 1) := by
  show decode prog_11_method_37_code 20 = _
  decide +kernel
theorem d118_21 (L : Nat) (xs : Nat → Int32) : decode (ax_code (mgT L xs) 118) 21 = .ok (.isub, 1) := by
  show decode prog_11_method_37_code 21 = _
  decide +kernel
theorem d118_22 (L : Nat) (xs : Nat → Int32) : decode (ax_code (mgT L xs) 118) 22 = .ok (.putfield 140, 3) := by
  show decode prog_11_method_37_code 22 = _
  decide +kernel
theorem d118_25 (L : Nat) (xs : Nat → Int32) : decode (ax_code (mgT L xs) 118) 25 = .ok (.aload_n 0, 1) := by
  show decode prog_11_method_37_code 25 = _
  decide +kernel
theorem d118_26 (L : Nat) (xs : Nat → Int32) : decode (ax_code (mgT L xs) 118) 26 = .ok (.getfield 64, 3) := by
  show decode prog_11_method_37_code 26 = _
  decide +kernel
theorem d118_29 (L : Nat) (xs : Nat → Int32) : decode (ax_code (mgT L xs) 118) 29 = .ok (.aload_n 0, 1) := by
  show decode prog_11_method_37_code 29 = _
  decide +kernel
theorem d118_30 (L : Nat) (xs : Nat → Int32) : decode (ax_code (mgT L xs) 118) 30 = .ok (.getfield 140, 3) := by
  show decode prog_11_method_37_code 30 = _
  decide +kernel
theorem d118_33 (L : Nat) (xs : Nat → Int32) : decode (ax_code (mgT L xs) 118) 33 = .ok (.iaload, 1) := by
  show decode prog_11_method_37_code 33 = _
  decide +kernel
theorem d118_34 (L : Nat) (xs : Nat → Int32) : decode (ax_code (mgT L xs) 118) 34 = .ok (.istore 4, 2) := by
  show decode prog_11_method_37_code 34 = _
  decide +kernel
theorem d118_36 (L : Nat) (xs : Nat → Int32) : decode (ax_code (mgT L xs) 118) 36 = .ok (.iconst 0, 1) := by
  show decode prog_11_method_37_code 36 = _
  decide +kernel
theorem d118_37 (L : Nat) (xs : Nat → Int32) : decode (ax_code (mgT L xs) 118) 37 = .ok (.istore_n 3, 1) := by
  show decode prog_11_method_37_code 37 = _
  decide +kernel
theorem d118_38 (L : Nat) (xs : Nat → Int32) : decode (ax_code (mgT L xs) 118) 38 = .ok (.iload 4, 2) := by
  show decode prog_11_method_37_code 38 = _
  decide +kernel
theorem d118_40 (L : Nat) (xs : Nat → Int32) : decode (ax_code (mgT L xs) 118) 40 = .ok (.ifCond .ne 11, 3) := by
  show decode prog_11_method_37_code 40 = _
  decide +kernel
theorem d118_43 (L : Nat) (xs : Nat → Int32) : decode (ax_code (mgT L xs) 118) 43 = .ok (.aload_n 0, 1) := by
  show decode prog_11_method_37_code 43 = _
  decide +kernel
theorem d118_44 (L : Nat) (xs : Nat → Int32) : decode (ax_code (mgT L xs) 118) 44 = .ok (.iload_n 2, 1) := by
  show decode prog_11_method_37_code 44 = _
  decide +kernel
theorem d118_45 (L : Nat) (xs : Nat → Int32) : decode (ax_code (mgT L xs) 118) 45 = .ok (.invokevirtual 215, 3) := by
  show decode prog_11_method_37_code 45 = _
  decide +kernel
theorem d118_48 (L : Nat) (xs : Nat → Int32) : decode (ax_code (mgT L xs) 118) 48 = .ok (.goto 71, 3) := by
  show decode prog_11_method_37_code 48 = _
  decide +kernel
theorem d118_51 (L : Nat) (xs : Nat → Int32) : decode (ax_code (mgT L xs) 118) 51 = .ok (.iload_n 2, 1) := by
  show decode prog_11_method_37_code 51 = _
  decide +kernel
theorem d118_52 (L : Nat) (xs : Nat → Int32) : decode (ax_code (mgT L xs) 118) 52 = .ok (.ifCond .ne 12, 3) := by
  show decode prog_11_method_37_code 52 = _
  decide +kernel
theorem d118_55 (L : Nat) (xs : Nat → Int32) : decode (ax_code (mgT L xs) 118) 55 = .ok (.aload_n 0, 1) := by
  show decode prog_11_method_37_code 55 = _
  decide +kernel
theorem d118_56 (L : Nat) (xs : Nat → Int32) : decode (ax_code (mgT L xs) 118) 56 = .ok (.bipush 6, 2) := by
  show decode prog_11_method_37_code 56 = _
  decide +kernel
theorem d118_58 (L : Nat) (xs : Nat → Int32) : decode (ax_code (mgT L xs) 118) 58 = .ok (.invokevirtual 215, 3) := by
  show decode prog_11_method_37_code 58 = _
  decide +kernel
theorem d118_61 (L : Nat) (xs : Nat → Int32) : decode (ax_code (mgT L xs) 118) 61 = .ok (.goto 58, 3) := by
  show decode prog_11_method_37_code 61 = _
  decide +kernel
theorem d118_64 (L : Nat) (xs : Nat → Int32) : decode (ax_code (mgT L xs) 118) 64 = .ok (.iload 4, 2) := by
  show decode prog_11_method_37_code 64 = _
  decide +kernel
theorem d118_66 (L : Nat) (xs : Nat → Int32) : decode (ax_code (mgT L xs) 118) 66 = .ok (.iconst 2, 1) := by
  show decode prog_11_method_37_code 66 = _
  decide +kernel
theorem d118_67 (L : Nat) (xs : Nat → Int32) : decode (ax_code (mgT L xs) 118) 67 = .ok (.if_icmp .ne 8, 3) := by
  show decode prog_11_method_37_code 67 = _
  decide +kernel
theorem d118_70 (L : Nat) (xs : Nat → Int32) : decode (ax_code (mgT L xs) 118) 70 = .ok (.iconst 1, 1) := by
  show decode prog_11_method_37_code 70 = _
  decide +kernel
theorem d118_71 (L : Nat) (xs : Nat → Int32) : decode (ax_code (mgT L xs) 118) 71 = .ok (.istore_n 3, 1) := by
  show decode prog_11_method_37_code 71 = _
  decide +kernel
theorem d118_72 (L : Nat) (xs : Nat → Int32) : decode (ax_code (mgT L xs) 118) 72 = .ok (.goto 47, 3) := by
  show decode prog_11_method_37_code 72 = _
  decide +kernel
theorem d118_75 (L : Nat) (xs : Nat → Int32) : decode (ax_code (mgT L xs) 118) 75 = .ok (.iload_n 2, 1) := by
  show decode prog_11_method_37_code 75 = _
  decide +kernel
theorem d118_76 (L : Nat) (xs : Nat → Int32) : decode (ax_code (mgT L xs) 118) 76 = .ok (.iconst 2, 1) := by
  show decode prog_11_method_37_code 76 = _
  decide +kernel
theorem d118_77 (L : Nat) (xs : Nat → Int32) : decode (ax_code (mgT L xs) 118) 77 = .ok (.if_icmp .ne 42, 3) := by
  show decode prog_11_method_37_code 77 = _
  decide +kernel
theorem d118_80 (L : Nat) (xs : Nat → Int32) : decode (ax_code (mgT L xs) 118) 80 = .ok (.aload_n 0, 1) := by
  show decode prog_11_method_37_code 80 = _
  decide +kernel
theorem d118_81 (L : Nat) (xs : Nat → Int32) : decode (ax_code (mgT L xs) 118) 81 = .ok (.getfield 67, 3) := by
  show decode prog_11_method_37_code 81 = _
  decide +kernel
theorem d118_84 (L : Nat) (xs : Nat → Int32) : decode (ax_code (mgT L xs) 118) 84 = .ok (.aload_n 0, 1) := by
  show decode prog_11_method_37_code 84 = _
  decide +kernel
theorem d118_85 (L : Nat) (xs : Nat → Int32) : decode (ax_code (mgT L xs) 118) 85 = .ok (.getfield 140, 3) := by
  show decode prog_11_method_37_code 85 = _
  decide +kernel
theorem d118_88 (L : Nat) (xs : Nat → Int32) : decode (ax_code (mgT L xs) 118) 88 = .ok (.iaload, 1) := by
  show decode prog_11_method_37_code 88 = _
  decide +kernel
theorem d118_89 (L : Nat) (xs : Nat → Int32) : decode (ax_code (mgT L xs) 118) 89 = .ok (.istore_n 2, 1) := by
  show decode prog_11_method_37_code 89 = _
  decide +kernel
theorem d118_90 (L : Nat) (xs : Nat → Int32) : decode (ax_code (mgT L xs) 118) 90 = .ok (.aload_n 0, 1) := by
  show decode prog_11_method_37_code 90 = _
  decide +kernel
theorem d118_91 (L : Nat) (xs : Nat → Int32) : decode (ax_code (mgT L xs) 118) 91 = .ok (.aload_n 0, 1) := by
  show decode prog_11_method_37_code 91 = _
  decide +kernel
theorem d118_92 (L : Nat) (xs : Nat → Int32) : decode (ax_code (mgT L xs) 118) 92 = .ok (.getfield 140, 3) := by
  show decode prog_11_method_37_code 92 = _
  decide +kernel
theorem d118_95 (L : Nat) (xs : Nat → Int32) : decode (ax_code (mgT L xs) 118) 95 = .ok (.iconst 1, 1) := by
  show decode prog_11_method_37_code 95 = _
  decide +kernel
theorem d118_96 (L : Nat) (xs : Nat → Int32) : decode (ax_code (mgT L xs) 118) 96 = .ok (.if_icmp .ne 14, 3) := by
  show decode prog_11_method_37_code 96 = _
  decide +kernel
theorem d118_99 (L : Nat) (xs : Nat → Int32) : decode (ax_code (mgT L xs) 118) 99 = .ok (.aload_n 0, 1) := by
  show decode prog_11_method_37_code 99 = _
  decide +kernel
theorem d118_100 (L : Nat) (xs : Nat → Int32) : decode (ax_code (mgT L xs) 118) 100 = .ok (.getfield 70, 3) := by
  show decode prog_11_method_37_code 100 = _
  decide +kernel
theorem d118_103 (L : Nat) (xs : Nat → Int32) : decode (ax_code (mgT L xs) 118) 103 = .ok (.iconst 0, 1) := by
  show decode prog_11_method_37_code 103 = _
  decide +kernel
theorem d118_104 (L : Nat) (xs : Nat → Int32) : decode (ax_code (mgT L xs) 118) 104 = .ok (.iaload, 1) := by
  show decode prog_11_method_37_code 104 = _
  decide +kernel
theorem d118_105 (L : Nat) (xs : Nat → Int32) : decode (ax_code (mgT L xs) 118) 105 = .ok (.iconst 1, 1) := by
  show decode prog_11_method_37_code 105 = _
  decide +kernel
theorem d118_106 (L : Nat) (xs : Nat → Int32) : decode (ax_code (mgT L xs) 118) 106 = .ok (.isub, 1) := by
  show decode prog_11_method_37_code 106 = _
  decide +kernel
theorem d118_107 (L : Nat) (xs : Nat → Int32) : decode (ax_code (mgT L xs) 118) 107 = .ok (.goto 7, 3) := by
  show decode prog_11_method_37_code 107 = _
  decide +kernel
theorem d118_110 (L : Nat) (xs : Nat → Int32) : decode (ax_code (mgT L xs) 118) 110 = .ok (.aload_n 0, 1) := by
  show decode prog_11_method_37_code 110 = _
  decide +kernel
theorem d118_111 (L : Nat) (xs : Nat → Int32) : decode (ax_code (mgT L xs) 118) 111 = .ok (.getfield 224, 3) := by
  show decode prog_11_method_37_code 111 = _
  decide +kernel
theorem d118_114 (L : Nat) (xs : Nat → Int32) : decode (ax_code (mgT L xs) 118) 114 = .ok (.putfield 224, 3) := by
  show decode prog_11_method_37_code 114 = _
  decide +kernel
theorem d118_117 (L : Nat) (xs : Nat → Int32) : decode (ax_code (mgT L xs) 118) 117 = .ok (.iconst 1, 1) := by
  show decode prog_11_method_37_code 117 = _
  decide +kernel
theorem d118_118 (L : Nat) (xs : Nat → Int32) : decode (ax_code (mgT L xs) 118) 118 = .ok (.istore_n 3, 1) := by
  show decode prog_11_method_37_code 118 = _
  decide +kernel
theorem d118_119 (L : Nat) (xs : Nat → Int32) : decode (ax_code (mgT L xs) 118) 119 = .ok (.goto (-115), 3) := by
  show decode prog_11_method_37_code 119 = _
  decide +kernel
theorem d118_122 (L : Nat) (xs : Nat → Int32) : decode (ax_code (mgT L xs) 118) 122 = .ok (.return_, 1) := by
  show decode prog_11_method_37_code 122 = _
  decide +kernel
theorem d119_0 (L : Nat) (xs : Nat → Int32) : decode (ax_code (mgT L xs) 119) 0 = .ok (.aload_n 0, 1) := by
  show decode prog_11_method_33_code 0 = _
  decide +kernel
theorem d119_1 (L : Nat) (xs : Nat → Int32) : decode (ax_code (mgT L xs) 119) 1 = .ok (.iload_n 1, 1) := by
  show decode prog_11_method_33_code 1 = _
  decide +kernel
theorem d119_2 (L : Nat) (xs : Nat → Int32) : decode (ax_code (mgT L xs) 119) 2 = .ok (.putfield 200, 3) := by
  show decode prog_11_method_33_code 2 = _
  decide +kernel
theorem d119_5 (L : Nat) (xs : Nat → Int32) : decode (ax_code (mgT L xs) 119) 5 = .ok (.aload_n 0, 1) := by
  show decode prog_11_method_33_code 5 = _
  decide +kernel
theorem d119_6 (L : Nat) (xs : Nat → Int32) : decode (ax_code (mgT L xs) 119) 6 = .ok (.iconst 0, 1) := by
  show decode prog_11_method_33_code 6 = _
  decide +kernel
theorem d119_7 (L : Nat) (xs : Nat → Int32) : decode (ax_code (mgT L xs) 119) 7 = .ok (.putfield 140, 3) := by
  show decode prog_11_method_33_code 7 = _
  decide +kernel
theorem d119_10 (L : Nat) (xs : Nat → Int32) : decode (ax_code (mgT L xs) 119) 10 = .ok (.return_, 1) := by
  show decode prog_11_method_33_code 10 = _
  decide +kernel
/-- a check that waits: how it was begun, the sign of the include, its domain, its record's data, the place, mechanisms met, the redirection -/
abbrev frT : Type := Nat × Nat × List Nat × List Nat × Nat × Nat × Nat × Nat
abbrev fr_how (f : frT) : Nat := f.1
abbrev fr_sg (f : frT) : Nat := f.2.1
abbrev fr_dom (f : frT) : List Nat := f.2.2.1
abbrev fr_D (f : frT) : List Nat := f.2.2.2.1
abbrev fr_p (f : frT) : Nat := f.2.2.2.2.1
abbrev fr_n (f : frT) : Nat := f.2.2.2.2.2.1
abbrev fr_o (f : frT) : Nat × Nat := f.2.2.2.2.2.2
def k_in (E : ckE) (dep : Nat) : List Nat → ckS → Nat × ckS := match 10 - dep with
  | 0 => x_six
  | n + 1 => x_in (x_ev E n (dep + 1))
theorem k_ev {E : ckE} {dep : Nat} {dom : List Nat} {σ : ckS} (h : dep ≤ 10) : x_ev E (10 - dep) dep dom σ = x_e1 E (k_in E dep) dep dom (st_ck σ) := by
  unfold k_in
  cases hq : 10 - dep with
  | zero => rfl
  | succ n => rfl
theorem k_in_lt {E : ckE} {dep : Nat} (h : dep < 10) : k_in E dep = x_in (x_ev E (10 - (dep + 1)) (dep + 1)) := by
  unfold k_in
  rw [show 10 - dep = (10 - (dep + 1)) + 1 by omega]
def k_fr (E : ckE) (dep : Nat) (f : frT) (σ : ckS) : Nat × ckS := x_tm E (k_in E dep) dep (fr_D f) (fr_dom f) (fr_o f) (fr_D f).length (fr_p f) (fr_n f) σ
/-- what a check answers, whose own answer is r and under which the checks gs wait -/
def k_ret (E : ckE) : List frT → Nat → Nat → Nat × ckS → Nat × ckS
  | [], _, _, r => r
  | g :: gs, how, sg, r => if 5 ≤ r.1 then r else if r.1 = 0 then (6, r.2) else if how = 2 then k_ret E gs g.1 g.2.1 r else if r.1 = 2 then k_ret E gs g.1 g.2.1 (sg, st_mt r.2 gs.length (fr_n g - 1)) else k_ret E gs g.1 g.2.1 (k_fr E gs.length g r.2)
theorem k_ret_err {E : ckE} {gs : List frT} {how sg : Nat} {r : Nat × ckS} (h : 5 ≤ r.1) : k_ret E gs how sg r = r := by
  cases gs with
  | nil => rfl
  | cons g gs => rw [k_ret, if_pos h]
def okf (f : frT) (dep : Nat) : Prop := f.1 ≤ 2 ∧ (f.1 = 0 ↔ dep = 0) ∧ (f.1 = 1 → 1 ≤ f.2.1) ∧ f.2.1 ≤ 4 ∧ t_name (gl (fr_dom f)) 0 (fr_dom f).length = true ∧ okc (fr_dom f) ∧ fr_p f ≤ (fr_D f).length + 1 ∧ (∃ cnt, f_al (fr_D f) ((fr_D f).length + 1 - fr_p f) (fr_p f) (fr_p f) cnt = true) ∧ ((fr_o f).1 < (fr_o f).2 → (fr_o f).2 ≤ (fr_D f).length ∧ t_tgt (gl (fr_D f)) (fr_o f).1 (fr_o f).2 = true)
def isFr (s : mg_s) (k : Nat) (f : frT) : Prop := s.2.1 160 k = nI f.1 ∧ s.2.1 161 k = nI f.2.1 ∧ s.2.1 155 k = nI (fr_dom f).length ∧ s.2.1 162 k = nI (fr_n f) ∧ s.2.1 157 k = nI ((fr_dom f).length + 1 + fr_p f) ∧ s.2.1 158 k = rdI ((fr_dom f).length + 1) (fr_o f) ∧ ((fr_o f).1 < (fr_o f).2 → s.2.1 159 k = nI ((fr_dom f).length + 1 + (fr_o f).2)) ∧ (∀ i, i < (fr_dom f).length → s.2.1 154 (48 * k + i) = nI (gl (fr_dom f) i)) ∧ ∃ r, s.2.1 156 k = nI r ∧ isRec s r ((fr_dom f).length + 1) (fr_D f)
def isStk (s : mg_s) : List frT → Prop
  | [] => True
  | f :: fs => isFr s fs.length f ∧ okf f fs.length ∧ (f.1 = 1 → ∀ g gs, fs = g :: gs → 1 ≤ fr_n g) ∧ isStk s fs
theorem okf_dom {f : frT} {dep : Nat} (h : okf f dep) : 1 ≤ (fr_dom f).length ∧ (fr_dom f).length ≤ 48 := by
  have := t_name_len h.2.2.2.2.1
  omega
theorem isFr_of {s s' : mg_s} {k : Nat} {f : frT} (h : isFr s k f) (h1 : ∀ a, 155 ≤ a → a ≤ 162 → s'.2.1 a k = s.2.1 a k) (h2 : ∀ i, i < (fr_dom f).length → s'.2.1 154 (48 * k + i) = s.2.1 154 (48 * k + i)) (h3 : ∀ a, 144 ≤ a → a ≤ 146 → s'.2.1 a = s.2.1 a) : isFr s' k f := by
  obtain ⟨a1, a2, a3, a4, a5, a6, a7, a8, r, a9, a10⟩ := h
  refine ⟨?_, ?_, ?_, ?_, ?_, ?_, ?_, ?_, r, ?_, isRec_of a10 (h3 144 (by omega) (by omega)) (h3 145 (by omega) (by omega)) (h3 146 (by omega) (by omega))⟩
  · rw [h1 160 (by omega) (by omega)]; exact a1
  · rw [h1 161 (by omega) (by omega)]; exact a2
  · rw [h1 155 (by omega) (by omega)]; exact a3
  · rw [h1 162 (by omega) (by omega)]; exact a4
  · rw [h1 157 (by omega) (by omega)]; exact a5
  · rw [h1 158 (by omega) (by omega)]; exact a6
  · intro q; rw [h1 159 (by omega) (by omega)]; exact a7 q
  · intro i hi; rw [h2 i hi]; exact a8 i hi
  · rw [h1 156 (by omega) (by omega)]; exact a9
theorem isStk_of {s s' : mg_s} : ∀ (fs : List frT), isStk s fs → (∀ k a, k < fs.length → 155 ≤ a → a ≤ 162 → s'.2.1 a k = s.2.1 a k) → (∀ i, i < 48 * fs.length → s'.2.1 154 i = s.2.1 154 i) → (∀ a, 144 ≤ a → a ≤ 146 → s'.2.1 a = s.2.1 a) → isStk s' fs := by
  intro fs
  induction fs with
  | nil => intro _ _ _ _; trivial
  | cons f fs ih =>
    intro h h1 h2 h3
    have hd := okf_dom h.2.1
    refine ⟨isFr_of h.1 (fun a q1 q2 => h1 _ a (by show fs.length < fs.length + 1; omega) q1 q2) (fun i hi => h2 _ (by show _ < 48 * (fs.length + 1); omega)) h3, h.2.1, h.2.2.1, ih h.2.2.2 (fun k a q => h1 k a (by show k < fs.length + 1; omega)) (fun i hi => h2 i (by show _ < 48 * (fs.length + 1); omega)) h3⟩
/-- the fields and rows that a check writes -/
def kF : List Nat := [9, 10, 12, 14, 15, 17, 19, 22, 23, 33, 36, 37, 38, 39, 40]
def kA : List Nat := [148, 149, 150, 151, 152, 153, 154, 155, 156, 157, 158, 159, 160, 161, 162, 164]
def isE (s : mg_s) (E : ckE) : Prop := isTabM s E.1 ∧ s.1 141 35 = E.2.1 ∧ s.1 141 41 = nI E.2.2.2.length ∧ holdA s 163 0 E.2.2.2 ∧ t_name (gl E.2.2.2) 0 E.2.2.2.length = true ∧ E.2.2.1 = f_adr E.2.1
def isSg (s : mg_s) (σ : ckS) : Prop := s.1 141 37 = nI σ.1 ∧ s.1 141 38 = nI σ.2.1 ∧ s.1 141 39 = σ.2.2.1 ∧ s.1 141 40 = nI σ.2.2.2.1 ∧ (σ.2.2.2.2 = [] → s.1 141 14 = 0) ∧ (¬ σ.2.2.2.2 = [] → s.1 141 14 = 1 ∧ s.1 141 12 = nI σ.2.2.2.2.length ∧ holdA s 149 0 σ.2.2.2.2)
theorem isE_of {s s' : mg_s} {E : ckE} {F A : List Nat} (h : isE s E) (m : mfr s s' F A) (h1 : ∀ k ∈ F, k ∈ kF) (h2 : ∀ k ∈ A, k ∈ kA) : isE s' E := by
  have m' := m.more h1 h2
  exact ⟨m'.tab (by decide) (fun a q1 q2 => by intro q; have : a = 143 ∨ a = 144 ∨ a = 145 ∨ a = 146 ∨ a = 147 := by omega
                                               rcases this with e | e | e | e | e <;> (subst e; revert q; decide)) h.1, (m'.2.1 35 (by decide)).trans h.2.1, (m'.2.1 41 (by decide)).trans h.2.2.1, m'.hold (by decide) h.2.2.2.1, h.2.2.2.2.1, h.2.2.2.2.2⟩
theorem isSg_of {s s' : mg_s} {σ : ckS} {F A : List Nat} (h : isSg s σ) (m : mfr s s' F A) (h1 : ∀ k ∈ [12, 14, 37, 38, 39, 40], k ∉ F) (h2 : 149 ∉ A) : isSg s' σ := by
  refine ⟨(m.2.1 37 (h1 37 (by decide))).trans h.1, (m.2.1 38 (h1 38 (by decide))).trans h.2.1, (m.2.1 39 (h1 39 (by decide))).trans h.2.2.1, (m.2.1 40 (h1 40 (by decide))).trans h.2.2.2.1, fun q => (m.2.1 14 (h1 14 (by decide))).trans (h.2.2.2.2.1 q), fun q => ?_⟩
  obtain ⟨a, b, c⟩ := h.2.2.2.2.2 q
  exact ⟨(m.2.1 14 (h1 14 (by decide))).trans a, (m.2.1 12 (h1 12 (by decide))).trans b, m.hold h2 c⟩
/-- a check has ended with this answer, or goes on to it -/
def kOut (s : mg_s) (E : ckE) (fin : Nat × ckS) (μ : Nat) : Prop := (s.1 141 23 = 0 ∧ s.1 141 36 = nI fin.1 ∧ isSg s fin.2) ∨ ∃ f fs σ, s.1 141 23 = nI (fs.length + 1) ∧ isStk s (f :: fs) ∧ isSg s σ ∧ okS σ ∧ k_ret E fs f.1 f.2.1 (k_fr E fs.length f σ) = fin ∧ 2 * (10 - σ.1) + (fs.length + 1) ≤ μ ∧ fs.length ≤ σ.1
theorem k_ret_0 {E : ckE} {g : frT} {gs : List frT} {how sg : Nat} {σ : ckS} : k_ret E (g :: gs) how sg (0, σ) = (6, σ) := by rw [k_ret, if_neg (show ¬ 5 ≤ 0 by omega), if_pos rfl]
theorem k_ret_2 {E : ckE} {g : frT} {gs : List frT} {sg x : Nat} {σ : ckS} (h1 : ¬ x = 0) (h2 : x ≤ 4) : k_ret E (g :: gs) 2 sg (x, σ) = k_ret E gs g.1 g.2.1 (x, σ) := by rw [k_ret, if_neg (show ¬ 5 ≤ x by omega), if_neg h1, if_pos rfl]
theorem k_ret_p {E : ckE} {g : frT} {gs : List frT} {how sg : Nat} {σ : ckS} (h : ¬ how = 2) : k_ret E (g :: gs) how sg (2, σ) = k_ret E gs g.1 g.2.1 (sg, st_mt σ gs.length (fr_n g - 1)) := by rw [k_ret, if_neg (show ¬ 5 ≤ 2 by omega), if_neg (show ¬ (2 : Nat) = 0 by omega), if_neg h, if_pos rfl]
theorem k_ret_n {E : ckE} {g : frT} {gs : List frT} {how sg x : Nat} {σ : ckS} (h : ¬ how = 2) (h0 : ¬ x = 0) (h2 : ¬ x = 2) (h4 : x ≤ 4) : k_ret E (g :: gs) how sg (x, σ) = k_ret E gs g.1 g.2.1 (k_fr E gs.length g σ) := by rw [k_ret, if_neg (show ¬ 5 ≤ x by omega), if_neg h0, if_neg h, if_neg h2]
theorem isSg_mt {s : mg_s} {σ : ckS} (h : isSg s σ) (x : Int32) : isSg (mg_I s 141 39 x) (σ.1, σ.2.1, x, σ.2.2.2) := ⟨h.1, h.2.1, rfl, h.2.2.2.1, h.2.2.2.2.1, h.2.2.2.2.2⟩
theorem st_mt_ne {σ : ckS} {dep n : Nat} (h : ¬ dep = 0) : st_mt σ dep n = σ := by unfold st_mt; rw [if_neg h]
theorem st_mt_z {σ : ckS} {dep n : Nat} (h : dep = 0) : st_mt σ dep n = (σ.1, σ.2.1, nI n, σ.2.2.2) := by unfold st_mt; rw [if_pos h]
theorem isStk_I {s : mg_s} {a k : Nat} {x : Int32} {fs : List frT} (h : isStk s fs) : isStk (mg_I s a k x) fs := isStk_of fs h (fun _ _ _ _ _ => rfl) (fun _ _ => rfl) (fun _ _ _ => rfl)
theorem isSg_I {s : mg_s} {σ : ckS} {k : Nat} {x : Int32} (h : isSg s σ) (hk : k ∉ [12, 14, 37, 38, 39, 40]) : isSg (mg_I s 141 k x) σ := isSg_of h (mfr_I s (F := [k]) (A := []) (List.mem_singleton.mpr rfl)) (fun j hj q => hk ((List.mem_singleton.mp q) ▸ hj)) (by intro q; cases q)
section KC
variable {L : Nat} {xs : Nat → Int32} {d : Nat} {s : mg_s} {E : ckE}
theorem md_end {v : Int32} : ca L xs (d + 1) 119 [.ref 141, .int v] s (fun r s' => r = none ∧ mg_I (mg_I s 141 36 v) 141 23 0 = s') := by
  refine wg_call (Nat.le_of_ble_eq_true rfl) ?_
  show wp L xs d 119 0 [some (.ref 141), some (.int v)] [] s _
  refine wg_aload_n (d119_0 L xs) rfl ?_
  refine wg_iload_n (d119_1 L xs) rfl ?_
  refine wg_puti (d119_2 L xs) (cj := 9) (k0 := 36) rfl (by decide) rfl (Nat.le_of_ble_eq_true rfl) rfl rfl rfl ?_
  refine wg_aload_n (d119_5 L xs) rfl ?_
  refine wg_iconst (d119_6 L xs) (x := 0) (by decide) ?_
  refine wg_puti (d119_7 L xs) (cj := 9) (k0 := 23) rfl (by decide) rfl (Nat.le_of_ble_eq_true rfl) rfl rfl rfl ?_
  exact wg_vret (d119_10 L xs) rfl ⟨rfl, rfl⟩
theorem md_cm_l {v : Int32} : ∀ (fs : List frT) (how sg x : Nat) (c4 : Option Value) (σ : ckS) (s : mg_s), s.1 141 23 = nI (fs.length + 1) → s.2.1 160 fs.length = nI how → s.2.1 161 fs.length = nI sg → how ≤ 2 → (how = 0 ↔ fs.length = 0) → (how = 1 → 1 ≤ sg) → sg ≤ 4 → (how = 1 → ∀ g gs, fs = g :: gs → 1 ≤ fr_n g) → isStk s fs → isSg s σ → okS σ → x ≤ 4 → fs.length ≤ σ.1 → wp L xs (d + 1) 118 4 [some (.ref 141), some (.int v), some (.int (nI x)), some (.int 1), c4] [] s (fun r s' => r = none ∧ mfr s s' [23, 36, 39] [] ∧ kOut s' E (k_ret E fs how sg (x, σ)) (2 * (10 - σ.1) + fs.length)) := by
  intro fs
  induction fs with
  | nil =>
    intro how sg x c4 σ s h23 h60 h61 hh2 hh0 hsg1 hsg4 hn1 hst hsg hok hx hdp
    have hl10 := hok.1
    have hh : how = 0 := hh0.mpr rfl
    change s.1 141 23 = nI (0 + 1) at h23
    change s.2.1 160 0 = nI how at h60
    refine wg_iload_n (d118_4 L xs) rfl ?_
    refine wg_if_eq (d118_5 L xs) (t := 122) (by decide) (fun hp => absurd hp (by decide)) (fun _ => ?_)
    refine wg_aload_n (d118_8 L xs) rfl ?_
    refine wg_get (d118_9 L xs) (kd := 1) (cj := 9) (k0 := 23) rfl (Or.inl rfl) (by decide) rfl rfl ?_
    refine wg_top (y := (nI (0 + 1))) h23 ?_
    refine wn_if_le (d118_12 L xs) (x := 0 + 1) (by omega) (t := 122) (by decide) (fun h2 => by omega) (fun h2 => ?_)
    refine wg_aload_n (d118_15 L xs) rfl ?_
    refine wg_dup (d118_16 L xs) rfl ?_
    refine wg_get (d118_17 L xs) (kd := 1) (cj := 9) (k0 := 23) rfl (Or.inl rfl) (by decide) rfl rfl ?_
    refine wg_top (y := (nI (0 + 1))) h23 ?_
    refine wg_iconst (d118_20 L xs) (x := 1) (by decide) ?_
    refine wg_isub (d118_21 L xs) ?_
    refine wg_top (y := (nI 0)) (pk_sub (a := 0 + 1) (b := 1) (by omega)) ?_
    refine wg_puti (d118_22 L xs) (cj := 9) (k0 := 23) rfl (by decide) rfl (Nat.le_of_ble_eq_true rfl) rfl rfl rfl ?_
    refine wg_aload_n (d118_25 L xs) rfl ?_
    refine wg_get (d118_26 L xs) (kd := 1) (cj := 9) (k0 := 30) rfl (Or.inl rfl) (by decide) rfl rfl ?_
    refine wg_aload_n (d118_29 L xs) rfl ?_
    refine wg_get (d118_30 L xs) (kd := 1) (cj := 9) (k0 := 23) rfl (Or.inl rfl) (by decide) rfl rfl ?_
    refine wg_top (y := (nI 0)) rfl ?_
    refine wg_iald (d118_33 L xs) (n := 13) (by decide) rfl (vp_in_nI (n := 0) (by omega) (by omega)) ?_
    refine wg_top (y := (nI how)) (by rw [nI_nat (n := 0) (by omega)]; exact h60) ?_
    refine wg_istore (d118_34 L xs) (ls' := [some (.ref 141), some (.int v), some (.int (nI x)), some (.int 1), some (.int (nI how))]) (Nat.le_of_ble_eq_true rfl) rfl ?_
    refine wg_iconst (d118_36 L xs) (x := 0) (by decide) ?_
    refine wg_istore_n (d118_37 L xs) (ls' := [some (.ref 141), some (.int v), some (.int (nI x)), some (.int 0), some (.int (nI how))]) (Nat.le_of_ble_eq_true rfl) rfl ?_
    refine wg_iload (d118_38 L xs) rfl ?_
    refine wn_if_ne (d118_40 L xs) (x := how) (by omega) (t := 51) (by decide) (fun h3 => by omega) (fun h3 => ?_)
    refine wg_aload_n (d118_43 L xs) rfl ?_
    refine wg_iload_n (d118_44 L xs) rfl ?_
    refine wg_invv (d118_45 L xs) (kd := 7) (mj := 119) (n := 1) rfl (Or.inl rfl) (ys := [.int (nI x)]) (r := []) rfl rfl (by decide) rfl rfl (Nat.le_of_ble_eq_true rfl) (md_end) ?_
    rintro _ _ ⟨rfl, rfl⟩
    refine wg_goto (d118_48 L xs) (t := 119) (by decide) ?_
    refine wg_goto (d118_119 L xs) (t := 4) (by decide) ?_
    refine wg_iload_n (d118_4 L xs) rfl ?_
    refine wg_if_eq (d118_5 L xs) (t := 122) (by decide) (fun _ => ?_) (fun hn => absurd (by decide) hn)
    exact wg_vret (d118_122 L xs) rfl ⟨rfl, ((mfr_I s (by decide)).trans (mfr_I _ (by decide))).trans (mfr_I _ (by decide)), Or.inl ⟨rfl, rfl, isSg_I (isSg_I (isSg_I hsg (by decide)) (by decide)) (by decide)⟩⟩
  | cons g gs ih =>
    intro how sg x c4 σ s h23 h60 h61 hh2 hh0 hsg1 hsg4 hn1 hst hsg hok hx hdp
    have hl10 := hok.1
    change s.1 141 23 = nI (gs.length + 1 + 1) at h23
    change s.2.1 160 (gs.length + 1) = nI how at h60
    change s.2.1 161 (gs.length + 1) = nI sg at h61
    change gs.length + 1 ≤ σ.1 at hdp
    have hhn : ¬ how = 0 := fun e => absurd (hh0.mp e) (by show ¬ gs.length + 1 = 0; omega)
    obtain ⟨hF, hO, hN, hS⟩ := hst
    refine wg_iload_n (d118_4 L xs) rfl ?_
    refine wg_if_eq (d118_5 L xs) (t := 122) (by decide) (fun hp => absurd hp (by decide)) (fun _ => ?_)
    refine wg_aload_n (d118_8 L xs) rfl ?_
    refine wg_get (d118_9 L xs) (kd := 1) (cj := 9) (k0 := 23) rfl (Or.inl rfl) (by decide) rfl rfl ?_
    refine wg_top (y := (nI (gs.length + 1 + 1))) h23 ?_
    refine wn_if_le (d118_12 L xs) (x := gs.length + 1 + 1) (by omega) (t := 122) (by decide) (fun h2 => by omega) (fun h2 => ?_)
    refine wg_aload_n (d118_15 L xs) rfl ?_
    refine wg_dup (d118_16 L xs) rfl ?_
    refine wg_get (d118_17 L xs) (kd := 1) (cj := 9) (k0 := 23) rfl (Or.inl rfl) (by decide) rfl rfl ?_
    refine wg_top (y := (nI (gs.length + 1 + 1))) h23 ?_
    refine wg_iconst (d118_20 L xs) (x := 1) (by decide) ?_
    refine wg_isub (d118_21 L xs) ?_
    refine wg_top (y := (nI (gs.length + 1))) (pk_sub (a := gs.length + 1 + 1) (b := 1) (by omega)) ?_
    refine wg_puti (d118_22 L xs) (cj := 9) (k0 := 23) rfl (by decide) rfl (Nat.le_of_ble_eq_true rfl) rfl rfl rfl ?_
    refine wg_aload_n (d118_25 L xs) rfl ?_
    refine wg_get (d118_26 L xs) (kd := 1) (cj := 9) (k0 := 30) rfl (Or.inl rfl) (by decide) rfl rfl ?_
    refine wg_aload_n (d118_29 L xs) rfl ?_
    refine wg_get (d118_30 L xs) (kd := 1) (cj := 9) (k0 := 23) rfl (Or.inl rfl) (by decide) rfl rfl ?_
    refine wg_top (y := (nI (gs.length + 1))) rfl ?_
    refine wg_iald (d118_33 L xs) (n := 13) (by decide) rfl (vp_in_nI (n := gs.length + 1) (by omega) (by omega)) ?_
    refine wg_top (y := (nI how)) (by rw [nI_nat (n := gs.length + 1) (by omega)]; exact h60) ?_
    refine wg_istore (d118_34 L xs) (ls' := [some (.ref 141), some (.int v), some (.int (nI x)), some (.int 1), some (.int (nI how))]) (Nat.le_of_ble_eq_true rfl) rfl ?_
    refine wg_iconst (d118_36 L xs) (x := 0) (by decide) ?_
    refine wg_istore_n (d118_37 L xs) (ls' := [some (.ref 141), some (.int v), some (.int (nI x)), some (.int 0), some (.int (nI how))]) (Nat.le_of_ble_eq_true rfl) rfl ?_
    refine wg_iload (d118_38 L xs) rfl ?_
    refine wn_if_ne (d118_40 L xs) (x := how) (by omega) (t := 51) (by decide) (fun h3 => ?_) (fun h3 => by omega)
    refine wg_iload_n (d118_51 L xs) rfl ?_
    refine wn_if_ne (d118_52 L xs) (x := x) (by omega) (t := 64) (by decide) (fun h4 => ?_) (fun h4 => ?_)
    · refine wg_iload (d118_64 L xs) rfl ?_
      refine wg_iconst (d118_66 L xs) (x := 2) (by decide) ?_
      refine wn_icmp_ne (d118_67 L xs) (x := how) (y := 2) (by omega) (by omega) (t := 75) (by decide) (fun h5 => ?_) (fun h5 => ?_)
      · refine wg_iload_n (d118_75 L xs) rfl ?_
        refine wg_iconst (d118_76 L xs) (x := 2) (by decide) ?_
        refine wn_icmp_ne (d118_77 L xs) (x := x) (y := 2) (by omega) (by omega) (t := 119) (by decide) (fun h6 => ?_) (fun h6 => ?_)
        · refine wg_goto (d118_119 L xs) (t := 4) (by decide) ?_
          refine wg_iload_n (d118_4 L xs) rfl ?_
          refine wg_if_eq (d118_5 L xs) (t := 122) (by decide) (fun _ => ?_) (fun hn => absurd (by decide) hn)
          exact wg_vret (d118_122 L xs) rfl ⟨rfl, mfr_I s (by decide), by rw [k_ret_n (by omega) (by omega) (by omega) (by omega)]; exact Or.inr ⟨g, gs, σ, rfl, isStk_I (fs := g :: gs) ⟨hF, hO, hN, hS⟩, isSg_I hsg (by decide), hok, rfl, by show _ ≤ _ + (gs.length + 1); omega, by omega⟩⟩
        · refine wg_aload_n (d118_80 L xs) rfl ?_
          refine wg_get (d118_81 L xs) (kd := 1) (cj := 9) (k0 := 31) rfl (Or.inl rfl) (by decide) rfl rfl ?_
          refine wg_aload_n (d118_84 L xs) rfl ?_
          refine wg_get (d118_85 L xs) (kd := 1) (cj := 9) (k0 := 23) rfl (Or.inl rfl) (by decide) rfl rfl ?_
          refine wg_top (y := (nI (gs.length + 1))) rfl ?_
          refine wg_iald (d118_88 L xs) (n := 13) (by decide) rfl (vp_in_nI (n := gs.length + 1) (by omega) (by omega)) ?_
          refine wg_top (y := (nI sg)) (by rw [nI_nat (n := gs.length + 1) (by omega)]; exact h61) ?_
          refine wg_istore_n (d118_89 L xs) (ls' := [some (.ref 141), some (.int v), some (.int (nI sg)), some (.int 0), some (.int (nI how))]) (Nat.le_of_ble_eq_true rfl) rfl ?_
          refine wg_aload_n (d118_90 L xs) rfl ?_
          refine wg_aload_n (d118_91 L xs) rfl ?_
          refine wg_get (d118_92 L xs) (kd := 1) (cj := 9) (k0 := 23) rfl (Or.inl rfl) (by decide) rfl rfl ?_
          refine wg_top (y := (nI (gs.length + 1))) rfl ?_
          refine wg_iconst (d118_95 L xs) (x := 1) (by decide) ?_
          refine wn_icmp_ne (d118_96 L xs) (x := gs.length + 1) (y := 1) (by omega) (by omega) (t := 110) (by decide) (fun h8 => ?_) (fun h8 => ?_)
          · refine wg_aload_n (d118_110 L xs) rfl ?_
            refine wg_get (d118_111 L xs) (kd := 1) (cj := 9) (k0 := 39) rfl (Or.inl rfl) (by decide) rfl rfl ?_
            refine wg_puti (d118_114 L xs) (cj := 9) (k0 := 39) rfl (by decide) rfl (Nat.le_of_ble_eq_true rfl) rfl rfl rfl ?_
            refine wg_iconst (d118_117 L xs) (x := 1) (by decide) ?_
            refine wg_istore_n (d118_118 L xs) (ls' := [some (.ref 141), some (.int v), some (.int (nI sg)), some (.int 1), some (.int (nI how))]) (Nat.le_of_ble_eq_true rfl) rfl ?_
            refine wg_goto (d118_119 L xs) (t := 4) (by decide) ?_
            rw [show x = 2 by omega, k_ret_p (by omega)]
            exact wp_mono (ih g.1 g.2.1 sg _ (st_mt σ gs.length (fr_n g - 1)) _ rfl hF.1 hF.2.1 hO.1 hO.2.1 hO.2.2.1 hO.2.2.2.1 hN (isStk_I (isStk_I hS)) (by rw [st_mt_ne (show ¬ gs.length = 0 by omega)]; exact ⟨hsg.1, hsg.2.1, hsg.2.2.1, hsg.2.2.2.1, hsg.2.2.2.2.1, hsg.2.2.2.2.2⟩) hok hsg4 (show gs.length ≤ σ.1 by omega)) (fun r s' h => ⟨h.1, ((mfr_I s (by decide)).trans (mfr_I _ (by decide))).trans h.2.1, h.2.2.imp id (fun ⟨f', fs', σ', a1, a2, a3, a4, a5, a6, a7⟩ => ⟨f', fs', σ', a1, a2, a3, a4, a5, by change _ ≤ 2 * (10 - σ.1) + gs.length at a6; show _ ≤ _ + (gs.length + 1); omega, a7⟩)⟩)
          · refine wg_aload_n (d118_99 L xs) rfl ?_
            refine wg_get (d118_100 L xs) (kd := 1) (cj := 9) (k0 := 32) rfl (Or.inl rfl) (by decide) rfl rfl ?_
            refine wg_iconst (d118_103 L xs) (x := 0) (by decide) ?_
            refine wg_iald (d118_104 L xs) (n := 13) (by decide) rfl (vp_in_nI (n := 0) (by omega) (by omega)) ?_
            refine wg_top (y := (nI (fr_n g))) (by have := hF.2.2.2.1; rw [show gs.length = 0 by omega] at this; exact this) ?_
            refine wg_iconst (d118_105 L xs) (x := 1) (by decide) ?_
            refine wg_isub (d118_106 L xs) ?_
            refine wg_top (y := (nI (fr_n g - 1))) (pk_sub (a := fr_n g) (b := 1) (hn1 (by omega) g gs rfl)) ?_
            refine wg_goto (d118_107 L xs) (t := 114) (by decide) ?_
            refine wg_puti (d118_114 L xs) (cj := 9) (k0 := 39) rfl (by decide) rfl (Nat.le_of_ble_eq_true rfl) rfl rfl rfl ?_
            refine wg_iconst (d118_117 L xs) (x := 1) (by decide) ?_
            refine wg_istore_n (d118_118 L xs) (ls' := [some (.ref 141), some (.int v), some (.int (nI sg)), some (.int 1), some (.int (nI how))]) (Nat.le_of_ble_eq_true rfl) rfl ?_
            refine wg_goto (d118_119 L xs) (t := 4) (by decide) ?_
            rw [show x = 2 by omega, k_ret_p (by omega)]
            exact wp_mono (ih g.1 g.2.1 sg _ (st_mt σ gs.length (fr_n g - 1)) _ rfl hF.1 hF.2.1 hO.1 hO.2.1 hO.2.2.1 hO.2.2.2.1 hN (isStk_I (isStk_I hS)) (by rw [st_mt_z (show gs.length = 0 by omega)]; exact isSg_mt (isSg_I hsg (by decide)) _) hok hsg4 (show gs.length ≤ σ.1 by omega)) (fun r s' h => ⟨h.1, ((mfr_I s (by decide)).trans (mfr_I _ (by decide))).trans h.2.1, h.2.2.imp id (fun ⟨f', fs', σ', a1, a2, a3, a4, a5, a6, a7⟩ => ⟨f', fs', σ', a1, a2, a3, a4, a5, by change _ ≤ 2 * (10 - σ.1) + gs.length at a6; show _ ≤ _ + (gs.length + 1); omega, a7⟩)⟩)
      · refine wg_iconst (d118_70 L xs) (x := 1) (by decide) ?_
        refine wg_istore_n (d118_71 L xs) (ls' := [some (.ref 141), some (.int v), some (.int (nI x)), some (.int 1), some (.int (nI how))]) (Nat.le_of_ble_eq_true rfl) rfl ?_
        refine wg_goto (d118_72 L xs) (t := 119) (by decide) ?_
        refine wg_goto (d118_119 L xs) (t := 4) (by decide) ?_
        rw [show how = 2 by omega, k_ret_2 (by omega) (by omega)]
        exact wp_mono (ih g.1 g.2.1 x _ σ _ rfl hF.1 hF.2.1 hO.1 hO.2.1 hO.2.2.1 hO.2.2.2.1 hN (isStk_I hS) (isSg_I hsg (by decide)) hok hx (by omega)) (fun r s' h => ⟨h.1, (mfr_I s (by decide)).trans h.2.1, h.2.2.imp id (fun ⟨f', fs', σ', a1, a2, a3, a4, a5, a6, a7⟩ => ⟨f', fs', σ', a1, a2, a3, a4, a5, by show _ ≤ _ + (gs.length + 1); omega, a7⟩)⟩)
    · refine wg_aload_n (d118_55 L xs) rfl ?_
      refine wg_bipush (d118_56 L xs) (x := 6) (by decide) ?_
      refine wg_invv (d118_58 L xs) (kd := 7) (mj := 119) (n := 1) rfl (Or.inl rfl) (ys := [.int 6]) (r := []) rfl rfl (by decide) rfl rfl (Nat.le_of_ble_eq_true rfl) (md_end) ?_
      rintro _ _ ⟨rfl, rfl⟩
      refine wg_goto (d118_61 L xs) (t := 119) (by decide) ?_
      refine wg_goto (d118_119 L xs) (t := 4) (by decide) ?_
      refine wg_iload_n (d118_4 L xs) rfl ?_
      refine wg_if_eq (d118_5 L xs) (t := 122) (by decide) (fun _ => ?_) (fun hn => absurd (by decide) hn)
      exact wg_vret (d118_122 L xs) rfl ⟨rfl, ((mfr_I s (by decide)).trans (mfr_I _ (by decide))).trans (mfr_I _ (by decide)), by rw [show x = 0 by omega, k_ret_0]; exact Or.inl ⟨rfl, rfl, isSg_I (isSg_I (isSg_I hsg (by decide)) (by decide)) (by decide)⟩⟩
theorem md_comes {fs : List frT} {how sg x : Nat} {σ : ckS} (h23 : s.1 141 23 = nI (fs.length + 1)) (h60 : s.2.1 160 fs.length = nI how) (h61 : s.2.1 161 fs.length = nI sg) (hh2 : how ≤ 2) (hh0 : how = 0 ↔ fs.length = 0) (hsg1 : how = 1 → 1 ≤ sg) (hsg4 : sg ≤ 4) (hn1 : how = 1 → ∀ g gs, fs = g :: gs → 1 ≤ fr_n g) (hst : isStk s fs) (hsg : isSg s σ) (hok : okS σ) (hx : x ≤ 4) (hdp : fs.length ≤ σ.1) : ca L xs (d + 2) 118 [.ref 141, .int (nI x)] s (fun r s' => r = none ∧ mfr s s' [23, 36, 39] [] ∧ kOut s' E (k_ret E fs how sg (x, σ)) (2 * (10 - σ.1) + fs.length)) := by
  refine wg_call (Nat.le_of_ble_eq_true rfl) ?_
  show wp L xs (d + 1) 118 0 [some (.ref 141), some (.int (nI x)), none, none, none] [] s _
  refine wg_iload_n (d118_0 L xs) rfl ?_
  refine wg_istore_n (d118_1 L xs) (ls' := [some (.ref 141), some (.int (nI x)), some (.int (nI x)), none, none]) (Nat.le_of_ble_eq_true rfl) rfl ?_
  refine wg_iconst (d118_2 L xs) (x := 1) (by decide) ?_
  refine wg_istore_n (d118_3 L xs) (ls' := [some (.ref 141), some (.int (nI x)), some (.int (nI x)), some (.int 1), none]) (Nat.le_of_ble_eq_true rfl) rfl ?_
  exact md_cm_l fs how sg x none σ s h23 h60 h61 hh2 hh0 hsg1 hsg4 hn1 hst hsg hok hx hdp
end KC
