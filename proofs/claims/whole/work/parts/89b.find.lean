/-! the reference: a check begins, its record is sought -/
theorem d120_0 (L : Nat) (xs : Nat → Int32) : decode (ax_code (mgT L xs) 120) 0 = .ok (.aload_n 0, 1) := by
  show decode prog_11_method_36_code 0 = _
  decide +kernel
theorem d120_1 (L : Nat) (xs : Nat → Int32) : decode (ax_code (mgT L xs) 120) 1 = .ok (.iconst 2, 1) := by
  show decode prog_11_method_36_code 1 = _
  decide +kernel
theorem d120_2 (L : Nat) (xs : Nat → Int32) : decode (ax_code (mgT L xs) 120) 2 = .ok (.invokevirtual 212, 3) := by
  show decode prog_11_method_36_code 2 = _
  decide +kernel
theorem d120_5 (L : Nat) (xs : Nat → Int32) : decode (ax_code (mgT L xs) 120) 5 = .ok (.ifCond .ne 9, 3) := by
  show decode prog_11_method_36_code 5 = _
  decide +kernel
theorem d120_8 (L : Nat) (xs : Nat → Int32) : decode (ax_code (mgT L xs) 120) 8 = .ok (.aload_n 0, 1) := by
  show decode prog_11_method_36_code 8 = _
  decide +kernel
theorem d120_9 (L : Nat) (xs : Nat → Int32) : decode (ax_code (mgT L xs) 120) 9 = .ok (.iconst 5, 1) := by
  show decode prog_11_method_36_code 9 = _
  decide +kernel
theorem d120_10 (L : Nat) (xs : Nat → Int32) : decode (ax_code (mgT L xs) 120) 10 = .ok (.invokevirtual 215, 3) := by
  show decode prog_11_method_36_code 10 = _
  decide +kernel
theorem d120_13 (L : Nat) (xs : Nat → Int32) : decode (ax_code (mgT L xs) 120) 13 = .ok (.return_, 1) := by
  show decode prog_11_method_36_code 13 = _
  decide +kernel
theorem d120_14 (L : Nat) (xs : Nat → Int32) : decode (ax_code (mgT L xs) 120) 14 = .ok (.iconst 0, 1) := by
  show decode prog_11_method_36_code 14 = _
  decide +kernel
theorem d120_15 (L : Nat) (xs : Nat → Int32) : decode (ax_code (mgT L xs) 120) 15 = .ok (.istore_n 2, 1) := by
  show decode prog_11_method_36_code 15 = _
  decide +kernel
theorem d120_16 (L : Nat) (xs : Nat → Int32) : decode (ax_code (mgT L xs) 120) 16 = .ok (.iconst 0, 1) := by
  show decode prog_11_method_36_code 16 = _
  decide +kernel
theorem d120_17 (L : Nat) (xs : Nat → Int32) : decode (ax_code (mgT L xs) 120) 17 = .ok (.istore_n 3, 1) := by
  show decode prog_11_method_36_code 17 = _
  decide +kernel
theorem d120_18 (L : Nat) (xs : Nat → Int32) : decode (ax_code (mgT L xs) 120) 18 = .ok (.iload_n 3, 1) := by
  show decode prog_11_method_36_code 18 = _
  decide +kernel
theorem d120_19 (L : Nat) (xs : Nat → Int32) : decode (ax_code (mgT L xs) 120) 19 = .ok (.aload_n 0, 1) := by
  show decode prog_11_method_36_code 19 = _
  decide +kernel
theorem d120_20 (L : Nat) (xs : Nat → Int32) : decode (ax_code (mgT L xs) 120) 20 = .ok (.getfield 124, 3) := by
  show decode prog_11_method_36_code 20 = _
  decide +kernel
theorem d120_23 (L : Nat) (xs : Nat → Int32) : decode (ax_code (mgT L xs) 120) 23 = .ok (.if_icmp .ge 37, 3) := by
  show decode prog_11_method_36_code 23 = _
  decide +kernel
theorem d120_26 (L : Nat) (xs : Nat → Int32) : decode (ax_code (mgT L xs) 120) 26 = .ok (.aload_n 0, 1) := by
  show decode prog_11_method_36_code 26 = _
  decide +kernel
theorem d120_27 (L : Nat) (xs : Nat → Int32) : decode (ax_code (mgT L xs) 120) 27 = .ok (.aload_n 0, 1) := by
  show decode prog_11_method_36_code 27 = _
  decide +kernel
theorem d120_28 (L : Nat) (xs : Nat → Int32) : decode (ax_code (mgT L xs) 120) 28 = .ok (.getfield 34, 3) := by
  show decode prog_11_method_36_code 28 = _
  decide +kernel
theorem d120_31 (L : Nat) (xs : Nat → Int32) : decode (ax_code (mgT L xs) 120) 31 = .ok (.iload_n 3, 1) := by
  show decode prog_11_method_36_code 31 = _
  decide +kernel
theorem d120_32 (L : Nat) (xs : Nat → Int32) : decode (ax_code (mgT L xs) 120) 32 = .ok (.iaload, 1) := by
  show decode prog_11_method_36_code 32 = _
  decide +kernel
theorem d120_33 (L : Nat) (xs : Nat → Int32) : decode (ax_code (mgT L xs) 120) 33 = .ok (.invokevirtual 218, 3) := by
  show decode prog_11_method_36_code 33 = _
  decide +kernel
theorem d120_36 (L : Nat) (xs : Nat → Int32) : decode (ax_code (mgT L xs) 120) 36 = .ok (.ifCond .eq 18, 3) := by
  show decode prog_11_method_36_code 36 = _
  decide +kernel
theorem d120_39 (L : Nat) (xs : Nat → Int32) : decode (ax_code (mgT L xs) 120) 39 = .ok (.iinc 2 1, 3) := by
  show decode prog_11_method_36_code 39 = _
  decide +kernel
theorem d120_42 (L : Nat) (xs : Nat → Int32) : decode (ax_code (mgT L xs) 120) 42 = .ok (.aload_n 0, 1) := by
  show decode prog_11_method_36_code 42 = _
  decide +kernel
theorem d120_43 (L : Nat) (xs : Nat → Int32) : decode (ax_code (mgT L xs) 120) 43 = .ok (.getfield 52, 3) := by
  show decode prog_11_method_36_code 43 = _
  decide +kernel
theorem d120_46 (L : Nat) (xs : Nat → Int32) : decode (ax_code (mgT L xs) 120) 46 = .ok (.iload_n 1, 1) := by
  show decode prog_11_method_36_code 46 = _
  decide +kernel
theorem d120_47 (L : Nat) (xs : Nat → Int32) : decode (ax_code (mgT L xs) 120) 47 = .ok (.aload_n 0, 1) := by
  show decode prog_11_method_36_code 47 = _
  decide +kernel
theorem d120_48 (L : Nat) (xs : Nat → Int32) : decode (ax_code (mgT L xs) 120) 48 = .ok (.getfield 34, 3) := by
  show decode prog_11_method_36_code 48 = _
  decide +kernel
theorem d120_51 (L : Nat) (xs : Nat → Int32) : decode (ax_code (mgT L xs) 120) 51 = .ok (.iload_n 3, 1) := by
  show decode prog_11_method_36_code 51 = _
  decide +kernel
theorem d120_52 (L : Nat) (xs : Nat → Int32) : decode (ax_code (mgT L xs) 120) 52 = .ok (.iaload, 1) := by
  show decode prog_11_method_36_code 52 = _
  decide +kernel
theorem d120_53 (L : Nat) (xs : Nat → Int32) : decode (ax_code (mgT L xs) 120) 53 = .ok (.iastore, 1) := by
  show decode prog_11_method_36_code 53 = _
  decide +kernel
theorem d120_54 (L : Nat) (xs : Nat → Int32) : decode (ax_code (mgT L xs) 120) 54 = .ok (.iinc 3 1, 3) := by
  show decode prog_11_method_36_code 54 = _
  decide +kernel
theorem d120_57 (L : Nat) (xs : Nat → Int32) : decode (ax_code (mgT L xs) 120) 57 = .ok (.goto (-39), 3) := by
  show decode prog_11_method_36_code 57 = _
  decide +kernel
theorem d120_60 (L : Nat) (xs : Nat → Int32) : decode (ax_code (mgT L xs) 120) 60 = .ok (.iload_n 2, 1) := by
  show decode prog_11_method_36_code 60 = _
  decide +kernel
theorem d120_61 (L : Nat) (xs : Nat → Int32) : decode (ax_code (mgT L xs) 120) 61 = .ok (.iconst 1, 1) := by
  show decode prog_11_method_36_code 61 = _
  decide +kernel
theorem d120_62 (L : Nat) (xs : Nat → Int32) : decode (ax_code (mgT L xs) 120) 62 = .ok (.if_icmp .le 12, 3) := by
  show decode prog_11_method_36_code 62 = _
  decide +kernel
theorem d120_65 (L : Nat) (xs : Nat → Int32) : decode (ax_code (mgT L xs) 120) 65 = .ok (.aload_n 0, 1) := by
  show decode prog_11_method_36_code 65 = _
  decide +kernel
theorem d120_66 (L : Nat) (xs : Nat → Int32) : decode (ax_code (mgT L xs) 120) 66 = .ok (.bipush 6, 2) := by
  show decode prog_11_method_36_code 66 = _
  decide +kernel
theorem d120_68 (L : Nat) (xs : Nat → Int32) : decode (ax_code (mgT L xs) 120) 68 = .ok (.invokevirtual 215, 3) := by
  show decode prog_11_method_36_code 68 = _
  decide +kernel
theorem d120_71 (L : Nat) (xs : Nat → Int32) : decode (ax_code (mgT L xs) 120) 71 = .ok (.goto 29, 3) := by
  show decode prog_11_method_36_code 71 = _
  decide +kernel
theorem d120_74 (L : Nat) (xs : Nat → Int32) : decode (ax_code (mgT L xs) 120) 74 = .ok (.iload_n 2, 1) := by
  show decode prog_11_method_36_code 74 = _
  decide +kernel
theorem d120_75 (L : Nat) (xs : Nat → Int32) : decode (ax_code (mgT L xs) 120) 75 = .ok (.ifCond .ne 11, 3) := by
  show decode prog_11_method_36_code 75 = _
  decide +kernel
theorem d120_78 (L : Nat) (xs : Nat → Int32) : decode (ax_code (mgT L xs) 120) 78 = .ok (.aload_n 0, 1) := by
  show decode prog_11_method_36_code 78 = _
  decide +kernel
theorem d120_79 (L : Nat) (xs : Nat → Int32) : decode (ax_code (mgT L xs) 120) 79 = .ok (.iconst 0, 1) := by
  show decode prog_11_method_36_code 79 = _
  decide +kernel
theorem d120_80 (L : Nat) (xs : Nat → Int32) : decode (ax_code (mgT L xs) 120) 80 = .ok (.invokevirtual 206, 3) := by
  show decode prog_11_method_36_code 80 = _
  decide +kernel
theorem d120_83 (L : Nat) (xs : Nat → Int32) : decode (ax_code (mgT L xs) 120) 83 = .ok (.goto 17, 3) := by
  show decode prog_11_method_36_code 83 = _
  decide +kernel
theorem d120_86 (L : Nat) (xs : Nat → Int32) : decode (ax_code (mgT L xs) 120) 86 = .ok (.aload_n 0, 1) := by
  show decode prog_11_method_36_code 86 = _
  decide +kernel
theorem d120_87 (L : Nat) (xs : Nat → Int32) : decode (ax_code (mgT L xs) 120) 87 = .ok (.iload_n 1, 1) := by
  show decode prog_11_method_36_code 87 = _
  decide +kernel
theorem d120_88 (L : Nat) (xs : Nat → Int32) : decode (ax_code (mgT L xs) 120) 88 = .ok (.invokevirtual 221, 3) := by
  show decode prog_11_method_36_code 88 = _
  decide +kernel
theorem d120_91 (L : Nat) (xs : Nat → Int32) : decode (ax_code (mgT L xs) 120) 91 = .ok (.ifCond .ne 9, 3) := by
  show decode prog_11_method_36_code 91 = _
  decide +kernel
theorem d120_94 (L : Nat) (xs : Nat → Int32) : decode (ax_code (mgT L xs) 120) 94 = .ok (.aload_n 0, 1) := by
  show decode prog_11_method_36_code 94 = _
  decide +kernel
theorem d120_95 (L : Nat) (xs : Nat → Int32) : decode (ax_code (mgT L xs) 120) 95 = .ok (.bipush 6, 2) := by
  show decode prog_11_method_36_code 95 = _
  decide +kernel
theorem d120_97 (L : Nat) (xs : Nat → Int32) : decode (ax_code (mgT L xs) 120) 97 = .ok (.invokevirtual 215, 3) := by
  show decode prog_11_method_36_code 97 = _
  decide +kernel
theorem d120_100 (L : Nat) (xs : Nat → Int32) : decode (ax_code (mgT L xs) 120) 100 = .ok (.return_, 1) := by
  show decode prog_11_method_36_code 100 = _
  decide +kernel
theorem t_rec_6 {D : List Nat} (h : t_rec D = true) : 6 ≤ D.length := by
  unfold t_rec at h
  have h1 := (Bool.and_eq_true_iff.mp h).1
  have := (t_word_iff.mp h1).1
  change min 6 D.length - 0 = 6 at this
  omega
theorem f_rt_ok {D : List Nat} : ∀ (m p cnt : Nat) (o : Nat × Nat), f_al D (D.length + 1 - p) p p cnt = true → (o.1 < o.2 → o.2 ≤ D.length ∧ t_tgt (gl D) o.1 o.2 = true) → ((f_rt D m p o).1 < (f_rt D m p o).2 → (f_rt D m p o).2 ≤ D.length ∧ t_tgt (gl D) (f_rt D m p o).1 (f_rt D m p o).2 = true) := by
  intro m
  induction m with
  | zero => intro p cnt o _ h; exact h
  | succ m ih =>
    intro p cnt o hal h
    rw [f_rt]
    by_cases e : p < D.length
    · obtain ⟨t1, t2, t3, t4⟩ := te_s (D := D) (p := p) (by omega)
      rw [show D.length + 1 - p = (t_te D p - p) + ((D.length - t_te D p) + 1) by omega, f_al_skip _ _ _ _ _ (fun k a b => t3 k a (by omega)) (by omega), show p + (t_te D p - p) = t_te D p by omega, f_al, if_pos t4, show D.length - t_te D p = D.length + 1 - (t_te D p + 1) by omega] at hal
      rw [if_pos e]
      by_cases e2 : p < t_te D p
      · rw [if_pos e2] at hal ⊢
        cases hq : t_term (gl D) p (t_te D p) with
        | none => rw [hq] at hal; cases hal
        | some t =>
          rw [hq] at hal
          dsimp only at hal ⊢
          have ho := t_term_ok e2 hq
          by_cases c6 : t.1 = 6
          · rw [if_pos c6]
            exact ih _ _ _ hal (fun q => ⟨Nat.le_trans ho.2.2.1 t2, ho.2.2.2.2.2.1 (by omega) q⟩)
          · rw [if_neg c6]
            exact ih _ _ _ hal h
      · rw [if_neg e2] at hal ⊢
        exact ih _ _ _ hal h
    · rw [if_neg e]; exact h
theorem al_step {D : List Nat} {p cnt : Nat} (e : p < D.length) (hal : f_al D (D.length + 1 - p) p p cnt = true) : (p < t_te D p → ∃ t, t_term (gl D) p (t_te D p) = some t) ∧ ∃ cnt', f_al D (D.length + 1 - (t_te D p + 1)) (t_te D p + 1) (t_te D p + 1) cnt' = true := by
  obtain ⟨t1, t2, t3, t4⟩ := te_s (D := D) (p := p) (by omega)
  rw [show D.length + 1 - p = (t_te D p - p) + ((D.length - t_te D p) + 1) by omega, f_al_skip _ _ _ _ _ (fun k a b => t3 k a (by omega)) (by omega), show p + (t_te D p - p) = t_te D p by omega, f_al, if_pos t4, show D.length - t_te D p = D.length + 1 - (t_te D p + 1) by omega] at hal
  by_cases e2 : p < t_te D p
  · rw [if_pos e2] at hal
    cases hq : t_term (gl D) p (t_te D p) with
    | none => rw [hq] at hal; cases hal
    | some t => rw [hq] at hal; exact ⟨fun _ => ⟨t, rfl⟩, _, hal⟩
  · rw [if_neg e2] at hal
    exact ⟨fun q => absurd q e2, _, hal⟩
theorem hits_mem {R : List rowT} {m : List Nat} {kd : Nat} : ∀ (Rs : List rowT) (k : Nat), R.drop k = Rs → ∀ h, h ∈ f_hits m kd Rs k → ∃ q, R[h]? = some q ∧ q.2.1 = m ∧ q.1 = kd := by
  intro Rs
  induction Rs with
  | nil => intro k _ h hh; cases hh
  | cons q Rs ih =>
    intro k hk h hh
    have hq : R[k]? = some q := by
      have : (R.drop k)[0]? = some q := by rw [hk]; rfl
      rw [List.getElem?_drop] at this; exact this
    have hk2 : R.drop (k + 1) = Rs := by rw [← List.tail_drop, hk]; rfl
    rw [f_hits] at hh
    split at hh
    · rename_i c
      rcases List.mem_cons.mp hh with e | e
      · subst e; exact ⟨q, hq, c.1, c.2⟩
      · exact ih _ hk2 h e
    · exact ih _ hk2 h hh
def h_cnt (R : List rowT) (h : Nat) : Bool := match R[h]? with
  | some q => t_rec q.2.2.1
  | none => false
theorem recs_eq {R : List rowT} {dom : List Nat} : ∀ (Rs : List rowT) (k : Nat), R.drop k = Rs → f_recs dom Rs = ((f_hits dom 2 Rs k).filter (h_cnt R)).filterMap (fun h => R[h]?) := by
  intro Rs
  induction Rs with
  | nil => intro k _; rfl
  | cons q Rs ih =>
    intro k hk
    have hq : R[k]? = some q := by
      have : (R.drop k)[0]? = some q := by rw [hk]; rfl
      rw [List.getElem?_drop] at this; exact this
    have hk2 : R.drop (k + 1) = Rs := by rw [← List.tail_drop, hk]; rfl
    have hI := ih (k + 1) hk2
    unfold f_recs at hI ⊢
    rw [f_hits, List.filter_cons]
    by_cases c : q.2.1 = dom ∧ q.1 = 2
    · rw [if_pos c, List.filter_cons]
      have hc : h_cnt R k = t_rec q.2.2.1 := by unfold h_cnt; rw [hq]
      rw [hc, decide_eq_true c.2, decide_eq_true c.1, Bool.true_and, Bool.true_and]
      by_cases c2 : t_rec q.2.2.1 = true
      · rw [if_pos c2, if_pos c2, List.filterMap_cons, hq, hI]
      · rw [if_neg c2, if_neg c2, hI]
    · rw [if_neg c, if_neg (by
        intro z
        have z1 := Bool.and_eq_true_iff.mp (Bool.and_eq_true_iff.mp z).1
        exact c ⟨of_decide_eq_true z1.2, of_decide_eq_true z1.1⟩), hI]
theorem e2_5 {E : ckE} {inn : List Nat → ckS → Nat × ckS} {dep : Nat} {dom : List Nat} {σ : ckS} (h : f_fine dom E.1 = false) : x_e2 E inn dep dom σ = (5, σ) := by
  unfold x_e2
  rw [f_ask_eq dom 2 E.1 0 0, if_neg (by rw [h]; decide)]
theorem e2_M {E : ckE} {inn : List Nat → ckS → Nat × ckS} {dep : Nat} {dom : List Nat} {σ : ckS} (h : f_fine dom E.1 = true) : x_e2 E inn dep dom σ = (match f_recs dom E.1 with
    | [] => (0, σ)
    | [q] => x_e3 E inn dep dom q.2.2.1 σ
    | _ => (6, σ)) := by
  unfold x_e2
  rw [f_ask_eq dom 2 E.1 0 0, if_pos h]
  cases f_recs dom E.1 with
  | nil => rfl
  | cons a l => cases l <;> rfl
theorem e2_0 {E : ckE} {inn : List Nat → ckS → Nat × ckS} {dep : Nat} {dom : List Nat} {σ : ckS} (h : f_fine dom E.1 = true) (hM : (f_hits dom 2 E.1 0).filter (h_cnt E.1) = []) : x_e2 E inn dep dom σ = (0, σ) := by
  rw [e2_M h, recs_eq (R := E.1) E.1 0 rfl, hM]; rfl
theorem e2_1 {E : ckE} {inn : List Nat → ckS → Nat × ckS} {dep r : Nat} {q : rowT} {dom : List Nat} {σ : ckS} (h : f_fine dom E.1 = true) (hM : (f_hits dom 2 E.1 0).filter (h_cnt E.1) = [r]) (hr : E.1[r]? = some q) : x_e2 E inn dep dom σ = x_e3 E inn dep dom q.2.2.1 σ := by
  rw [e2_M h, recs_eq (R := E.1) E.1 0 rfl, hM, List.filterMap_cons, hr]; rfl
theorem e2_6 {E : ckE} {inn : List Nat → ckS → Nat × ckS} {dep r1 r2 : Nat} {M : List Nat} {dom : List Nat} {σ : ckS} (h : f_fine dom E.1 = true) (hM : (f_hits dom 2 E.1 0).filter (h_cnt E.1) = r1 :: r2 :: M) : x_e2 E inn dep dom σ = (6, σ) := by
  have hm : ∀ x, x ∈ r1 :: r2 :: M → ∃ q, E.1[x]? = some q := fun x hx => by
    rw [← hM] at hx
    obtain ⟨q, hq, _⟩ := hits_mem (R := E.1) E.1 0 rfl x (List.mem_filter.mp hx).1
    exact ⟨q, hq⟩
  obtain ⟨q1, h1⟩ := hm r1 (by simp)
  obtain ⟨q2, h2⟩ := hm r2 (by simp)
  rw [e2_M h, recs_eq (R := E.1) E.1 0 rfl, hM, List.filterMap_cons, h1, List.filterMap_cons, h2]
theorem e3_t {E : ckE} {inn : List Nat → ckS → Nat × ckS} {dep : Nat} {dom D : List Nat} {σ : ckS} (h : t_al D = true) : x_e3 E inn dep dom D σ = x_tm E inn dep D dom (f_rt D D.length 6 (0, 0)) D.length 6 0 σ := by
  unfold x_e3
  rw [if_pos h]
  exact x_gt_tm D.length 6 0 (0, 0) σ (by omega)
theorem e3_f {E : ckE} {inn : List Nat → ckS → Nat × ckS} {dep : Nat} {dom D : List Nat} {σ : ckS} (h : t_al D = false) : x_e3 E inn dep dom D σ = (6, σ) := by
  unfold x_e3
  rw [if_neg (by rw [h]; decide)]
theorem rtl_al {D : List Nat} (hD : ∀ i, i < D.length → 32 ≤ gl D i) : r_tl D D.length 6 (0, 0) = cond (t_al D) (some (f_rt D D.length 6 (0, 0))) none :=
  r_tl_eq hD D.length 6 0 (0, 0) (by omega) ⟨fun q => absurd q (by decide), fun q => absurd q (by decide)⟩ (by omega)
theorem gl_mid (a b : List Nat) (h : Nat) : gl (a ++ h :: b) a.length = h := by
  unfold gl
  simp [List.getD]
theorem isStk_m {s s' : mg_s} {F A : List Nat} {fs : List frT} (h : isStk s fs) (m : mfr s s' F A) (hA : ∀ a ∈ A, a < 144 ∨ (146 < a ∧ a < 154) ∨ 162 < a) : isStk s' fs :=
  isStk_of fs h (fun k a _ q1 q2 => congrFun (m.2.2.1 a (fun q => by have := hA a q; omega)) k) (fun i _ => congrFun (m.2.2.1 154 (fun q => by have := hA 154 q; omega)) i) (fun a q1 q2 => m.2.2.1 a (fun q => by have := hA a q; omega))
theorem kOut_le {s : mg_s} {E : ckE} {fin : Nat × ckS} {μ μ' : Nat} (h : kOut s E fin μ) (hm : μ ≤ μ') : kOut s E fin μ' := h.imp id (fun ⟨f, fs, σ, a1, a2, a3, a4, a5, a6, a7⟩ => ⟨f, fs, σ, a1, a2, a3, a4, a5, Nat.le_trans a6 hm, a7⟩)
theorem isSg_ask {s s' : mg_s} {σ : ckS} {nm : List Nat} {F A : List Nat} (h : isSg s σ) (m : mfr s s' F A) (h1 : ∀ k ∈ [37, 38, 39, 40], k ∉ F) (h14 : s'.1 141 14 = 1) (h12 : s'.1 141 12 = nI nm.length) (hh : holdA s' 149 0 nm) (hn : 1 ≤ nm.length) : isSg s' (st_ask σ nm σ.2.1) :=
  ⟨(m.2.1 37 (h1 37 (by decide))).trans h.1, (m.2.1 38 (h1 38 (by decide))).trans h.2.1, (m.2.1 39 (h1 39 (by decide))).trans h.2.2.1, (m.2.1 40 (h1 40 (by decide))).trans h.2.2.2.1, fun q => by change nm = [] at q; subst q; exact absurd hn (by decide), fun _ => ⟨h14, h12, hh⟩⟩
section KB
variable {L : Nat} {xs : Nat → Int32} {d : Nat} {s : mg_s} {E : ckE} {dom : List Nat} {hs : List Nat} {Q : Option Value → mg_s → Prop}
theorem md_fr_l {f : Nat} {R : List rowT} (hf : f < 13) (hH : ∀ h, h ∈ hs → ∃ q, R[h]? = some q ∧ q.2.1 = dom ∧ q.1 = 2) (hs16 : hs.length ≤ 16) : ∀ (hs2 hs1 M : List Nat) (s : mg_s), hs1 ++ hs2 = hs → M.length ≤ hs1.length → isTabM s R → isHit s hs → (∀ r, M.getLast? = some r → s.2.1 156 f = nI r) → (∀ s', mfr s s' [] [156] → (∀ a k, ¬ k = f → s'.2.1 a k = s.2.1 a k) → (∀ r, (M ++ hs2.filter (h_cnt R)).getLast? = some r → s'.2.1 156 f = nI r) → wp L xs (d + 3) 120 60 [some (.ref 141), some (.int (nI f)), some (.int (nI ((M ++ hs2.filter (h_cnt R)).length))), some (.int (nI hs.length))] [] s' Q) → wp L xs (d + 3) 120 18 [some (.ref 141), some (.int (nI f)), some (.int (nI M.length)), some (.int (nI hs1.length))] [] s Q := by
  intro hs2
  induction hs2 with
  | nil =>
    intro hs1 M s he hM T hh hl k
    rw [List.append_nil] at he
    subst he
    refine wg_iload_n (d120_18 L xs) rfl ?_
    refine wg_aload_n (d120_19 L xs) rfl ?_
    refine wg_get (d120_20 L xs) (kd := 1) (cj := 9) (k0 := 15) rfl (Or.inl rfl) (by decide) rfl rfl ?_
    refine wg_top (y := (nI hs1.length)) hh.1 ?_
    refine wn_icmp_ge (d120_23 L xs) (x := hs1.length) (y := hs1.length) (by omega) (by omega) (t := 60) (by decide) (fun h1 => ?_) (fun h1 => by omega)
    have h := k s (mfr.rf s _ _) (fun _ _ _ => rfl) (by rw [List.filter_nil, List.append_nil]; exact hl)
    rw [List.filter_nil, List.append_nil] at h
    exact h
  | cons h hs2 ih =>
    intro hs1 M s he hM T hh hl k
    have hlen : hs1.length + (hs2.length + 1) = hs.length := by rw [← he, List.length_append]; rfl
    have hgl : gl hs hs1.length = h := by rw [← he]; exact gl_mid _ _ _
    obtain ⟨q, hq, hqn, hq2⟩ := hH h (by rw [← he]; exact List.mem_append_right _ (List.mem_cons_self ..))
    have hR := isRec_tab T hq (by omega)
    have hh16 := hR.1
    have hcb := bI_lt (t_rec q.2.2.1)
    have hc : h_cnt R h = t_rec q.2.2.1 := by unfold h_cnt; rw [hq]
    have hlen1 : (hs1 ++ [h]).length = hs1.length + 1 := by rw [List.length_append]; rfl
    refine wg_iload_n (d120_18 L xs) rfl ?_
    refine wg_aload_n (d120_19 L xs) rfl ?_
    refine wg_get (d120_20 L xs) (kd := 1) (cj := 9) (k0 := 15) rfl (Or.inl rfl) (by decide) rfl rfl ?_
    refine wg_top (y := (nI hs.length)) hh.1 ?_
    refine wn_icmp_ge (d120_23 L xs) (x := hs1.length) (y := hs.length) (by omega) (by omega) (t := 60) (by decide) (fun h1 => by omega) (fun h1 => ?_)
    refine wg_aload_n (d120_26 L xs) rfl ?_
    refine wg_aload_n (d120_27 L xs) rfl ?_
    refine wg_get (d120_28 L xs) (kd := 1) (cj := 9) (k0 := 16) rfl (Or.inl rfl) (by decide) rfl rfl ?_
    refine wg_iload_n (d120_31 L xs) rfl ?_
    refine wg_iald (d120_32 L xs) (n := 16) (by decide) rfl (vp_in_nI (n := hs1.length) (by omega) (by omega)) ?_
    refine wg_top (y := (nI h)) (by rw [nI_nat (n := hs1.length) (by omega)]; exact (by have := hh.2 hs1.length (by omega); rw [hgl] at this; exact this)) ?_
    refine wg_invv (d120_33 L xs) (kd := 7) (mj := 123) (n := 1) rfl (Or.inl rfl) (ys := [.int (nI h)]) (r := []) rfl rfl (by decide) rfl rfl (Nat.le_of_ble_eq_true rfl) (md_counts hR) ?_
    rintro _ _ ⟨rfl, rfl⟩
    refine wn_if_eq (d120_36 L xs) (x := bI (t_rec q.2.2.1)) (by omega) (t := 54) (by decide) (fun h2 => ?_) (fun h2 => ?_)
    · refine wg_iinc (d120_54 L xs) (y := (nI (hs1.length + 1))) (ls' := [some (.ref 141), some (.int (nI f)), some (.int (nI M.length)), some (.int (nI (hs1.length + 1)))]) rfl (nI_add hs1.length 1) rfl ?_
      refine wg_goto (d120_57 L xs) (t := 18) (by decide) ?_
      have hcf : h_cnt R h = false := hc.trans (bI_f (b := t_rec q.2.2.1) (by omega))
      have e0 : (h :: hs2).filter (h_cnt R) = hs2.filter (h_cnt R) := by rw [List.filter_cons, if_neg (by rw [hcf]; decide)]
      rw [e0] at k
      have h0 := ih (hs1 ++ [h]) M s (by rw [List.append_assoc]; exact he) (by omega) T hh hl k
      rw [hlen1] at h0
      exact h0
    · refine wg_iinc (d120_39 L xs) (y := (nI (M.length + 1))) (ls' := [some (.ref 141), some (.int (nI f)), some (.int (nI (M.length + 1))), some (.int (nI hs1.length))]) rfl (nI_add M.length 1) rfl ?_
      refine wg_aload_n (d120_42 L xs) rfl ?_
      refine wg_get (d120_43 L xs) (kd := 1) (cj := 9) (k0 := 26) rfl (Or.inl rfl) (by decide) rfl rfl ?_
      refine wg_iload_n (d120_46 L xs) rfl ?_
      refine wg_aload_n (d120_47 L xs) rfl ?_
      refine wg_get (d120_48 L xs) (kd := 1) (cj := 9) (k0 := 16) rfl (Or.inl rfl) (by decide) rfl rfl ?_
      refine wg_iload_n (d120_51 L xs) rfl ?_
      refine wg_iald (d120_52 L xs) (n := 16) (by decide) rfl (vp_in_nI (n := hs1.length) (by omega) (by omega)) ?_
      refine wg_top (y := (nI h)) (by rw [nI_nat (n := hs1.length) (by omega)]; exact (by have := hh.2 hs1.length (by omega); rw [hgl] at this; exact this)) ?_
      refine wg_iast (d120_53 L xs) (n := 13) (by decide) rfl (vp_in_nI (n := f) (by omega) (by omega)) rfl ?_
      rw [nI_nat (n := f) (by omega)]
      refine wg_iinc (d120_54 L xs) (y := (nI (hs1.length + 1))) (ls' := [some (.ref 141), some (.int (nI f)), some (.int (nI (M.length + 1))), some (.int (nI (hs1.length + 1)))]) rfl (nI_add hs1.length 1) rfl ?_
      refine wg_goto (d120_57 L xs) (t := 18) (by decide) ?_
      have hct : h_cnt R h = true := hc.trans (bI_t (b := t_rec q.2.2.1) (by omega))
      have e0 : M ++ (h :: hs2).filter (h_cnt R) = (M ++ [h]) ++ hs2.filter (h_cnt R) := by rw [List.filter_cons, if_pos hct, List.append_assoc]; rfl
      rw [e0] at k
      have h0 := ih (hs1 ++ [h]) (M ++ [h]) (mg_A s 156 f (nI h)) (by rw [List.append_assoc]; exact he) (by rw [List.length_append, List.length_append]; show M.length + 1 ≤ hs1.length + 1; omega) (isTabM_of T rfl (fun a q1 q2 => by show (if a = 156 then _ else _) = _; rw [if_neg (by omega)])) ⟨hh.1, hh.2⟩ (fun r hr => by rw [List.getLast?_concat] at hr; cases hr; exact mA_at _ _ _ _) (fun s' m1 m2 m3 => k s' ((mfr_A s (by decide)).trans m1) (fun a j hj => (m2 a j hj).trans (mA_ne _ _ (Or.inr hj))) m3)
      rw [hlen1, show (M ++ [h]).length = M.length + 1 by rw [List.length_append]; rfl] at h0
      exact h0
theorem hits_len {m : List Nat} {kd : Nat} : ∀ (R : List rowT) (k : Nat) {n : Nat}, R.length ≤ n → (f_hits m kd R k).length ≤ n := by
  intro R
  induction R with
  | nil => intro k n _; exact Nat.zero_le _
  | cons q R ih =>
    intro k n h
    change R.length + 1 ≤ n at h
    rw [f_hits]
    have := ih (k + 1) (n := n - 1) (by omega)
    split
    · show (f_hits m kd R (k + 1)).length + 1 ≤ n; omega
    · omega
theorem hits_flen {R : List rowT} {dom : List Nat} (h : R.length ≤ 16) : ((f_hits dom 2 R 0).filter (h_cnt R)).length ≤ 16 := Nat.le_trans (List.length_filter_le _ _) (hits_len R 0 h)
theorem md_find {fs : List frT} {how sg : Nat} {σ : ckS} (hE : isE s E) (h10 : s.1 141 10 = nI dom.length) (hnm : holdA s 148 0 dom) (hN : t_name (gl dom) 0 dom.length = true) (h55 : s.2.1 155 fs.length = nI dom.length) (h54 : ∀ i, i < dom.length → s.2.1 154 (48 * fs.length + i) = nI (gl dom i)) (h62 : s.2.1 162 fs.length = nI 0) (h23 : s.1 141 23 = nI (fs.length + 1)) (h60 : s.2.1 160 fs.length = nI how) (h61 : s.2.1 161 fs.length = nI sg) (hh2 : how ≤ 2) (hh0 : how = 0 ↔ fs.length = 0) (hsg1 : how = 1 → 1 ≤ sg) (hsg4 : sg ≤ 4) (hn1 : how = 1 → ∀ g gs, fs = g :: gs → 1 ≤ fr_n g) (hst : isStk s fs) (hsg : isSg s σ) (hok : okS σ) (hdp : fs.length ≤ σ.1) : ca L xs (d + 7) 120 [.ref 141, .int (nI fs.length)] s (fun r s' => r = none ∧ mfr s s' kF kA ∧ kOut s' E (k_ret E fs how sg (x_e2 E (k_in E fs.length) fs.length dom (st_ask σ dom σ.2.1))) (2 * (10 - σ.1) + (fs.length + 1))) := by
  refine wg_call (Nat.le_of_ble_eq_true rfl) ?_
  have hl10 := hok.1
  have hnl := t_name_len hN
  have hR16 := hE.1.2.1
  show wp L xs (d + 6) 120 0 [some (.ref 141), some (.int (nI fs.length)), none, none] [] s _
  cases hfi : f_fine dom E.1 with
  | false =>
    refine wg_aload_n (d120_0 L xs) rfl ?_
    refine wg_iconst (d120_1 L xs) (x := 2) (by decide) ?_
    refine wg_invv (d120_2 L xs) (kd := 7) (mj := 121) (n := 1) rfl (Or.inl rfl) (ys := [.int 2]) (r := []) rfl rfl (by decide) rfl rfl (Nat.le_of_ble_eq_true rfl) (by have h := md_ask (L := L) (xs := xs) (d := d + 4) (kd := 2) hE.1 h10 hnm (by omega) (by omega); rw [hfi] at h; exact h) ?_
    rintro _ s1 ⟨rfl, hm1, a14, a12, a49, aH⟩
    have hsg1s := isSg_ask hsg hm1 (by decide) a14 a12 a49 (by omega)
    refine wg_if_ne (d120_5 L xs) (t := 14) (by decide) (fun hp => absurd hp (by decide)) (fun _ => ?_)
    refine wg_aload_n (d120_8 L xs) rfl ?_
    refine wg_iconst (d120_9 L xs) (x := 5) (by decide) ?_
    refine wg_invv (d120_10 L xs) (kd := 7) (mj := 119) (n := 1) rfl (Or.inl rfl) (ys := [.int 5]) (r := []) rfl rfl (by decide) rfl rfl (Nat.le_of_ble_eq_true rfl) (md_end) ?_
    rintro _ _ ⟨rfl, rfl⟩
    exact wg_vret (d120_13 L xs) rfl ⟨rfl, ((hm1.more (by decide) (by decide)).trans ((mfr_I s1 (by decide)).trans (mfr_I _ (by decide)))), by rw [e2_5 hfi, k_ret_err (show 5 ≤ 5 by omega)]; exact Or.inl ⟨rfl, rfl, isSg_I (isSg_I hsg1s (by decide)) (by decide)⟩⟩
  | true =>
    refine wg_aload_n (d120_0 L xs) rfl ?_
    refine wg_iconst (d120_1 L xs) (x := 2) (by decide) ?_
    refine wg_invv (d120_2 L xs) (kd := 7) (mj := 121) (n := 1) rfl (Or.inl rfl) (ys := [.int 2]) (r := []) rfl rfl (by decide) rfl rfl (Nat.le_of_ble_eq_true rfl) (by have h := md_ask (L := L) (xs := xs) (d := d + 4) (kd := 2) hE.1 h10 hnm (by omega) (by omega); rw [hfi] at h; exact h) ?_
    rintro _ s1 ⟨rfl, hm1, a14, a12, a49, aH⟩
    have hsg1s := isSg_ask hsg hm1 (by decide) a14 a12 a49 (by omega)
    refine wg_if_ne (d120_5 L xs) (t := 14) (by decide) (fun _ => ?_) (fun hn => absurd (by decide) hn)
    refine wg_iconst (d120_14 L xs) (x := 0) (by decide) ?_
    refine wg_istore_n (d120_15 L xs) (ls' := [some (.ref 141), some (.int (nI fs.length)), some (.int 0), none]) (Nat.le_of_ble_eq_true rfl) rfl ?_
    refine wg_iconst (d120_16 L xs) (x := 0) (by decide) ?_
    refine wg_istore_n (d120_17 L xs) (ls' := [some (.ref 141), some (.int (nI fs.length)), some (.int 0), some (.int 0)]) (Nat.le_of_ble_eq_true rfl) rfl ?_
    have T1 := (isE_of hE hm1 (by decide) (by decide)).1
    have hlenH : (f_hits dom 2 E.1 0).length ≤ 16 := hits_len E.1 0 hR16
    refine md_fr_l (dom := dom) (R := E.1) (hs := f_hits dom 2 E.1 0) (by omega) (hits_mem E.1 0 rfl) hlenH (f_hits dom 2 E.1 0) [] [] s1 rfl (Nat.le_refl _) T1 aH (fun r hr => by cases hr) ?_
    intro s2 hm2 hk2 hlast
    rw [List.nil_append] at hlast ⊢
    have hm12 := (hm1.more (F' := kF) (A' := kA) (by decide) (by decide)).trans (hm2.more (by decide) (by decide))
    have hsg2 : isSg s2 (st_ask σ dom σ.2.1) := isSg_of hsg1s hm2 (by decide) (by decide)
    have hst2 : isStk s2 fs := isStk_of fs (isStk_m hst hm1 (by decide)) (fun k a q0 _ _ => hk2 a k (by omega)) (fun i _ => congrFun (hm2.2.2.1 154 (by decide)) i) (fun a q1 q2 => hm2.2.2.1 a (by intro q; have := List.mem_singleton.mp q; omega))
    have b23 : s2.1 141 23 = nI (fs.length + 1) := ((hm2.2.1 23 (by decide)).trans (hm1.2.1 23 (by decide))).trans h23
    have bc : ∀ a, ¬ a = 149 → ¬ a = 150 → ¬ a = 156 → s2.2.1 a = s.2.1 a := fun a q1 q2 q3 => (hm2.2.2.1 a (by intro q; exact q3 (List.mem_singleton.mp q))).trans (hm1.2.2.1 a (by intro q; rcases List.mem_cons.mp q with e | e; exact q1 e; exact q2 (List.mem_singleton.mp e)))
    have b60 : s2.2.1 160 fs.length = nI how := (congrFun (bc 160 (by omega) (by omega) (by omega)) _).trans h60
    have b61 : s2.2.1 161 fs.length = nI sg := (congrFun (bc 161 (by omega) (by omega) (by omega)) _).trans h61
    cases hM : (f_hits dom 2 E.1 0).filter (h_cnt E.1) with
    | nil =>
      refine wg_iload_n (d120_60 L xs) rfl ?_
      refine wg_iconst (d120_61 L xs) (x := 1) (by decide) ?_
      refine wg_icmp_le (d120_62 L xs) (t := 74) (by decide) (fun _ => ?_) (fun hn => absurd (by decide) hn)
      refine wg_iload_n (d120_74 L xs) rfl ?_
      refine wg_if_ne (d120_75 L xs) (t := 86) (by decide) (fun hp => absurd hp (by decide)) (fun _ => ?_)
      refine wg_aload_n (d120_78 L xs) rfl ?_
      refine wg_iconst (d120_79 L xs) (x := 0) (by decide) ?_
      refine wg_invv (d120_80 L xs) (kd := 7) (mj := 118) (n := 1) rfl (Or.inl rfl) (ys := [.int 0]) (r := []) rfl rfl (by decide) rfl rfl (Nat.le_of_ble_eq_true rfl) (md_comes (E := E) (fs := fs) (how := how) (sg := sg) (x := 0) (σ := st_ask σ dom σ.2.1) b23 b60 b61 hh2 hh0 hsg1 hsg4 hn1 hst2 hsg2 hok (by omega) hdp) ?_
      rintro _ s3 ⟨rfl, hm3, hko⟩
      refine wg_goto (d120_83 L xs) (t := 100) (by decide) ?_
      exact wg_vret (d120_100 L xs) rfl ⟨rfl, hm12.trans (hm3.more (by decide) (by decide)), by rw [e2_0 hfi hM]; exact kOut_le hko (by show 2 * (10 - σ.1) + fs.length ≤ _; omega)⟩
    | cons r1 M =>
      cases M with
      | nil =>
        obtain ⟨q, hq, hqn, hq2⟩ := hits_mem (R := E.1) E.1 0 rfl r1 (List.mem_filter.mp (by rw [hM]; exact List.mem_cons_self ..)).1
        have hrec : t_rec q.2.2.1 = true := by
          have := (List.mem_filter.mp (show r1 ∈ (f_hits dom 2 E.1 0).filter (h_cnt E.1) by rw [hM]; exact List.mem_cons_self ..)).2
          unfold h_cnt at this; rw [hq] at this; exact this
        have T2 := (isE_of hE hm12 (fun _ h => h) (fun _ h => h)).1
        have hR3 : isRec s2 r1 (dom.length + 1) q.2.2.1 := by have := isRec_tab T2 hq (by omega); rw [hqn] at this; exact this
        have h56 : s2.2.1 156 fs.length = nI r1 := hlast r1 (by rw [hM]; rfl)
        have hD : ∀ i, i < q.2.2.1.length → 32 ≤ gl q.2.2.1 i := fun i hi => rec_ge hR3 hi
        have hrt := rtl_al hD
        show wp L xs (d + 6) 120 60 [some (.ref 141), some (.int (nI fs.length)), some (.int 1), some (.int (nI (f_hits dom 2 E.1 0).length))] [] s2 _
        refine wg_iload_n (d120_60 L xs) rfl ?_
        refine wg_iconst (d120_61 L xs) (x := 1) (by decide) ?_
        refine wg_icmp_le (d120_62 L xs) (t := 74) (by decide) (fun _ => ?_) (fun hn => absurd (by decide) hn)
        refine wg_iload_n (d120_74 L xs) rfl ?_
        refine wg_if_ne (d120_75 L xs) (t := 86) (by decide) (fun _ => ?_) (fun hn => absurd (by decide) hn)
        refine wg_aload_n (d120_86 L xs) rfl ?_
        refine wg_iload_n (d120_87 L xs) rfl ?_
        refine wg_invv (d120_88 L xs) (kd := 7) (mj := 126) (n := 1) rfl (Or.inl rfl) (ys := [.int (nI fs.length)]) (r := []) rfl rfl (by decide) rfl rfl (Nat.le_of_ble_eq_true rfl) (md_terms (f := fs.length) (by omega) (t_rec_6 hrec) hR3 h56) ?_
        rintro _ s3 ⟨rfl, hm3, hk3, h57, ho3⟩
        have hbb := bI_lt (r_tl q.2.2.1 q.2.2.1.length 6 (0, 0)).isSome
        refine wn_if_ne (d120_91 L xs) (x := bI (r_tl q.2.2.1 q.2.2.1.length 6 (0, 0)).isSome) (by omega) (t := 100) (by decide) (fun h23 => ?_) (fun h23 => ?_)
        · have ht : t_al q.2.2.1 = true := by
            cases ht : t_al q.2.2.1 with
            | true => rfl
            | false => rw [hrt, ht] at h23; exact absurd rfl h23
          have hrs : r_tl q.2.2.1 q.2.2.1.length 6 (0, 0) = some (f_rt q.2.2.1 q.2.2.1.length 6 (0, 0)) := by rw [hrt, ht]; rfl
          obtain ⟨o58, o59⟩ := ho3 _ hrs
          have hq1 := f_rt_ok (D := q.2.2.1) q.2.2.1.length 6 0 (0, 0) ht (fun z => absurd z (by decide))
          have h6 := t_rec_6 hrec
          have hc3 : ∀ a, ¬ a = 149 → ¬ a = 150 → ¬ a = 156 → ¬ a = 157 → ¬ a = 158 → ¬ a = 159 → s3.2.1 a = s.2.1 a := fun a q1 q2 q3 q4 q5 q6 => (hm3.2.2.1 a (by intro z; rcases List.mem_cons.mp z with e | z; exact q4 e; rcases List.mem_cons.mp z with e | z; exact q5 e; exact q6 (List.mem_singleton.mp z))).trans (bc a q1 q2 q3)
          refine wg_vret (d120_100 L xs) rfl ⟨rfl, hm12.trans (hm3.more (by decide) (by decide)), Or.inr ⟨(how, sg, dom, q.2.2.1, 6, 0, f_rt q.2.2.1 q.2.2.1.length 6 (0, 0)), fs, st_ask σ dom σ.2.1, (hm3.2.1 23 (by decide)).trans b23, ⟨⟨?_, ?_, ?_, ?_, ?_, o58, o59, ?_, r1, ?_, ?_⟩, ⟨hh2, hh0, hsg1, hsg4, hN, hnm.1, ?_, ⟨0, ht⟩, hq1⟩, hn1, ?_⟩, isSg_of hsg2 hm3 (by decide) (by decide), hok, ?_, Nat.le_refl _, hdp⟩⟩
          · exact (congrFun (hc3 160 (by omega) (by omega) (by omega) (by omega) (by omega) (by omega)) _).trans h60
          · exact (congrFun (hc3 161 (by omega) (by omega) (by omega) (by omega) (by omega) (by omega)) _).trans h61
          · exact (congrFun (hc3 155 (by omega) (by omega) (by omega) (by omega) (by omega) (by omega)) _).trans h55
          · exact (congrFun (hc3 162 (by omega) (by omega) (by omega) (by omega) (by omega) (by omega)) _).trans h62
          · exact h57
          · intro i hi; exact (congrFun (hc3 154 (by omega) (by omega) (by omega) (by omega) (by omega) (by omega)) _).trans (h54 i hi)
          · exact (congrFun (hm3.2.2.1 156 (by decide)) _).trans h56
          · exact isRec_of hR3 (hm3.2.2.1 144 (by decide)) (hm3.2.2.1 145 (by decide)) (hm3.2.2.1 146 (by decide))
          · show 6 ≤ q.2.2.1.length + 1; omega
          · exact isStk_of fs hst2 (fun k a q0 _ _ => hk3 a k (by omega)) (fun i _ => congrFun (hm3.2.2.1 154 (by decide)) i) (fun a q1 q2 => hm3.2.2.1 a (by intro z; rcases List.mem_cons.mp z with e | z; omega; rcases List.mem_cons.mp z with e | z; omega; have := List.mem_singleton.mp z; omega))
          · rw [e2_1 hfi hM hq, e3_t ht]; rfl
        · refine wg_aload_n (d120_94 L xs) rfl ?_
          refine wg_bipush (d120_95 L xs) (x := 6) (by decide) ?_
          refine wg_invv (d120_97 L xs) (kd := 7) (mj := 119) (n := 1) rfl (Or.inl rfl) (ys := [.int 6]) (r := []) rfl rfl (by decide) rfl rfl (Nat.le_of_ble_eq_true rfl) (md_end) ?_
          rintro _ _ ⟨rfl, rfl⟩
          exact wg_vret (d120_100 L xs) rfl ⟨rfl, (hm12.trans (hm3.more (by decide) (by decide))).trans ((mfr_I s3 (by decide)).trans (mfr_I _ (by decide))), by rw [e2_1 hfi hM hq, e3_f (by cases ht : t_al q.2.2.1 with | false => rfl | true => rw [hrt, ht] at h23; exact absurd (show (1 : Nat) = 0 from h23) (by decide)), k_ret_err (show 5 ≤ 6 by omega)]; exact Or.inl ⟨rfl, rfl, isSg_I (isSg_I (isSg_of hsg2 hm3 (by decide) (by decide)) (by decide)) (by decide)⟩⟩
      | cons r2 M =>
        have hMl := hM ▸ hits_flen (R := E.1) (dom := dom) hR16
        change M.length + 1 + 1 ≤ 16 at hMl
        refine wg_iload_n (d120_60 L xs) rfl ?_
        refine wg_iconst (d120_61 L xs) (x := 1) (by decide) ?_
        refine wn_icmp_le (d120_62 L xs) (x := M.length + 1 + 1) (y := 1) (by omega) (by omega) (t := 74) (by decide) (fun h21 => by omega) (fun h21 => ?_)
        refine wg_aload_n (d120_65 L xs) rfl ?_
        refine wg_bipush (d120_66 L xs) (x := 6) (by decide) ?_
        refine wg_invv (d120_68 L xs) (kd := 7) (mj := 119) (n := 1) rfl (Or.inl rfl) (ys := [.int 6]) (r := []) rfl rfl (by decide) rfl rfl (Nat.le_of_ble_eq_true rfl) (md_end) ?_
        rintro _ _ ⟨rfl, rfl⟩
        refine wg_goto (d120_71 L xs) (t := 100) (by decide) ?_
        exact wg_vret (d120_100 L xs) rfl ⟨rfl, hm12.trans ((mfr_I s2 (by decide)).trans (mfr_I _ (by decide))), by rw [e2_6 hfi hM, k_ret_err (show 5 ≤ 6 by omega)]; exact Or.inl ⟨rfl, rfl, isSg_I (isSg_I hsg2 (by decide)) (by decide)⟩⟩
end KB
