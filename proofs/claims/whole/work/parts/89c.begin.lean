/-! the reference: a check begins -/
theorem d117_0 (L : Nat) (xs : Nat → Int32) : decode (ax_code (mgT L xs) 117) 0 = .ok (.aload_n 0, 1) := by
  show decode prog_11_method_34_code 0 = _
  decide +kernel
theorem d117_1 (L : Nat) (xs : Nat → Int32) : decode (ax_code (mgT L xs) 117) 1 = .ok (.getfield 140, 3) := by
  show decode prog_11_method_34_code 1 = _
  decide +kernel
theorem d117_4 (L : Nat) (xs : Nat → Int32) : decode (ax_code (mgT L xs) 117) 4 = .ok (.istore_n 3, 1) := by
  show decode prog_11_method_34_code 4 = _
  decide +kernel
theorem d117_5 (L : Nat) (xs : Nat → Int32) : decode (ax_code (mgT L xs) 117) 5 = .ok (.aload_n 0, 1) := by
  show decode prog_11_method_34_code 5 = _
  decide +kernel
theorem d117_6 (L : Nat) (xs : Nat → Int32) : decode (ax_code (mgT L xs) 117) 6 = .ok (.dup, 1) := by
  show decode prog_11_method_34_code 6 = _
  decide +kernel
theorem d117_7 (L : Nat) (xs : Nat → Int32) : decode (ax_code (mgT L xs) 117) 7 = .ok (.getfield 140, 3) := by
  show decode prog_11_method_34_code 7 = _
  decide +kernel
theorem d117_10 (L : Nat) (xs : Nat → Int32) : decode (ax_code (mgT L xs) 117) 10 = .ok (.iconst 1, 1) := by
  show decode prog_11_method_34_code 10 = _
  decide +kernel
theorem d117_11 (L : Nat) (xs : Nat → Int32) : decode (ax_code (mgT L xs) 117) 11 = .ok (.iadd, 1) := by
  show decode prog_11_method_34_code 11 = _
  decide +kernel
theorem d117_12 (L : Nat) (xs : Nat → Int32) : decode (ax_code (mgT L xs) 117) 12 = .ok (.putfield 140, 3) := by
  show decode prog_11_method_34_code 12 = _
  decide +kernel
theorem d117_15 (L : Nat) (xs : Nat → Int32) : decode (ax_code (mgT L xs) 117) 15 = .ok (.aload_n 0, 1) := by
  show decode prog_11_method_34_code 15 = _
  decide +kernel
theorem d117_16 (L : Nat) (xs : Nat → Int32) : decode (ax_code (mgT L xs) 117) 16 = .ok (.dup, 1) := by
  show decode prog_11_method_34_code 16 = _
  decide +kernel
theorem d117_17 (L : Nat) (xs : Nat → Int32) : decode (ax_code (mgT L xs) 117) 17 = .ok (.getfield 203, 3) := by
  show decode prog_11_method_34_code 17 = _
  decide +kernel
theorem d117_20 (L : Nat) (xs : Nat → Int32) : decode (ax_code (mgT L xs) 117) 20 = .ok (.iconst 1, 1) := by
  show decode prog_11_method_34_code 20 = _
  decide +kernel
theorem d117_21 (L : Nat) (xs : Nat → Int32) : decode (ax_code (mgT L xs) 117) 21 = .ok (.iadd, 1) := by
  show decode prog_11_method_34_code 21 = _
  decide +kernel
theorem d117_22 (L : Nat) (xs : Nat → Int32) : decode (ax_code (mgT L xs) 117) 22 = .ok (.putfield 203, 3) := by
  show decode prog_11_method_34_code 22 = _
  decide +kernel
theorem d117_25 (L : Nat) (xs : Nat → Int32) : decode (ax_code (mgT L xs) 117) 25 = .ok (.aload_n 0, 1) := by
  show decode prog_11_method_34_code 25 = _
  decide +kernel
theorem d117_26 (L : Nat) (xs : Nat → Int32) : decode (ax_code (mgT L xs) 117) 26 = .ok (.getfield 49, 3) := by
  show decode prog_11_method_34_code 26 = _
  decide +kernel
theorem d117_29 (L : Nat) (xs : Nat → Int32) : decode (ax_code (mgT L xs) 117) 29 = .ok (.iload_n 3, 1) := by
  show decode prog_11_method_34_code 29 = _
  decide +kernel
theorem d117_30 (L : Nat) (xs : Nat → Int32) : decode (ax_code (mgT L xs) 117) 30 = .ok (.aload_n 0, 1) := by
  show decode prog_11_method_34_code 30 = _
  decide +kernel
theorem d117_31 (L : Nat) (xs : Nat → Int32) : decode (ax_code (mgT L xs) 117) 31 = .ok (.getfield 114, 3) := by
  show decode prog_11_method_34_code 31 = _
  decide +kernel
theorem d117_34 (L : Nat) (xs : Nat → Int32) : decode (ax_code (mgT L xs) 117) 34 = .ok (.iastore, 1) := by
  show decode prog_11_method_34_code 34 = _
  decide +kernel
theorem d117_35 (L : Nat) (xs : Nat → Int32) : decode (ax_code (mgT L xs) 117) 35 = .ok (.iconst 0, 1) := by
  show decode prog_11_method_34_code 35 = _
  decide +kernel
theorem d117_36 (L : Nat) (xs : Nat → Int32) : decode (ax_code (mgT L xs) 117) 36 = .ok (.istore 4, 2) := by
  show decode prog_11_method_34_code 36 = _
  decide +kernel
theorem d117_38 (L : Nat) (xs : Nat → Int32) : decode (ax_code (mgT L xs) 117) 38 = .ok (.iconst 0, 1) := by
  show decode prog_11_method_34_code 38 = _
  decide +kernel
theorem d117_39 (L : Nat) (xs : Nat → Int32) : decode (ax_code (mgT L xs) 117) 39 = .ok (.istore 5, 2) := by
  show decode prog_11_method_34_code 39 = _
  decide +kernel
theorem d117_41 (L : Nat) (xs : Nat → Int32) : decode (ax_code (mgT L xs) 117) 41 = .ok (.iload 5, 2) := by
  show decode prog_11_method_34_code 41 = _
  decide +kernel
theorem d117_43 (L : Nat) (xs : Nat → Int32) : decode (ax_code (mgT L xs) 117) 43 = .ok (.aload_n 0, 1) := by
  show decode prog_11_method_34_code 43 = _
  decide +kernel
theorem d117_44 (L : Nat) (xs : Nat → Int32) : decode (ax_code (mgT L xs) 117) 44 = .ok (.getfield 114, 3) := by
  show decode prog_11_method_34_code 44 = _
  decide +kernel
theorem d117_47 (L : Nat) (xs : Nat → Int32) : decode (ax_code (mgT L xs) 117) 47 = .ok (.if_icmp .ge 50, 3) := by
  show decode prog_11_method_34_code 47 = _
  decide +kernel
theorem d117_50 (L : Nat) (xs : Nat → Int32) : decode (ax_code (mgT L xs) 117) 50 = .ok (.aload_n 0, 1) := by
  show decode prog_11_method_34_code 50 = _
  decide +kernel
theorem d117_51 (L : Nat) (xs : Nat → Int32) : decode (ax_code (mgT L xs) 117) 51 = .ok (.getfield 46, 3) := by
  show decode prog_11_method_34_code 51 = _
  decide +kernel
theorem d117_54 (L : Nat) (xs : Nat → Int32) : decode (ax_code (mgT L xs) 117) 54 = .ok (.bipush 48, 2) := by
  show decode prog_11_method_34_code 54 = _
  decide +kernel
theorem d117_56 (L : Nat) (xs : Nat → Int32) : decode (ax_code (mgT L xs) 117) 56 = .ok (.iload_n 3, 1) := by
  show decode prog_11_method_34_code 56 = _
  decide +kernel
theorem d117_57 (L : Nat) (xs : Nat → Int32) : decode (ax_code (mgT L xs) 117) 57 = .ok (.imul, 1) := by
  show decode prog_11_method_34_code 57 = _
  decide +kernel
theorem d117_58 (L : Nat) (xs : Nat → Int32) : decode (ax_code (mgT L xs) 117) 58 = .ok (.iload 5, 2) := by
  show decode prog_11_method_34_code 58 = _
  decide +kernel
theorem d117_60 (L : Nat) (xs : Nat → Int32) : decode (ax_code (mgT L xs) 117) 60 = .ok (.iadd, 1) := by
  show decode prog_11_method_34_code 60 = _
  decide +kernel
theorem d117_61 (L : Nat) (xs : Nat → Int32) : decode (ax_code (mgT L xs) 117) 61 = .ok (.aload_n 0, 1) := by
  show decode prog_11_method_34_code 61 = _
  decide +kernel
theorem d117_62 (L : Nat) (xs : Nat → Int32) : decode (ax_code (mgT L xs) 117) 62 = .ok (.getfield 28, 3) := by
  show decode prog_11_method_34_code 62 = _
  decide +kernel
theorem d117_65 (L : Nat) (xs : Nat → Int32) : decode (ax_code (mgT L xs) 117) 65 = .ok (.iload 5, 2) := by
  show decode prog_11_method_34_code 65 = _
  decide +kernel
theorem d117_67 (L : Nat) (xs : Nat → Int32) : decode (ax_code (mgT L xs) 117) 67 = .ok (.iaload, 1) := by
  show decode prog_11_method_34_code 67 = _
  decide +kernel
theorem d117_68 (L : Nat) (xs : Nat → Int32) : decode (ax_code (mgT L xs) 117) 68 = .ok (.iastore, 1) := by
  show decode prog_11_method_34_code 68 = _
  decide +kernel
theorem d117_69 (L : Nat) (xs : Nat → Int32) : decode (ax_code (mgT L xs) 117) 69 = .ok (.iload 4, 2) := by
  show decode prog_11_method_34_code 69 = _
  decide +kernel
theorem d117_71 (L : Nat) (xs : Nat → Int32) : decode (ax_code (mgT L xs) 117) 71 = .ok (.aload_n 0, 1) := by
  show decode prog_11_method_34_code 71 = _
  decide +kernel
theorem d117_72 (L : Nat) (xs : Nat → Int32) : decode (ax_code (mgT L xs) 117) 72 = .ok (.getfield 28, 3) := by
  show decode prog_11_method_34_code 72 = _
  decide +kernel
theorem d117_75 (L : Nat) (xs : Nat → Int32) : decode (ax_code (mgT L xs) 117) 75 = .ok (.iload 5, 2) := by
  show decode prog_11_method_34_code 75 = _
  decide +kernel
theorem d117_77 (L : Nat) (xs : Nat → Int32) : decode (ax_code (mgT L xs) 117) 77 = .ok (.iaload, 1) := by
  show decode prog_11_method_34_code 77 = _
  decide +kernel
theorem d117_78 (L : Nat) (xs : Nat → Int32) : decode (ax_code (mgT L xs) 117) 78 = .ok (.bipush 46, 2) := by
  show decode prog_11_method_34_code 78 = _
  decide +kernel
theorem d117_80 (L : Nat) (xs : Nat → Int32) : decode (ax_code (mgT L xs) 117) 80 = .ok (.if_icmp .ne 7, 3) := by
  show decode prog_11_method_34_code 80 = _
  decide +kernel
theorem d117_83 (L : Nat) (xs : Nat → Int32) : decode (ax_code (mgT L xs) 117) 83 = .ok (.iconst 1, 1) := by
  show decode prog_11_method_34_code 83 = _
  decide +kernel
theorem d117_84 (L : Nat) (xs : Nat → Int32) : decode (ax_code (mgT L xs) 117) 84 = .ok (.goto 4, 3) := by
  show decode prog_11_method_34_code 84 = _
  decide +kernel
theorem d117_87 (L : Nat) (xs : Nat → Int32) : decode (ax_code (mgT L xs) 117) 87 = .ok (.iconst 0, 1) := by
  show decode prog_11_method_34_code 87 = _
  decide +kernel
theorem d117_88 (L : Nat) (xs : Nat → Int32) : decode (ax_code (mgT L xs) 117) 88 = .ok (.iadd, 1) := by
  show decode prog_11_method_34_code 88 = _
  decide +kernel
theorem d117_89 (L : Nat) (xs : Nat → Int32) : decode (ax_code (mgT L xs) 117) 89 = .ok (.istore 4, 2) := by
  show decode prog_11_method_34_code 89 = _
  decide +kernel
theorem d117_91 (L : Nat) (xs : Nat → Int32) : decode (ax_code (mgT L xs) 117) 91 = .ok (.iinc 5 1, 3) := by
  show decode prog_11_method_34_code 91 = _
  decide +kernel
theorem d117_94 (L : Nat) (xs : Nat → Int32) : decode (ax_code (mgT L xs) 117) 94 = .ok (.goto (-53), 3) := by
  show decode prog_11_method_34_code 94 = _
  decide +kernel
theorem d117_97 (L : Nat) (xs : Nat → Int32) : decode (ax_code (mgT L xs) 117) 97 = .ok (.aload_n 0, 1) := by
  show decode prog_11_method_34_code 97 = _
  decide +kernel
theorem d117_98 (L : Nat) (xs : Nat → Int32) : decode (ax_code (mgT L xs) 117) 98 = .ok (.getfield 64, 3) := by
  show decode prog_11_method_34_code 98 = _
  decide +kernel
theorem d117_101 (L : Nat) (xs : Nat → Int32) : decode (ax_code (mgT L xs) 117) 101 = .ok (.iload_n 3, 1) := by
  show decode prog_11_method_34_code 101 = _
  decide +kernel
theorem d117_102 (L : Nat) (xs : Nat → Int32) : decode (ax_code (mgT L xs) 117) 102 = .ok (.iload_n 1, 1) := by
  show decode prog_11_method_34_code 102 = _
  decide +kernel
theorem d117_103 (L : Nat) (xs : Nat → Int32) : decode (ax_code (mgT L xs) 117) 103 = .ok (.iastore, 1) := by
  show decode prog_11_method_34_code 103 = _
  decide +kernel
theorem d117_104 (L : Nat) (xs : Nat → Int32) : decode (ax_code (mgT L xs) 117) 104 = .ok (.aload_n 0, 1) := by
  show decode prog_11_method_34_code 104 = _
  decide +kernel
theorem d117_105 (L : Nat) (xs : Nat → Int32) : decode (ax_code (mgT L xs) 117) 105 = .ok (.getfield 67, 3) := by
  show decode prog_11_method_34_code 105 = _
  decide +kernel
theorem d117_108 (L : Nat) (xs : Nat → Int32) : decode (ax_code (mgT L xs) 117) 108 = .ok (.iload_n 3, 1) := by
  show decode prog_11_method_34_code 108 = _
  decide +kernel
theorem d117_109 (L : Nat) (xs : Nat → Int32) : decode (ax_code (mgT L xs) 117) 109 = .ok (.iload_n 2, 1) := by
  show decode prog_11_method_34_code 109 = _
  decide +kernel
theorem d117_110 (L : Nat) (xs : Nat → Int32) : decode (ax_code (mgT L xs) 117) 110 = .ok (.iastore, 1) := by
  show decode prog_11_method_34_code 110 = _
  decide +kernel
theorem d117_111 (L : Nat) (xs : Nat → Int32) : decode (ax_code (mgT L xs) 117) 111 = .ok (.aload_n 0, 1) := by
  show decode prog_11_method_34_code 111 = _
  decide +kernel
theorem d117_112 (L : Nat) (xs : Nat → Int32) : decode (ax_code (mgT L xs) 117) 112 = .ok (.getfield 70, 3) := by
  show decode prog_11_method_34_code 112 = _
  decide +kernel
theorem d117_115 (L : Nat) (xs : Nat → Int32) : decode (ax_code (mgT L xs) 117) 115 = .ok (.iload_n 3, 1) := by
  show decode prog_11_method_34_code 115 = _
  decide +kernel
theorem d117_116 (L : Nat) (xs : Nat → Int32) : decode (ax_code (mgT L xs) 117) 116 = .ok (.iconst 0, 1) := by
  show decode prog_11_method_34_code 116 = _
  decide +kernel
theorem d117_117 (L : Nat) (xs : Nat → Int32) : decode (ax_code (mgT L xs) 117) 117 = .ok (.iastore, 1) := by
  show decode prog_11_method_34_code 117 = _
  decide +kernel
theorem d117_118 (L : Nat) (xs : Nat → Int32) : decode (ax_code (mgT L xs) 117) 118 = .ok (.iload 4, 2) := by
  show decode prog_11_method_34_code 118 = _
  decide +kernel
theorem d117_120 (L : Nat) (xs : Nat → Int32) : decode (ax_code (mgT L xs) 117) 120 = .ok (.ifCond .ne 11, 3) := by
  show decode prog_11_method_34_code 120 = _
  decide +kernel
theorem d117_123 (L : Nat) (xs : Nat → Int32) : decode (ax_code (mgT L xs) 117) 123 = .ok (.aload_n 0, 1) := by
  show decode prog_11_method_34_code 123 = _
  decide +kernel
theorem d117_124 (L : Nat) (xs : Nat → Int32) : decode (ax_code (mgT L xs) 117) 124 = .ok (.iconst 0, 1) := by
  show decode prog_11_method_34_code 124 = _
  decide +kernel
theorem d117_125 (L : Nat) (xs : Nat → Int32) : decode (ax_code (mgT L xs) 117) 125 = .ok (.invokevirtual 206, 3) := by
  show decode prog_11_method_34_code 125 = _
  decide +kernel
theorem d117_128 (L : Nat) (xs : Nat → Int32) : decode (ax_code (mgT L xs) 117) 128 = .ok (.goto 8, 3) := by
  show decode prog_11_method_34_code 128 = _
  decide +kernel
theorem d117_131 (L : Nat) (xs : Nat → Int32) : decode (ax_code (mgT L xs) 117) 131 = .ok (.aload_n 0, 1) := by
  show decode prog_11_method_34_code 131 = _
  decide +kernel
theorem d117_132 (L : Nat) (xs : Nat → Int32) : decode (ax_code (mgT L xs) 117) 132 = .ok (.iload_n 3, 1) := by
  show decode prog_11_method_34_code 132 = _
  decide +kernel
theorem d117_133 (L : Nat) (xs : Nat → Int32) : decode (ax_code (mgT L xs) 117) 133 = .ok (.invokevirtual 209, 3) := by
  show decode prog_11_method_34_code 133 = _
  decide +kernel
theorem d117_136 (L : Nat) (xs : Nat → Int32) : decode (ax_code (mgT L xs) 117) 136 = .ok (.return_, 1) := by
  show decode prog_11_method_34_code 136 = _
  decide +kernel
def f_dots (g : Nat → Nat) : Nat → Nat → Nat
  | _, 0 => 0
  | k, q + 1 => (if g k = 46 then 1 else 0) + f_dots g (k + 1) q
theorem dots_z {g : Nat → Nat} : ∀ (q k : Nat), f_dots g k q = 0 ↔ ∀ j, k ≤ j → j < k + q → ¬ g j = 46 := by
  intro q
  induction q with
  | zero => intro k; exact ⟨fun _ j h1 h2 => by omega, fun _ => rfl⟩
  | succ q ih =>
    intro k
    rw [f_dots]
    constructor
    · intro h j h1 h2
      by_cases e : g k = 46
      · rw [if_pos e] at h; omega
      · rw [if_neg e, Nat.zero_add] at h
        by_cases e2 : j = k
        · rw [e2]; exact e
        · exact (ih _).mp h j (by omega) (by omega)
    · intro h
      rw [if_neg (h k (Nat.le_refl _) (by omega)), Nat.zero_add]
      exact (ih _).mpr (fun j h1 h2 => h j (by omega) (by omega))
theorem last_z {g : Nat → Nat} : ∀ (q : Nat), f_last g 1 0 q = 0 ↔ ∀ j, j < q → ¬ g j = 46 := by
  intro q
  induction q with
  | zero => exact ⟨fun _ j h => by omega, fun _ => rfl⟩
  | succ q ih =>
    rw [f_last]
    constructor
    · intro h j h1
      by_cases e : g q = 46
      · rw [if_pos e, if_pos rfl] at h; omega
      · rw [if_neg e] at h
        by_cases e2 : j = q
        · rw [e2]; exact e
        · exact ih.mp h j (by omega)
    · intro h
      rw [if_neg (h q (by omega))]
      exact ih.mpr (fun j h1 => h j (by omega))
theorem dots_last {g : Nat → Nat} {n : Nat} : f_dots g 0 n = 0 ↔ f_last g 1 0 n = 0 := by
  rw [dots_z, last_z]
  exact ⟨fun h j h1 => h j (Nat.zero_le _) (by omega), fun h j _ h2 => h j (by omega)⟩
theorem isStk_A {s : mg_s} {a k : Nat} {x : Int32} {fs : List frT} (h : isStk s fs) (ha : 155 ≤ a) (hk : fs.length ≤ k) : isStk (mg_A s a k x) fs :=
  isStk_of fs h (fun j b hj _ _ => mA_ne _ _ (Or.inr (by omega))) (fun i _ => mA_ne _ _ (Or.inl (by omega))) (fun b _ h2 => by funext j; exact mA_ne _ _ (Or.inl (by omega)))
theorem isSg_A {s : mg_s} {a k : Nat} {x : Int32} {σ : ckS} (h : isSg s σ) (ha : ¬ a = 149) : isSg (mg_A s a k x) σ := isSg_of h (mfr_A s (F := []) (A := [a]) (List.mem_singleton.mpr rfl)) (by decide) (fun q => ha (List.mem_singleton.mp q).symm)
theorem isE_A {s : mg_s} {a k : Nat} {x : Int32} {E : ckE} (h : isE s E) (ha : a ∈ kA) : isE (mg_A s a k x) E := isE_of h (mfr_A s (F := kF) (A := kA) ha) (fun _ q => q) (fun _ q => q)
theorem isE_I {s : mg_s} {k : Nat} {x : Int32} {E : ckE} (h : isE s E) (hk : k ∈ kF) : isE (mg_I s 141 k x) E := isE_of h (mfr_I s (F := kF) (A := kA) hk) (fun _ q => q) (fun _ q => q)
theorem holdA_A {s : mg_s} {a b k z : Nat} {x : Int32} {l : List Nat} (h : holdA s b z l) (ha : ¬ b = a) : holdA (mg_A s a k x) b z l := holdA_of h (by funext j; exact mA_ne _ _ (Or.inl ha))
theorem f_dots_le {g : Nat → Nat} : ∀ (q k : Nat), f_dots g k q ≤ q := by
  intro q
  induction q with
  | zero => intro k; exact Nat.le_refl _
  | succ q ih => intro k; rw [f_dots]; have := ih (k + 1); split <;> omega
section KG
variable {L : Nat} {xs : Nat → Int32} {d : Nat} {s : mg_s} {E : ckE} {nm : List Nat} {Q : Option Value → mg_s → Prop}
theorem md_beg2 {fs : List frT} {how sg : Nat} {σ : ckS} {c5 : Option Value} (hE : isE s E) (h10 : s.1 141 10 = nI nm.length) (hnm : holdA s 148 0 nm) (hN : t_name (gl nm) 0 nm.length = true) (h55 : s.2.1 155 fs.length = nI nm.length) (h54 : ∀ i, i < nm.length → s.2.1 154 (48 * fs.length + i) = nI (gl nm i)) (h23 : s.1 141 23 = nI (fs.length + 1)) (hh2 : how ≤ 2) (hh0 : how = 0 ↔ fs.length = 0) (hsg1 : how = 1 → 1 ≤ sg) (hsg4 : sg ≤ 4) (hn1 : how = 1 → ∀ g gs, fs = g :: gs → 1 ≤ fr_n g) (hst : isStk s fs) (hsg : isSg s σ) (hok : okS σ) (hdp : fs.length ≤ σ.1) : wp L xs (d + 7) 117 97 [some (.ref 141), some (.int (nI how)), some (.int (nI sg)), some (.int (nI fs.length)), some (.int (nI (f_dots (gl nm) 0 nm.length))), c5] [] s (fun r s' => r = none ∧ mfr s s' kF kA ∧ kOut s' E (k_ret E fs how sg (x_e1 E (k_in E fs.length) fs.length nm σ)) (2 * (10 - σ.1) + (fs.length + 1))) := by
  have hl10 := hok.1
  have hnl := t_name_len hN
  have hdl := f_dots_le (g := gl nm) nm.length 0
  refine wg_aload_n (d117_97 L xs) rfl ?_
  refine wg_get (d117_98 L xs) (kd := 1) (cj := 9) (k0 := 30) rfl (Or.inl rfl) (by decide) rfl rfl ?_
  refine wg_iload_n (d117_101 L xs) rfl ?_
  refine wg_iload_n (d117_102 L xs) rfl ?_
  refine wg_iast (d117_103 L xs) (n := 13) (by decide) rfl (vp_in_nI (n := fs.length) (by omega) (by omega)) rfl ?_
  rw [nI_nat (n := fs.length) (by omega)]
  refine wg_aload_n (d117_104 L xs) rfl ?_
  refine wg_get (d117_105 L xs) (kd := 1) (cj := 9) (k0 := 31) rfl (Or.inl rfl) (by decide) rfl rfl ?_
  refine wg_iload_n (d117_108 L xs) rfl ?_
  refine wg_iload_n (d117_109 L xs) rfl ?_
  refine wg_iast (d117_110 L xs) (n := 13) (by decide) rfl (vp_in_nI (n := fs.length) (by omega) (by omega)) rfl ?_
  rw [nI_nat (n := fs.length) (by omega)]
  refine wg_aload_n (d117_111 L xs) rfl ?_
  refine wg_get (d117_112 L xs) (kd := 1) (cj := 9) (k0 := 32) rfl (Or.inl rfl) (by decide) rfl rfl ?_
  refine wg_iload_n (d117_115 L xs) rfl ?_
  refine wg_iconst (d117_116 L xs) (x := 0) (by decide) ?_
  refine wg_iast (d117_117 L xs) (n := 13) (by decide) rfl (vp_in_nI (n := fs.length) (by omega) (by omega)) rfl ?_
  rw [nI_nat (n := fs.length) (by omega)]
  refine wg_iload (d117_118 L xs) rfl ?_
  refine wn_if_ne (d117_120 L xs) (x := f_dots (gl nm) 0 nm.length) (by omega) (t := 131) (by decide) (fun h1 => ?_) (fun h1 => ?_)
  · refine wg_aload_n (d117_131 L xs) rfl ?_
    refine wg_iload_n (d117_132 L xs) rfl ?_
    refine wg_invv (d117_133 L xs) (kd := 7) (mj := 120) (n := 1) rfl (Or.inl rfl) (ys := [.int (nI fs.length)]) (r := []) rfl rfl (by decide) rfl rfl (Nat.le_of_ble_eq_true rfl) (md_find (E := E) (fs := fs) (how := how) (sg := sg) (dom := nm) (σ := σ) (s := (mg_A (mg_A (mg_A s 160 fs.length (nI how)) 161 fs.length (nI sg)) 162 fs.length 0)) (isE_A (isE_A (isE_A hE (by decide)) (by decide)) (by decide)) h10 (holdA_A (holdA_A (holdA_A hnm (by omega)) (by omega)) (by omega)) hN ((mA_ne _ _ (Or.inl (by omega))).trans ((mA_ne _ _ (Or.inl (by omega))).trans ((mA_ne _ _ (Or.inl (by omega))).trans h55))) (fun i hi => (mA_ne _ _ (Or.inl (by omega))).trans ((mA_ne _ _ (Or.inl (by omega))).trans ((mA_ne _ _ (Or.inl (by omega))).trans (h54 i hi)))) (mA_at _ _ _ _) h23 ((mA_ne _ _ (Or.inl (by omega))).trans ((mA_ne _ _ (Or.inl (by omega))).trans (mA_at _ _ _ _))) ((mA_ne _ _ (Or.inl (by omega))).trans (mA_at _ _ _ _)) hh2 hh0 hsg1 hsg4 hn1 (isStk_A (isStk_A (isStk_A hst (by omega) (Nat.le_refl _)) (by omega) (Nat.le_refl _)) (by omega) (Nat.le_refl _)) (isSg_A (isSg_A (isSg_A hsg (by omega)) (by omega)) (by omega)) hok hdp) ?_
    rintro _ s3 ⟨rfl, hm3, hko⟩
    exact wg_vret (d117_136 L xs) rfl ⟨rfl, (((mfr_A s (F := kF) (A := kA) (by decide)).trans (mfr_A _ (by decide))).trans (mfr_A _ (by decide))).trans hm3, by unfold x_e1; rw [if_neg (fun z => absurd (dots_last.mpr z) (by omega))]; exact hko⟩
  · refine wg_aload_n (d117_123 L xs) rfl ?_
    refine wg_iconst (d117_124 L xs) (x := 0) (by decide) ?_
    refine wg_invv (d117_125 L xs) (kd := 7) (mj := 118) (n := 1) rfl (Or.inl rfl) (ys := [.int 0]) (r := []) rfl rfl (by decide) rfl rfl (Nat.le_of_ble_eq_true rfl) (md_comes (E := E) (fs := fs) (how := how) (sg := sg) (x := 0) (σ := σ) (s := (mg_A (mg_A (mg_A s 160 fs.length (nI how)) 161 fs.length (nI sg)) 162 fs.length 0)) h23 ((mA_ne _ _ (Or.inl (by omega))).trans ((mA_ne _ _ (Or.inl (by omega))).trans (mA_at _ _ _ _))) ((mA_ne _ _ (Or.inl (by omega))).trans (mA_at _ _ _ _)) hh2 hh0 hsg1 hsg4 hn1 (isStk_A (isStk_A (isStk_A hst (by omega) (Nat.le_refl _)) (by omega) (Nat.le_refl _)) (by omega) (Nat.le_refl _)) (isSg_A (isSg_A (isSg_A hsg (by omega)) (by omega)) (by omega)) hok (by omega) hdp) ?_
    rintro _ s3 ⟨rfl, hm3, hko⟩
    refine wg_goto (d117_128 L xs) (t := 136) (by decide) ?_
    exact wg_vret (d117_136 L xs) rfl ⟨rfl, (((mfr_A s (F := kF) (A := kA) (by decide)).trans (mfr_A _ (by decide))).trans (mfr_A _ (by decide))).trans (hm3.more (by decide) (by decide)), by unfold x_e1; rw [if_pos (dots_last.mp (by omega))]; exact kOut_le hko (by omega)⟩
theorem md_beg1 {f how sg : Nat} (hf : f < 13) (hn48 : nm.length ≤ 48) : ∀ (q k dots : Nat) (s : mg_s), k + q = nm.length → dots ≤ k → s.1 141 10 = nI nm.length → holdA s 148 0 nm → (∀ j, j < k → s.2.1 154 (48 * f + j) = nI (gl nm j)) → (∀ s', mfr s s' [] [154] → (∀ j, j < 48 * f → s'.2.1 154 j = s.2.1 154 j) → (∀ j, j < nm.length → s'.2.1 154 (48 * f + j) = nI (gl nm j)) → wp L xs (d + 7) 117 97 [some (.ref 141), some (.int (nI how)), some (.int (nI sg)), some (.int (nI f)), some (.int (nI (dots + f_dots (gl nm) k q))), some (.int (nI nm.length))] [] s' Q) → wp L xs (d + 7) 117 41 [some (.ref 141), some (.int (nI how)), some (.int (nI sg)), some (.int (nI f)), some (.int (nI dots)), some (.int (nI k))] [] s Q := by
  intro q
  induction q with
  | zero =>
    intro k dots s hk hd h10 hnm hc kk
    have hk0 : k = nm.length := by omega
    subst hk0
    refine wg_iload (d117_41 L xs) rfl ?_
    refine wg_aload_n (d117_43 L xs) rfl ?_
    refine wg_get (d117_44 L xs) (kd := 1) (cj := 9) (k0 := 10) rfl (Or.inl rfl) (by decide) rfl rfl ?_
    refine wg_top (y := (nI nm.length)) h10 ?_
    refine wn_icmp_ge (d117_47 L xs) (x := nm.length) (y := nm.length) (by omega) (by omega) (t := 97) (by decide) (fun h1 => ?_) (fun h1 => by omega)
    exact kk s (mfr.rf s _ _) (fun _ _ => rfl) hc
  | succ q ih =>
    intro k dots s hk hd h10 hnm hc kk
    have hgk := gl_lt hnm.1 k
    rw [f_dots] at kk
    refine wg_iload (d117_41 L xs) rfl ?_
    refine wg_aload_n (d117_43 L xs) rfl ?_
    refine wg_get (d117_44 L xs) (kd := 1) (cj := 9) (k0 := 10) rfl (Or.inl rfl) (by decide) rfl rfl ?_
    refine wg_top (y := (nI nm.length)) h10 ?_
    refine wn_icmp_ge (d117_47 L xs) (x := k) (y := nm.length) (by omega) (by omega) (t := 97) (by decide) (fun h1 => by omega) (fun h1 => ?_)
    refine wg_aload_n (d117_50 L xs) rfl ?_
    refine wg_get (d117_51 L xs) (kd := 1) (cj := 9) (k0 := 24) rfl (Or.inl rfl) (by decide) rfl rfl ?_
    refine wg_bipush (d117_54 L xs) (x := 48) (by decide) ?_
    refine wg_iload_n (d117_56 L xs) rfl ?_
    refine wg_imul (d117_57 L xs) ?_
    refine wg_top (y := (nI (48 * f))) (pk_mul 48 f) ?_
    refine wg_iload (d117_58 L xs) rfl ?_
    refine wg_iadd (d117_60 L xs) ?_
    refine wg_top (y := (nI ((48 * f) + k))) (nI_add (48 * f) k) ?_
    refine wg_aload_n (d117_61 L xs) rfl ?_
    refine wg_get (d117_62 L xs) (kd := 1) (cj := 9) (k0 := 11) rfl (Or.inl rfl) (by decide) rfl rfl ?_
    refine wg_iload (d117_65 L xs) rfl ?_
    refine wg_iald (d117_67 L xs) (n := 60) (by decide) rfl (vp_in_nI (n := k) (by omega) (by omega)) ?_
    refine wg_top (y := (nI (gl nm k))) (by rw [nI_nat (n := k) (by omega)]; exact (by have := hnm.2 k (by omega); rw [Nat.zero_add] at this; exact this)) ?_
    refine wg_iast (d117_68 L xs) (n := 624) (by decide) rfl (vp_in_nI (n := (48 * f) + k) (by omega) (by omega)) rfl ?_
    rw [nI_nat (n := (48 * f) + k) (by omega)]
    refine wg_iload (d117_69 L xs) rfl ?_
    refine wg_aload_n (d117_71 L xs) rfl ?_
    refine wg_get (d117_72 L xs) (kd := 1) (cj := 9) (k0 := 11) rfl (Or.inl rfl) (by decide) rfl rfl ?_
    refine wg_iload (d117_75 L xs) rfl ?_
    refine wg_iald (d117_77 L xs) (n := 60) (by decide) rfl (vp_in_nI (n := k) (by omega) (by omega)) ?_
    refine wg_top (y := (nI (gl nm k))) (by rw [nI_nat (n := k) (by omega)]; exact ((mA_ne _ _ (Or.inl (by omega))).trans (by have := hnm.2 k (by omega); rw [Nat.zero_add] at this; exact this))) ?_
    refine wg_bipush (d117_78 L xs) (x := 46) (by decide) ?_
    refine wn_icmp_ne (d117_80 L xs) (x := gl nm k) (y := 46) (by omega) (by omega) (t := 87) (by decide) (fun h2 => ?_) (fun h2 => ?_)
    · refine wg_iconst (d117_87 L xs) (x := 0) (by decide) ?_
      refine wg_iadd (d117_88 L xs) ?_
      refine wg_top (y := (nI (dots + 0))) (nI_add dots 0) ?_
      refine wg_istore (d117_89 L xs) (ls' := [some (.ref 141), some (.int (nI how)), some (.int (nI sg)), some (.int (nI f)), some (.int (nI (dots + 0))), some (.int (nI k))]) (Nat.le_of_ble_eq_true rfl) rfl ?_
      refine wg_iinc (d117_91 L xs) (y := (nI (k + 1))) (ls' := [some (.ref 141), some (.int (nI how)), some (.int (nI sg)), some (.int (nI f)), some (.int (nI (dots + 0))), some (.int (nI (k + 1)))]) rfl (nI_add k 1) rfl ?_
      refine wg_goto (d117_94 L xs) (t := 41) (by decide) ?_
      rw [if_neg (show ¬ gl nm k = 46 by omega)] at kk
      refine ih (k + 1) (dots + 0) (mg_A s 154 (48 * f + k) (nI (gl nm k))) (by omega) (by omega) h10 (holdA_A hnm (by omega)) (fun j hj => ?_) (fun s' m1 m2 m3 => ?_)
      · by_cases e : j = k
        · subst e; exact mA_at _ _ _ _
        · exact (mA_ne _ _ (Or.inr (by omega))).trans (hc j (by omega))
      · have h := kk s' ((mfr_A s (by decide)).trans m1) (fun j hj => (m2 j hj).trans (mA_ne _ _ (Or.inr (by omega)))) m3
        rw [← Nat.add_assoc] at h
        exact h
    · refine wg_iconst (d117_83 L xs) (x := 1) (by decide) ?_
      refine wg_goto (d117_84 L xs) (t := 88) (by decide) ?_
      refine wg_iadd (d117_88 L xs) ?_
      refine wg_top (y := (nI (dots + 1))) (nI_add dots 1) ?_
      refine wg_istore (d117_89 L xs) (ls' := [some (.ref 141), some (.int (nI how)), some (.int (nI sg)), some (.int (nI f)), some (.int (nI (dots + 1))), some (.int (nI k))]) (Nat.le_of_ble_eq_true rfl) rfl ?_
      refine wg_iinc (d117_91 L xs) (y := (nI (k + 1))) (ls' := [some (.ref 141), some (.int (nI how)), some (.int (nI sg)), some (.int (nI f)), some (.int (nI (dots + 1))), some (.int (nI (k + 1)))]) rfl (nI_add k 1) rfl ?_
      refine wg_goto (d117_94 L xs) (t := 41) (by decide) ?_
      rw [if_pos (show gl nm k = 46 by omega)] at kk
      refine ih (k + 1) (dots + 1) (mg_A s 154 (48 * f + k) (nI (gl nm k))) (by omega) (by omega) h10 (holdA_A hnm (by omega)) (fun j hj => ?_) (fun s' m1 m2 m3 => ?_)
      · by_cases e : j = k
        · subst e; exact mA_at _ _ _ _
        · exact (mA_ne _ _ (Or.inr (by omega))).trans (hc j (by omega))
      · have h := kk s' ((mfr_A s (by decide)).trans m1) (fun j hj => (m2 j hj).trans (mA_ne _ _ (Or.inr (by omega)))) m3
        rw [← Nat.add_assoc] at h
        exact h
theorem md_begin {fs : List frT} {how sg : Nat} {σ : ckS} (hE : isE s E) (h10 : s.1 141 10 = nI nm.length) (hnm : holdA s 148 0 nm) (hN : t_name (gl nm) 0 nm.length = true) (h23 : s.1 141 23 = nI fs.length) (hh2 : how ≤ 2) (hh0 : how = 0 ↔ fs.length = 0) (hsg1 : how = 1 → 1 ≤ sg) (hsg4 : sg ≤ 4) (hn1 : how = 1 → ∀ g gs, fs = g :: gs → 1 ≤ fr_n g) (hst : isStk s fs) (hsg : isSg s σ) (hok : okS σ) (hdp : fs.length ≤ σ.1) : ca L xs (d + 8) 117 [.ref 141, .int (nI how), .int (nI sg)] s (fun r s' => r = none ∧ mfr s s' kF kA ∧ kOut s' E (k_ret E fs how sg (x_ev E (10 - fs.length) fs.length nm σ)) (2 * (10 - σ.1) + (fs.length + 1))) := by
  refine wg_call (Nat.le_of_ble_eq_true rfl) ?_
  have hl10 := hok.1
  have hnl := t_name_len hN
  rw [k_ev (by omega)]
  show wp L xs (d + 7) 117 0 [some (.ref 141), some (.int (nI how)), some (.int (nI sg)), none, none, none] [] s _
  refine wg_aload_n (d117_0 L xs) rfl ?_
  refine wg_get (d117_1 L xs) (kd := 1) (cj := 9) (k0 := 23) rfl (Or.inl rfl) (by decide) rfl rfl ?_
  refine wg_top (y := (nI fs.length)) h23 ?_
  refine wg_istore_n (d117_4 L xs) (ls' := [some (.ref 141), some (.int (nI how)), some (.int (nI sg)), some (.int (nI fs.length)), none, none]) (Nat.le_of_ble_eq_true rfl) rfl ?_
  refine wg_aload_n (d117_5 L xs) rfl ?_
  refine wg_dup (d117_6 L xs) rfl ?_
  refine wg_get (d117_7 L xs) (kd := 1) (cj := 9) (k0 := 23) rfl (Or.inl rfl) (by decide) rfl rfl ?_
  refine wg_top (y := (nI fs.length)) h23 ?_
  refine wg_iconst (d117_10 L xs) (x := 1) (by decide) ?_
  refine wg_iadd (d117_11 L xs) ?_
  refine wg_top (y := (nI (fs.length + 1))) (nI_add fs.length 1) ?_
  refine wg_puti (d117_12 L xs) (cj := 9) (k0 := 23) rfl (by decide) rfl (Nat.le_of_ble_eq_true rfl) rfl rfl rfl ?_
  refine wg_aload_n (d117_15 L xs) rfl ?_
  refine wg_dup (d117_16 L xs) rfl ?_
  refine wg_get (d117_17 L xs) (kd := 1) (cj := 9) (k0 := 40) rfl (Or.inl rfl) (by decide) rfl rfl ?_
  refine wg_top (y := (nI σ.2.2.2.1)) hsg.2.2.2.1 ?_
  refine wg_iconst (d117_20 L xs) (x := 1) (by decide) ?_
  refine wg_iadd (d117_21 L xs) ?_
  refine wg_top (y := (nI (σ.2.2.2.1 + 1))) (nI_add σ.2.2.2.1 1) ?_
  refine wg_puti (d117_22 L xs) (cj := 9) (k0 := 40) rfl (by decide) rfl (Nat.le_of_ble_eq_true rfl) rfl rfl rfl ?_
  refine wg_aload_n (d117_25 L xs) rfl ?_
  refine wg_get (d117_26 L xs) (kd := 1) (cj := 9) (k0 := 25) rfl (Or.inl rfl) (by decide) rfl rfl ?_
  refine wg_iload_n (d117_29 L xs) rfl ?_
  refine wg_aload_n (d117_30 L xs) rfl ?_
  refine wg_get (d117_31 L xs) (kd := 1) (cj := 9) (k0 := 10) rfl (Or.inl rfl) (by decide) rfl rfl ?_
  refine wg_top (y := (nI nm.length)) h10 ?_
  refine wg_iast (d117_34 L xs) (n := 13) (by decide) rfl (vp_in_nI (n := fs.length) (by omega) (by omega)) rfl ?_
  rw [nI_nat (n := fs.length) (by omega)]
  refine wg_iconst (d117_35 L xs) (x := 0) (by decide) ?_
  refine wg_istore (d117_36 L xs) (ls' := [some (.ref 141), some (.int (nI how)), some (.int (nI sg)), some (.int (nI fs.length)), some (.int 0), none]) (Nat.le_of_ble_eq_true rfl) rfl ?_
  refine wg_iconst (d117_38 L xs) (x := 0) (by decide) ?_
  refine wg_istore (d117_39 L xs) (ls' := [some (.ref 141), some (.int (nI how)), some (.int (nI sg)), some (.int (nI fs.length)), some (.int 0), some (.int 0)]) (Nat.le_of_ble_eq_true rfl) rfl ?_
  refine md_beg1 (by omega) (by omega) nm.length 0 0 (mg_A (mg_I (mg_I s 141 23 (nI (fs.length + 1))) 141 40 (nI (σ.2.2.2.1 + 1))) 155 fs.length (nI nm.length)) (by omega) (Nat.le_refl _) h10 (holdA_A hnm (by omega)) (fun j hj => absurd hj (by omega)) (fun s2 m1 m2 m3 => ?_)
  rw [Nat.zero_add]
  have hM := (((mfr_I s (F := kF) (A := kA) (by decide)).trans (mfr_I _ (by decide))).trans (mfr_A _ (by decide))).trans (m1.more (F' := kF) (A' := kA) (by decide) (by decide))
  have hsgA : isSg (mg_A (mg_I (mg_I s 141 23 (nI (fs.length + 1))) 141 40 (nI (σ.2.2.2.1 + 1))) 155 fs.length (nI nm.length)) (st_ck σ) := isSg_A ⟨hsg.1, hsg.2.1, hsg.2.2.1, rfl, hsg.2.2.2.2.1, hsg.2.2.2.2.2⟩ (by omega)
  have hstA : isStk s2 fs := isStk_of fs (isStk_A (isStk_I (isStk_I hst)) (by omega) (Nat.le_refl _) : isStk (mg_A (mg_I (mg_I s 141 23 (nI (fs.length + 1))) 141 40 (nI (σ.2.2.2.1 + 1))) 155 fs.length (nI nm.length)) fs) (fun k a _ q1 _ => congrFun (m1.2.2.1 a (by intro q; have := List.mem_singleton.mp q; omega)) k) (fun i hi => m2 i hi) (fun a q1 q2 => m1.2.2.1 a (by intro q; have := List.mem_singleton.mp q; omega))
  exact wp_mono (md_beg2 (E := E) (σ := st_ck σ) (isE_of hE hM (fun _ q => q) (fun _ q => q)) ((m1.2.1 10 (by decide)).trans h10) (m1.hold (by decide) (holdA_A hnm (by omega))) hN ((congrFun (m1.2.2.1 155 (by decide)) _).trans (mA_at _ _ _ _)) m3 (m1.2.1 23 (by decide)) hh2 hh0 hsg1 hsg4 hn1 hstA (isSg_of hsgA m1 (by decide) (by decide)) hok hdp) (fun r s' h => ⟨h.1, hM.trans h.2.1, h.2.2⟩)
end KG
