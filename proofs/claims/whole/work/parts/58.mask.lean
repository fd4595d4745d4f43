/-! the reference asks -/
theorem d121_15 (L : Nat) (xs : Nat → Int32) : decode (ax_code (mgT L xs) 121) 15 = .ok (.iload_n 2, 1) := by
  show decode prog_11_method_14_code 15 = _
  decide +kernel
theorem d121_16 (L : Nat) (xs : Nat → Int32) : decode (ax_code (mgT L xs) 121) 16 = .ok (.aload_n 0, 1) := by
  show decode prog_11_method_14_code 16 = _
  decide +kernel
theorem d121_17 (L : Nat) (xs : Nat → Int32) : decode (ax_code (mgT L xs) 121) 17 = .ok (.getfield 114, 3) := by
  show decode prog_11_method_14_code 17 = _
  decide +kernel
theorem d121_20 (L : Nat) (xs : Nat → Int32) : decode (ax_code (mgT L xs) 121) 20 = .ok (.if_icmp .ge 21, 3) := by
  show decode prog_11_method_14_code 20 = _
  decide +kernel
theorem d121_23 (L : Nat) (xs : Nat → Int32) : decode (ax_code (mgT L xs) 121) 23 = .ok (.aload_n 0, 1) := by
  show decode prog_11_method_14_code 23 = _
  decide +kernel
theorem d121_24 (L : Nat) (xs : Nat → Int32) : decode (ax_code (mgT L xs) 121) 24 = .ok (.getfield 31, 3) := by
  show decode prog_11_method_14_code 24 = _
  decide +kernel
theorem d121_27 (L : Nat) (xs : Nat → Int32) : decode (ax_code (mgT L xs) 121) 27 = .ok (.iload_n 2, 1) := by
  show decode prog_11_method_14_code 27 = _
  decide +kernel
theorem d121_28 (L : Nat) (xs : Nat → Int32) : decode (ax_code (mgT L xs) 121) 28 = .ok (.aload_n 0, 1) := by
  show decode prog_11_method_14_code 28 = _
  decide +kernel
theorem d121_29 (L : Nat) (xs : Nat → Int32) : decode (ax_code (mgT L xs) 121) 29 = .ok (.getfield 28, 3) := by
  show decode prog_11_method_14_code 29 = _
  decide +kernel
theorem d121_32 (L : Nat) (xs : Nat → Int32) : decode (ax_code (mgT L xs) 121) 32 = .ok (.iload_n 2, 1) := by
  show decode prog_11_method_14_code 32 = _
  decide +kernel
theorem d121_33 (L : Nat) (xs : Nat → Int32) : decode (ax_code (mgT L xs) 121) 33 = .ok (.iaload, 1) := by
  show decode prog_11_method_14_code 33 = _
  decide +kernel
theorem d121_34 (L : Nat) (xs : Nat → Int32) : decode (ax_code (mgT L xs) 121) 34 = .ok (.iastore, 1) := by
  show decode prog_11_method_14_code 34 = _
  decide +kernel
theorem d121_35 (L : Nat) (xs : Nat → Int32) : decode (ax_code (mgT L xs) 121) 35 = .ok (.iinc 2 1, 3) := by
  show decode prog_11_method_14_code 35 = _
  decide +kernel
theorem d121_38 (L : Nat) (xs : Nat → Int32) : decode (ax_code (mgT L xs) 121) 38 = .ok (.goto (-23), 3) := by
  show decode prog_11_method_14_code 38 = _
  decide +kernel
theorem d121_50 (L : Nat) (xs : Nat → Int32) : decode (ax_code (mgT L xs) 121) 50 = .ok (.iload_n 3, 1) := by
  show decode prog_11_method_14_code 50 = _
  decide +kernel
theorem d121_51 (L : Nat) (xs : Nat → Int32) : decode (ax_code (mgT L xs) 121) 51 = .ok (.aload_n 0, 1) := by
  show decode prog_11_method_14_code 51 = _
  decide +kernel
theorem d121_52 (L : Nat) (xs : Nat → Int32) : decode (ax_code (mgT L xs) 121) 52 = .ok (.getfield 111, 3) := by
  show decode prog_11_method_14_code 52 = _
  decide +kernel
theorem d121_55 (L : Nat) (xs : Nat → Int32) : decode (ax_code (mgT L xs) 121) 55 = .ok (.if_icmp .ge 67, 3) := by
  show decode prog_11_method_14_code 55 = _
  decide +kernel
theorem d121_58 (L : Nat) (xs : Nat → Int32) : decode (ax_code (mgT L xs) 121) 58 = .ok (.aload_n 0, 1) := by
  show decode prog_11_method_14_code 58 = _
  decide +kernel
theorem d121_59 (L : Nat) (xs : Nat → Int32) : decode (ax_code (mgT L xs) 121) 59 = .ok (.iload_n 3, 1) := by
  show decode prog_11_method_14_code 59 = _
  decide +kernel
theorem d121_60 (L : Nat) (xs : Nat → Int32) : decode (ax_code (mgT L xs) 121) 60 = .ok (.invokevirtual 127, 3) := by
  show decode prog_11_method_14_code 60 = _
  decide +kernel
theorem d121_63 (L : Nat) (xs : Nat → Int32) : decode (ax_code (mgT L xs) 121) 63 = .ok (.ifCond .eq 53, 3) := by
  show decode prog_11_method_14_code 63 = _
  decide +kernel
theorem d121_66 (L : Nat) (xs : Nat → Int32) : decode (ax_code (mgT L xs) 121) 66 = .ok (.iload_n 2, 1) := by
  show decode prog_11_method_14_code 66 = _
  decide +kernel
theorem d121_67 (L : Nat) (xs : Nat → Int32) : decode (ax_code (mgT L xs) 121) 67 = .ok (.ifCond .eq 17, 3) := by
  show decode prog_11_method_14_code 67 = _
  decide +kernel
theorem d121_70 (L : Nat) (xs : Nat → Int32) : decode (ax_code (mgT L xs) 121) 70 = .ok (.aload_n 0, 1) := by
  show decode prog_11_method_14_code 70 = _
  decide +kernel
theorem d121_71 (L : Nat) (xs : Nat → Int32) : decode (ax_code (mgT L xs) 121) 71 = .ok (.getfield 13, 3) := by
  show decode prog_11_method_14_code 71 = _
  decide +kernel
theorem d121_74 (L : Nat) (xs : Nat → Int32) : decode (ax_code (mgT L xs) 121) 74 = .ok (.iload_n 3, 1) := by
  show decode prog_11_method_14_code 74 = _
  decide +kernel
theorem d121_75 (L : Nat) (xs : Nat → Int32) : decode (ax_code (mgT L xs) 121) 75 = .ok (.iaload, 1) := by
  show decode prog_11_method_14_code 75 = _
  decide +kernel
theorem d121_76 (L : Nat) (xs : Nat → Int32) : decode (ax_code (mgT L xs) 121) 76 = .ok (.iconst 3, 1) := by
  show decode prog_11_method_14_code 76 = _
  decide +kernel
theorem d121_77 (L : Nat) (xs : Nat → Int32) : decode (ax_code (mgT L xs) 121) 77 = .ok (.if_icmp .eq 7, 3) := by
  show decode prog_11_method_14_code 77 = _
  decide +kernel
theorem d121_80 (L : Nat) (xs : Nat → Int32) : decode (ax_code (mgT L xs) 121) 80 = .ok (.iconst 1, 1) := by
  show decode prog_11_method_14_code 80 = _
  decide +kernel
theorem d121_81 (L : Nat) (xs : Nat → Int32) : decode (ax_code (mgT L xs) 121) 81 = .ok (.goto 4, 3) := by
  show decode prog_11_method_14_code 81 = _
  decide +kernel
theorem d121_84 (L : Nat) (xs : Nat → Int32) : decode (ax_code (mgT L xs) 121) 84 = .ok (.iconst 0, 1) := by
  show decode prog_11_method_14_code 84 = _
  decide +kernel
theorem d121_85 (L : Nat) (xs : Nat → Int32) : decode (ax_code (mgT L xs) 121) 85 = .ok (.istore_n 2, 1) := by
  show decode prog_11_method_14_code 85 = _
  decide +kernel
theorem d121_86 (L : Nat) (xs : Nat → Int32) : decode (ax_code (mgT L xs) 121) 86 = .ok (.aload_n 0, 1) := by
  show decode prog_11_method_14_code 86 = _
  decide +kernel
theorem d121_87 (L : Nat) (xs : Nat → Int32) : decode (ax_code (mgT L xs) 121) 87 = .ok (.getfield 13, 3) := by
  show decode prog_11_method_14_code 87 = _
  decide +kernel
theorem d121_90 (L : Nat) (xs : Nat → Int32) : decode (ax_code (mgT L xs) 121) 90 = .ok (.iload_n 3, 1) := by
  show decode prog_11_method_14_code 90 = _
  decide +kernel
theorem d121_91 (L : Nat) (xs : Nat → Int32) : decode (ax_code (mgT L xs) 121) 91 = .ok (.iaload, 1) := by
  show decode prog_11_method_14_code 91 = _
  decide +kernel
theorem d121_92 (L : Nat) (xs : Nat → Int32) : decode (ax_code (mgT L xs) 121) 92 = .ok (.iload_n 1, 1) := by
  show decode prog_11_method_14_code 92 = _
  decide +kernel
theorem d121_93 (L : Nat) (xs : Nat → Int32) : decode (ax_code (mgT L xs) 121) 93 = .ok (.if_icmp .ne 23, 3) := by
  show decode prog_11_method_14_code 93 = _
  decide +kernel
theorem d121_96 (L : Nat) (xs : Nat → Int32) : decode (ax_code (mgT L xs) 121) 96 = .ok (.aload_n 0, 1) := by
  show decode prog_11_method_14_code 96 = _
  decide +kernel
theorem d121_97 (L : Nat) (xs : Nat → Int32) : decode (ax_code (mgT L xs) 121) 97 = .ok (.getfield 34, 3) := by
  show decode prog_11_method_14_code 97 = _
  decide +kernel
theorem d121_100 (L : Nat) (xs : Nat → Int32) : decode (ax_code (mgT L xs) 121) 100 = .ok (.aload_n 0, 1) := by
  show decode prog_11_method_14_code 100 = _
  decide +kernel
theorem d121_101 (L : Nat) (xs : Nat → Int32) : decode (ax_code (mgT L xs) 121) 101 = .ok (.getfield 124, 3) := by
  show decode prog_11_method_14_code 101 = _
  decide +kernel
theorem d121_104 (L : Nat) (xs : Nat → Int32) : decode (ax_code (mgT L xs) 121) 104 = .ok (.iload_n 3, 1) := by
  show decode prog_11_method_14_code 104 = _
  decide +kernel
theorem d121_105 (L : Nat) (xs : Nat → Int32) : decode (ax_code (mgT L xs) 121) 105 = .ok (.iastore, 1) := by
  show decode prog_11_method_14_code 105 = _
  decide +kernel
theorem d121_106 (L : Nat) (xs : Nat → Int32) : decode (ax_code (mgT L xs) 121) 106 = .ok (.aload_n 0, 1) := by
  show decode prog_11_method_14_code 106 = _
  decide +kernel
theorem d121_107 (L : Nat) (xs : Nat → Int32) : decode (ax_code (mgT L xs) 121) 107 = .ok (.dup, 1) := by
  show decode prog_11_method_14_code 107 = _
  decide +kernel
theorem d121_108 (L : Nat) (xs : Nat → Int32) : decode (ax_code (mgT L xs) 121) 108 = .ok (.getfield 124, 3) := by
  show decode prog_11_method_14_code 108 = _
  decide +kernel
theorem d121_111 (L : Nat) (xs : Nat → Int32) : decode (ax_code (mgT L xs) 121) 111 = .ok (.iconst 1, 1) := by
  show decode prog_11_method_14_code 111 = _
  decide +kernel
theorem d121_112 (L : Nat) (xs : Nat → Int32) : decode (ax_code (mgT L xs) 121) 112 = .ok (.iadd, 1) := by
  show decode prog_11_method_14_code 112 = _
  decide +kernel
theorem d121_113 (L : Nat) (xs : Nat → Int32) : decode (ax_code (mgT L xs) 121) 113 = .ok (.putfield 124, 3) := by
  show decode prog_11_method_14_code 113 = _
  decide +kernel
theorem d121_116 (L : Nat) (xs : Nat → Int32) : decode (ax_code (mgT L xs) 121) 116 = .ok (.iinc 3 1, 3) := by
  show decode prog_11_method_14_code 116 = _
  decide +kernel
theorem d121_119 (L : Nat) (xs : Nat → Int32) : decode (ax_code (mgT L xs) 121) 119 = .ok (.goto (-69), 3) := by
  show decode prog_11_method_14_code 119 = _
  decide +kernel
theorem d121_122 (L : Nat) (xs : Nat → Int32) : decode (ax_code (mgT L xs) 121) 122 = .ok (.iload_n 2, 1) := by
  show decode prog_11_method_14_code 122 = _
  decide +kernel
theorem d121_123 (L : Nat) (xs : Nat → Int32) : decode (ax_code (mgT L xs) 121) 123 = .ok (.ireturn, 1) := by
  show decode prog_11_method_14_code 123 = _
  decide +kernel
/-- of the reference's object only the fields F, of its arrays only A have changed -/
def mfr (s s' : mg_s) (F A : List Nat) : Prop := (∀ a, ¬ a = 141 → s'.1 a = s.1 a) ∧ (∀ k, k ∉ F → s'.1 141 k = s.1 141 k) ∧ (∀ a, a ∉ A → s'.2.1 a = s.2.1 a) ∧ s'.2.2 = s.2.2
theorem mfr.rf (s : mg_s) (F A : List Nat) : mfr s s F A := ⟨fun _ _ => rfl, fun _ _ => rfl, fun _ _ => rfl, rfl⟩
theorem mfr.trans {s s1 s2 : mg_s} {F A : List Nat} (h : mfr s s1 F A) (k : mfr s1 s2 F A) : mfr s s2 F A :=
  ⟨fun a ha => (k.1 a ha).trans (h.1 a ha), fun a ha => (k.2.1 a ha).trans (h.2.1 a ha), fun a ha => (k.2.2.1 a ha).trans (h.2.2.1 a ha), k.2.2.2.trans h.2.2.2⟩
theorem mfr.more {s s1 : mg_s} {F A F' A' : List Nat} (h : mfr s s1 F A) (hF : ∀ k ∈ F, k ∈ F') (hA : ∀ k ∈ A, k ∈ A') : mfr s s1 F' A' :=
  ⟨h.1, fun k hk => h.2.1 k (fun q => hk (hF k q)), fun a ha => h.2.2.1 a (fun q => ha (hA a q)), h.2.2.2⟩
theorem mfr_I (s : mg_s) {k : Nat} {x : Int32} {F A : List Nat} (hk : k ∈ F) : mfr s (mg_I s 141 k x) F A := by
  refine ⟨fun a ha => mg_I_oth ha, fun j hj => ?_, fun _ _ => rfl, rfl⟩
  rw [mg_I_own]
  unfold upd
  exact if_neg (fun e : j = k => hj (e ▸ hk))
theorem mfr_A (s : mg_s) {a j : Nat} {x : Int32} {F A : List Nat} (ha : a ∈ A) : mfr s (mg_A s a j x) F A :=
  ⟨fun _ _ => rfl, fun _ _ => rfl, fun b hb => mg_A_oth (fun e => hb (e ▸ ha)), rfl⟩
theorem mfr.tab {s s' : mg_s} {F A : List Nat} {R : List rowT} (h : mfr s s' F A) (h3 : 3 ∉ F) (hA : ∀ a, 143 ≤ a → a ≤ 147 → a ∉ A) (T : isTabM s R) : isTabM s' R := isTabM_of T (h.2.1 3 h3) (fun a h1 h2 => h.2.2.1 a (hA a h1 h2))
theorem mfr.hold {s s' : mg_s} {F A : List Nat} {a z : Nat} {l : List Nat} (h : mfr s s' F A) (ha : a ∉ A) (k : holdA s a z l) : holdA s' a z l := holdA_of k (h.2.2.1 a ha)
/-- the rows that the name m has of the kind kd -/
def f_hits (m : List Nat) (kd : Nat) : List rowT → Nat → List Nat
  | [], _ => []
  | q :: R, k => if q.2.1 = m ∧ q.1 = kd then k :: f_hits m kd R (k + 1) else f_hits m kd R (k + 1)
def f_fine (m : List Nat) : List rowT → Bool
  | [] => true
  | q :: R => !(decide (q.2.1 = m) && decide (q.1 = 3)) && f_fine m R
theorem f_ask_eq (m : List Nat) (kd : Nat) : ∀ (R : List rowT) (k acc : Nat), f_ask m kd R acc = if f_fine m R = true then some (acc + (f_hits m kd R k).length) else none := by
  intro R
  induction R with
  | nil => intro k acc; simp [f_ask, f_fine, f_hits]
  | cons q R ih =>
    intro k acc
    rw [f_ask, f_fine, f_hits]
    by_cases e : q.2.1 = m
    · by_cases e3 : q.1 = 3
      · simp [e, e3]
      · have hz : (!(decide (q.2.1 = m) && decide (q.1 = 3)) && f_fine m R) = f_fine m R := by simp [e3]
        by_cases ek : q.1 = kd
        · rw [if_pos e, if_neg e3, if_pos ek, if_pos (show q.2.1 = m ∧ q.1 = kd from ⟨e, ek⟩), ih (k + 1), hz, List.length_cons, show acc + 1 + (f_hits m kd R (k + 1)).length = acc + ((f_hits m kd R (k + 1)).length + 1) by omega]
        · rw [if_pos e, if_neg e3, if_neg ek, if_neg (show ¬ (q.2.1 = m ∧ q.1 = kd) from fun h => ek h.2), ih (k + 1), hz, Nat.add_zero]
    · have hz : (!(decide (q.2.1 = m) && decide (q.1 = 3)) && f_fine m R) = f_fine m R := by simp [e]
      rw [if_neg e, if_neg (show ¬ (q.2.1 = m ∧ q.1 = kd) from fun h => e h.1), ih (k + 1), hz]
/-- the hits are noted -/
def isHit (s : mg_s) (hs : List Nat) : Prop := s.1 141 15 = nI hs.length ∧ ∀ j, j < hs.length → s.2.1 150 j = nI (gl hs j)
theorem isHit_add {s : mg_s} {hs : List Nat} {k : Nat} (h : isHit s hs) : isHit (mg_I (mg_A s 150 hs.length (nI k)) 141 15 (nI (hs.length + 1))) (hs ++ [k]) := by
  refine ⟨?_, fun j hj => ?_⟩
  · rw [mg_I_own, List.length_append]; rfl
  · rw [List.length_append, List.length_singleton] at hj
    show (mg_A s 150 hs.length (nI k)).2.1 150 j = _
    rw [mg_A_own]
    unfold upd gl
    by_cases e : j = hs.length
    · rw [if_pos e, e, gd_r (Nat.le_refl _)]; simp
    · rw [if_neg e, gd_l (by omega)]; exact h.2 j (by omega)
section MA
variable {L : Nat} {xs : Nat → Int32} {d : Nat} {R : List rowT} {l m : List Nat} {Q : Option Value → mg_s → Prop}
theorem md_ask_c {kd : Nat} (hm60 : m.length ≤ 60) : ∀ (q i : Nat) (s : mg_s), i + q = m.length → s.1 141 10 = nI m.length → holdA s 148 0 m → (∀ j, j < i → s.2.1 149 j = nI (gl m j)) → (∀ s', mfr s s' [] [149] → holdA s' 149 0 m → wp L xs d 121 41 [some (.ref 141), some (.int (nI kd)), some (.int (nI m.length)), none] [] s' Q) → wp L xs d 121 15 [some (.ref 141), some (.int (nI kd)), some (.int (nI i)), none] [] s Q := by
  intro q
  induction q with
  | zero =>
    intro i s hi hn hm hc k
    obtain rfl : i = m.length := by omega
    refine wg_iload_n (d121_15 L xs) rfl ?_
    refine wg_aload_n (d121_16 L xs) rfl ?_
    refine wg_get (d121_17 L xs) (kd := 1) (cj := 9) (k0 := 10) rfl (Or.inl rfl) (by decide) rfl rfl ?_
    refine wg_top (y := (nI m.length)) hn ?_
    refine wn_icmp_ge (d121_20 L xs) (x := m.length) (y := m.length) (by omega) (by omega) (t := 41) (by decide) (fun h1 => ?_) (fun h1 => by omega)
    exact k s (mfr.rf s [] [149]) ⟨hm.1, fun j hj => by rw [Nat.zero_add]; exact hc j hj⟩
  | succ q ih =>
    intro i s hi hn hm hc k
    have hv : ∀ j, j < m.length → s.2.1 148 j = nI (gl m j) ∧ gl m j < 65536 := fun j hj => ⟨by have := hm.2 j hj; rwa [Nat.zero_add] at this, by have := gl_lt hm.1 j; omega⟩
    refine wg_iload_n (d121_15 L xs) rfl ?_
    refine wg_aload_n (d121_16 L xs) rfl ?_
    refine wg_get (d121_17 L xs) (kd := 1) (cj := 9) (k0 := 10) rfl (Or.inl rfl) (by decide) rfl rfl ?_
    refine wg_top (y := (nI m.length)) hn ?_
    refine wn_icmp_ge (d121_20 L xs) (x := i) (y := m.length) (by omega) (by omega) (t := 41) (by decide) (fun h1 => by omega) (fun h1 => ?_)
    refine wg_aload_n (d121_23 L xs) rfl ?_
    refine wg_get (d121_24 L xs) (kd := 1) (cj := 9) (k0 := 13) rfl (Or.inl rfl) (by decide) rfl rfl ?_
    refine wg_iload_n (d121_27 L xs) rfl ?_
    refine wg_aload_n (d121_28 L xs) rfl ?_
    refine wg_get (d121_29 L xs) (kd := 1) (cj := 9) (k0 := 11) rfl (Or.inl rfl) (by decide) rfl rfl ?_
    refine wg_iload_n (d121_32 L xs) rfl ?_
    refine wg_iald (d121_33 L xs) (n := 60) (by decide) rfl (vp_in_nI (n := i) (by omega) (by omega)) ?_
    refine wg_top (y := nI (gl m i)) (by rw [nI_nat (by omega)]; exact (hv i (by omega)).1) ?_
    refine wg_iast (d121_34 L xs) (n := 60) (by decide) rfl (vp_in_nI (n := i) (by omega) (by omega)) (ar_dA isA_all.2.2.2.2.2.2.2.1) ?_
    rw [nI_nat (n := i) (by omega)]
    refine wg_iinc (d121_35 L xs) (y := (nI (i + 1))) (ls' := [some (.ref 141), some (.int (nI kd)), some (.int (nI (i + 1))), none]) rfl (nI_add i 1) rfl ?_
    refine wg_goto (d121_38 L xs) (t := 15) (by decide) ?_
    refine ih (i + 1) _ (by omega) hn (holdA_of hm (mg_A_oth (by decide))) (fun j hj => ?_) (fun s' h1 h2 => k s' ((mfr_A s (by decide)).trans h1) h2)
    rw [mg_A_own]
    unfold upd
    by_cases e : j = i
    · rw [if_pos e, e]
    · rw [if_neg e]; exact hc j (by omega)
theorem ask_b {b : Bool} {q : rowT} {c : Bool} {z : Bool} (h1 : bI (decide (q.2.1 = m)) = 1) (h2 : c = (b && !decide (q.1 = 3))) : (b && (!(decide (q.2.1 = m) && decide (q.1 = 3)) && z)) = (c && z) := by
  have e : decide (q.2.1 = m) = true := bI_t (by omega)
  rw [h2, e, Bool.true_and, Bool.and_assoc]
theorem md_ask_r {kd : Nat} (hm60 : m.length ≤ 60) (hkd : kd < 2 ^ 31) : ∀ (Rs : List rowT) (k : Nat) (b : Bool) (hs : List Nat) (s : mg_s), R.drop k = Rs → k ≤ R.length → hs.length ≤ k → isTabM s R → s.1 141 10 = nI m.length → holdA s 148 0 m → isHit s hs → wp L xs (d + 1) 121 50 [some (.ref 141), some (.int (nI kd)), some (.int (nI (bI b))), some (.int (nI k))] [] s (fun v s' => v = some (.int (nI (bI (b && f_fine m Rs)))) ∧ mfr s s' [15] [150] ∧ isHit s' (hs ++ f_hits m kd Rs k)) := by
  intro Rs
  induction Rs with
  | nil =>
    intro k b hs s hk hkl hhk T hn hm hh
    have hR16 := T.2.1
    have hkl2 : R.length ≤ k := List.drop_eq_nil_iff.mp hk
    rw [f_fine, Bool.and_true, f_hits, List.append_nil]
    refine wg_iload_n (d121_50 L xs) rfl ?_
    refine wg_aload_n (d121_51 L xs) rfl ?_
    refine wg_get (d121_52 L xs) (kd := 1) (cj := 9) (k0 := 3) rfl (Or.inl rfl) (by decide) rfl rfl ?_
    refine wg_top (y := (nI R.length)) T.1 ?_
    refine wn_icmp_ge (d121_55 L xs) (x := k) (y := R.length) (by omega) (by omega) (t := 122) (by decide) (fun h1 => ?_) (fun h1 => by omega)
    refine wg_iload_n (d121_122 L xs) rfl ?_
    exact wg_iret (d121_123 L xs) rfl (nar_b b) ⟨rfl, mfr.rf s [15] [150], hh⟩
  | cons q Rs ih =>
    intro k b hs s hk hkl hhk T hn hm hh
    have hR16 := T.2.1
    obtain ⟨hk1, hk2, hk3⟩ := drop_cons hk
    have hq := T.2.2 k q hk1
    have h4 := hq.2.1
    have hbl := bI_lt (decide (q.2.1 = m))
    have hbb := bI_lt b
    rw [f_fine, f_hits]
    refine wg_iload_n (d121_50 L xs) rfl ?_
    refine wg_aload_n (d121_51 L xs) rfl ?_
    refine wg_get (d121_52 L xs) (kd := 1) (cj := 9) (k0 := 3) rfl (Or.inl rfl) (by decide) rfl rfl ?_
    refine wg_top (y := (nI R.length)) T.1 ?_
    refine wn_icmp_ge (d121_55 L xs) (x := k) (y := R.length) (by omega) (by omega) (t := 122) (by decide) (fun h1 => by omega) (fun h1 => ?_)
    refine wg_aload_n (d121_58 L xs) rfl ?_
    refine wg_iload_n (d121_59 L xs) rfl ?_
    refine wg_invv (d121_60 L xs) (kd := 7) (mj := 122) (n := 1) rfl (Or.inl rfl) (ys := [.int (nI k)]) (r := []) rfl rfl (by decide) rfl rfl (Nat.le_of_ble_eq_true rfl) (md_bears hn hm hq.1 (by omega) hm60 (by have := t_name_len hq.2.2.1; omega)) ?_
    rintro _ _ ⟨rfl, rfl⟩
    refine wn_if_eq (d121_63 L xs) (x := bI (decide (q.2.1 = m))) (by omega) (t := 116) (by decide) (fun h2 => ?_) (fun h2 => ?_)
    · refine wg_iinc (d121_116 L xs) (y := (nI (k + 1))) (ls' := [some (.ref 141), some (.int (nI kd)), some (.int (nI (bI b))), some (.int (nI (k + 1)))]) rfl (nI_add k 1) rfl ?_
      refine wg_goto (d121_119 L xs) (t := 50) (by decide) ?_
      rw [if_neg (fun e => of_decide_eq_false (bI_f (b := decide (q.2.1 = m)) (by omega)) e.1), bI_f (b := decide (q.2.1 = m)) (by omega), Bool.false_and, Bool.not_false, Bool.true_and]; exact ih (k + 1) b hs s hk3 (by omega) (by omega) T hn hm hh
    · refine wg_iload_n (d121_66 L xs) rfl ?_
      refine wn_if_eq (d121_67 L xs) (x := bI b) (by omega) (t := 84) (by decide) (fun h3 => ?_) (fun h3 => ?_)
      · refine wg_iconst (d121_84 L xs) (x := 0) (by decide) ?_
        refine wg_istore_n (d121_85 L xs) (ls' := [some (.ref 141), some (.int (nI kd)), some (.int 0), some (.int (nI k))]) (Nat.le_of_ble_eq_true rfl) rfl ?_
        refine wg_aload_n (d121_86 L xs) rfl ?_
        refine wg_get (d121_87 L xs) (kd := 1) (cj := 9) (k0 := 4) rfl (Or.inl rfl) (by decide) rfl rfl ?_
        refine wg_iload_n (d121_90 L xs) rfl ?_
        refine wg_iald (d121_91 L xs) (n := 16) (by decide) rfl (vp_in_nI (n := k) (by omega) (by omega)) ?_
        refine wg_top (y := nI q.1) (by rw [nI_nat (by omega)]; exact hq.1.1) ?_
        refine wg_iload_n (d121_92 L xs) rfl ?_
        refine wn_icmp_ne (d121_93 L xs) (x := q.1) (y := kd) (by omega) (by omega) (t := 116) (by decide) (fun h4 => ?_) (fun h4 => ?_)
        · refine wg_iinc (d121_116 L xs) (y := (nI (k + 1))) (ls' := [some (.ref 141), some (.int (nI kd)), some (.int 0), some (.int (nI (k + 1)))]) rfl (nI_add k 1) rfl ?_
          refine wg_goto (d121_119 L xs) (t := 50) (by decide) ?_
          rw [if_neg (fun e => by omega), show (b && (!(decide (q.2.1 = m) && decide (q.1 = 3)) && f_fine m Rs)) = (false && f_fine m Rs) from ask_b (by omega) (by first | (rw [bI_f (b := b) (by omega)]; rfl) | (rw [decide_eq_true (show q.1 = 3 by omega)]; simp) | (rw [bI_t (b := b) (by omega), decide_eq_false (show ¬ q.1 = 3 by omega)]; rfl))]; exact ih (k + 1) false hs s hk3 (by omega) (by omega) T hn hm hh
        · refine wg_aload_n (d121_96 L xs) rfl ?_
          refine wg_get (d121_97 L xs) (kd := 1) (cj := 9) (k0 := 16) rfl (Or.inl rfl) (by decide) rfl rfl ?_
          refine wg_aload_n (d121_100 L xs) rfl ?_
          refine wg_get (d121_101 L xs) (kd := 1) (cj := 9) (k0 := 15) rfl (Or.inl rfl) (by decide) rfl rfl ?_
          refine wg_top (y := (nI hs.length)) hh.1 ?_
          refine wg_iload_n (d121_104 L xs) rfl ?_
          refine wg_iast (d121_105 L xs) (n := 16) (by decide) rfl (vp_in_nI (n := hs.length) (by omega) (by omega)) (ar_dA isA_all.2.2.2.2.2.2.2.2.1) ?_
          rw [nI_nat (n := hs.length) (by omega)]
          refine wg_aload_n (d121_106 L xs) rfl ?_
          refine wg_dup (d121_107 L xs) rfl ?_
          refine wg_get (d121_108 L xs) (kd := 1) (cj := 9) (k0 := 15) rfl (Or.inl rfl) (by decide) rfl rfl ?_
          refine wg_top (y := (nI hs.length)) hh.1 ?_
          refine wg_iconst (d121_111 L xs) (x := 1) (by decide) ?_
          refine wg_iadd (d121_112 L xs) ?_
          refine wg_top (y := (nI (hs.length + 1))) (nI_add hs.length 1) ?_
          refine wg_puti (d121_113 L xs) (cj := 9) (k0 := 15) rfl (by decide) rfl (Nat.le_of_ble_eq_true rfl) rfl rfl rfl ?_
          refine wg_iinc (d121_116 L xs) (y := (nI (k + 1))) (ls' := [some (.ref 141), some (.int (nI kd)), some (.int 0), some (.int (nI (k + 1)))]) rfl (nI_add k 1) rfl ?_
          refine wg_goto (d121_119 L xs) (t := 50) (by decide) ?_
          rw [if_pos ⟨of_decide_eq_true (bI_t (b := decide (q.2.1 = m)) (by omega)), by omega⟩, show (b && (!(decide (q.2.1 = m) && decide (q.1 = 3)) && f_fine m Rs)) = (false && f_fine m Rs) from ask_b (by omega) (by first | (rw [bI_f (b := b) (by omega)]; rfl) | (rw [decide_eq_true (show q.1 = 3 by omega)]; simp) | (rw [bI_t (b := b) (by omega), decide_eq_false (show ¬ q.1 = 3 by omega)]; rfl))]
          have hf : mfr s _ [15] [150] := (mfr_A s (a := 150) (j := hs.length) (x := nI k) (by decide)).trans (mfr_I (mg_A s 150 hs.length (nI k)) (k := 15) (x := nI (hs.length + 1)) (by decide))
          refine wp_mono (ih (k + 1) false (hs ++ [k]) _ hk3 (by omega) (by rw [List.length_append, List.length_singleton]; omega) (hf.tab (by decide) (fun a h1 h2 => by simp; omega) T) hn (hf.hold (by decide) hm) (isHit_add hh)) (fun v s' h => ⟨h.1, hf.trans h.2.1, ?_⟩)
          have h9 := h.2.2
          rw [List.append_assoc, List.singleton_append] at h9
          exact h9
      · refine wg_aload_n (d121_70 L xs) rfl ?_
        refine wg_get (d121_71 L xs) (kd := 1) (cj := 9) (k0 := 4) rfl (Or.inl rfl) (by decide) rfl rfl ?_
        refine wg_iload_n (d121_74 L xs) rfl ?_
        refine wg_iald (d121_75 L xs) (n := 16) (by decide) rfl (vp_in_nI (n := k) (by omega) (by omega)) ?_
        refine wg_top (y := nI q.1) (by rw [nI_nat (by omega)]; exact hq.1.1) ?_
        refine wg_iconst (d121_76 L xs) (x := 3) (by decide) ?_
        refine wn_icmp_eq (d121_77 L xs) (x := q.1) (y := 3) (by omega) (by omega) (t := 84) (by decide) (fun h5 => ?_) (fun h5 => ?_)
        · refine wg_iconst (d121_84 L xs) (x := 0) (by decide) ?_
          refine wg_istore_n (d121_85 L xs) (ls' := [some (.ref 141), some (.int (nI kd)), some (.int 0), some (.int (nI k))]) (Nat.le_of_ble_eq_true rfl) rfl ?_
          refine wg_aload_n (d121_86 L xs) rfl ?_
          refine wg_get (d121_87 L xs) (kd := 1) (cj := 9) (k0 := 4) rfl (Or.inl rfl) (by decide) rfl rfl ?_
          refine wg_iload_n (d121_90 L xs) rfl ?_
          refine wg_iald (d121_91 L xs) (n := 16) (by decide) rfl (vp_in_nI (n := k) (by omega) (by omega)) ?_
          refine wg_top (y := nI q.1) (by rw [nI_nat (by omega)]; exact hq.1.1) ?_
          refine wg_iload_n (d121_92 L xs) rfl ?_
          refine wn_icmp_ne (d121_93 L xs) (x := q.1) (y := kd) (by omega) (by omega) (t := 116) (by decide) (fun h6 => ?_) (fun h6 => ?_)
          · refine wg_iinc (d121_116 L xs) (y := (nI (k + 1))) (ls' := [some (.ref 141), some (.int (nI kd)), some (.int 0), some (.int (nI (k + 1)))]) rfl (nI_add k 1) rfl ?_
            refine wg_goto (d121_119 L xs) (t := 50) (by decide) ?_
            rw [if_neg (fun e => by omega), show (b && (!(decide (q.2.1 = m) && decide (q.1 = 3)) && f_fine m Rs)) = (false && f_fine m Rs) from ask_b (by omega) (by first | (rw [bI_f (b := b) (by omega)]; rfl) | (rw [decide_eq_true (show q.1 = 3 by omega)]; simp) | (rw [bI_t (b := b) (by omega), decide_eq_false (show ¬ q.1 = 3 by omega)]; rfl))]; exact ih (k + 1) false hs s hk3 (by omega) (by omega) T hn hm hh
          · refine wg_aload_n (d121_96 L xs) rfl ?_
            refine wg_get (d121_97 L xs) (kd := 1) (cj := 9) (k0 := 16) rfl (Or.inl rfl) (by decide) rfl rfl ?_
            refine wg_aload_n (d121_100 L xs) rfl ?_
            refine wg_get (d121_101 L xs) (kd := 1) (cj := 9) (k0 := 15) rfl (Or.inl rfl) (by decide) rfl rfl ?_
            refine wg_top (y := (nI hs.length)) hh.1 ?_
            refine wg_iload_n (d121_104 L xs) rfl ?_
            refine wg_iast (d121_105 L xs) (n := 16) (by decide) rfl (vp_in_nI (n := hs.length) (by omega) (by omega)) (ar_dA isA_all.2.2.2.2.2.2.2.2.1) ?_
            rw [nI_nat (n := hs.length) (by omega)]
            refine wg_aload_n (d121_106 L xs) rfl ?_
            refine wg_dup (d121_107 L xs) rfl ?_
            refine wg_get (d121_108 L xs) (kd := 1) (cj := 9) (k0 := 15) rfl (Or.inl rfl) (by decide) rfl rfl ?_
            refine wg_top (y := (nI hs.length)) hh.1 ?_
            refine wg_iconst (d121_111 L xs) (x := 1) (by decide) ?_
            refine wg_iadd (d121_112 L xs) ?_
            refine wg_top (y := (nI (hs.length + 1))) (nI_add hs.length 1) ?_
            refine wg_puti (d121_113 L xs) (cj := 9) (k0 := 15) rfl (by decide) rfl (Nat.le_of_ble_eq_true rfl) rfl rfl rfl ?_
            refine wg_iinc (d121_116 L xs) (y := (nI (k + 1))) (ls' := [some (.ref 141), some (.int (nI kd)), some (.int 0), some (.int (nI (k + 1)))]) rfl (nI_add k 1) rfl ?_
            refine wg_goto (d121_119 L xs) (t := 50) (by decide) ?_
            rw [if_pos ⟨of_decide_eq_true (bI_t (b := decide (q.2.1 = m)) (by omega)), by omega⟩, show (b && (!(decide (q.2.1 = m) && decide (q.1 = 3)) && f_fine m Rs)) = (false && f_fine m Rs) from ask_b (by omega) (by first | (rw [bI_f (b := b) (by omega)]; rfl) | (rw [decide_eq_true (show q.1 = 3 by omega)]; simp) | (rw [bI_t (b := b) (by omega), decide_eq_false (show ¬ q.1 = 3 by omega)]; rfl))]
            have hf : mfr s _ [15] [150] := (mfr_A s (a := 150) (j := hs.length) (x := nI k) (by decide)).trans (mfr_I (mg_A s 150 hs.length (nI k)) (k := 15) (x := nI (hs.length + 1)) (by decide))
            refine wp_mono (ih (k + 1) false (hs ++ [k]) _ hk3 (by omega) (by rw [List.length_append, List.length_singleton]; omega) (hf.tab (by decide) (fun a h1 h2 => by simp; omega) T) hn (hf.hold (by decide) hm) (isHit_add hh)) (fun v s' h => ⟨h.1, hf.trans h.2.1, ?_⟩)
            have h9 := h.2.2
            rw [List.append_assoc, List.singleton_append] at h9
            exact h9
        · refine wg_iconst (d121_80 L xs) (x := 1) (by decide) ?_
          refine wg_goto (d121_81 L xs) (t := 85) (by decide) ?_
          refine wg_istore_n (d121_85 L xs) (ls' := [some (.ref 141), some (.int (nI kd)), some (.int 1), some (.int (nI k))]) (Nat.le_of_ble_eq_true rfl) rfl ?_
          refine wg_aload_n (d121_86 L xs) rfl ?_
          refine wg_get (d121_87 L xs) (kd := 1) (cj := 9) (k0 := 4) rfl (Or.inl rfl) (by decide) rfl rfl ?_
          refine wg_iload_n (d121_90 L xs) rfl ?_
          refine wg_iald (d121_91 L xs) (n := 16) (by decide) rfl (vp_in_nI (n := k) (by omega) (by omega)) ?_
          refine wg_top (y := nI q.1) (by rw [nI_nat (by omega)]; exact hq.1.1) ?_
          refine wg_iload_n (d121_92 L xs) rfl ?_
          refine wn_icmp_ne (d121_93 L xs) (x := q.1) (y := kd) (by omega) (by omega) (t := 116) (by decide) (fun h7 => ?_) (fun h7 => ?_)
          · refine wg_iinc (d121_116 L xs) (y := (nI (k + 1))) (ls' := [some (.ref 141), some (.int (nI kd)), some (.int 1), some (.int (nI (k + 1)))]) rfl (nI_add k 1) rfl ?_
            refine wg_goto (d121_119 L xs) (t := 50) (by decide) ?_
            rw [if_neg (fun e => by omega), show (b && (!(decide (q.2.1 = m) && decide (q.1 = 3)) && f_fine m Rs)) = (true && f_fine m Rs) from ask_b (by omega) (by first | (rw [bI_f (b := b) (by omega)]; rfl) | (rw [decide_eq_true (show q.1 = 3 by omega)]; simp) | (rw [bI_t (b := b) (by omega), decide_eq_false (show ¬ q.1 = 3 by omega)]; rfl))]; exact ih (k + 1) true hs s hk3 (by omega) (by omega) T hn hm hh
          · refine wg_aload_n (d121_96 L xs) rfl ?_
            refine wg_get (d121_97 L xs) (kd := 1) (cj := 9) (k0 := 16) rfl (Or.inl rfl) (by decide) rfl rfl ?_
            refine wg_aload_n (d121_100 L xs) rfl ?_
            refine wg_get (d121_101 L xs) (kd := 1) (cj := 9) (k0 := 15) rfl (Or.inl rfl) (by decide) rfl rfl ?_
            refine wg_top (y := (nI hs.length)) hh.1 ?_
            refine wg_iload_n (d121_104 L xs) rfl ?_
            refine wg_iast (d121_105 L xs) (n := 16) (by decide) rfl (vp_in_nI (n := hs.length) (by omega) (by omega)) (ar_dA isA_all.2.2.2.2.2.2.2.2.1) ?_
            rw [nI_nat (n := hs.length) (by omega)]
            refine wg_aload_n (d121_106 L xs) rfl ?_
            refine wg_dup (d121_107 L xs) rfl ?_
            refine wg_get (d121_108 L xs) (kd := 1) (cj := 9) (k0 := 15) rfl (Or.inl rfl) (by decide) rfl rfl ?_
            refine wg_top (y := (nI hs.length)) hh.1 ?_
            refine wg_iconst (d121_111 L xs) (x := 1) (by decide) ?_
            refine wg_iadd (d121_112 L xs) ?_
            refine wg_top (y := (nI (hs.length + 1))) (nI_add hs.length 1) ?_
            refine wg_puti (d121_113 L xs) (cj := 9) (k0 := 15) rfl (by decide) rfl (Nat.le_of_ble_eq_true rfl) rfl rfl rfl ?_
            refine wg_iinc (d121_116 L xs) (y := (nI (k + 1))) (ls' := [some (.ref 141), some (.int (nI kd)), some (.int 1), some (.int (nI (k + 1)))]) rfl (nI_add k 1) rfl ?_
            refine wg_goto (d121_119 L xs) (t := 50) (by decide) ?_
            rw [if_pos ⟨of_decide_eq_true (bI_t (b := decide (q.2.1 = m)) (by omega)), by omega⟩, show (b && (!(decide (q.2.1 = m) && decide (q.1 = 3)) && f_fine m Rs)) = (true && f_fine m Rs) from ask_b (by omega) (by first | (rw [bI_f (b := b) (by omega)]; rfl) | (rw [decide_eq_true (show q.1 = 3 by omega)]; simp) | (rw [bI_t (b := b) (by omega), decide_eq_false (show ¬ q.1 = 3 by omega)]; rfl))]
            have hf : mfr s _ [15] [150] := (mfr_A s (a := 150) (j := hs.length) (x := nI k) (by decide)).trans (mfr_I (mg_A s 150 hs.length (nI k)) (k := 15) (x := nI (hs.length + 1)) (by decide))
            refine wp_mono (ih (k + 1) true (hs ++ [k]) _ hk3 (by omega) (by rw [List.length_append, List.length_singleton]; omega) (hf.tab (by decide) (fun a h1 h2 => by simp; omega) T) hn (hf.hold (by decide) hm) (isHit_add hh)) (fun v s' h => ⟨h.1, hf.trans h.2.1, ?_⟩)
            have h9 := h.2.2
            rw [List.append_assoc, List.singleton_append] at h9
            exact h9
end MA
