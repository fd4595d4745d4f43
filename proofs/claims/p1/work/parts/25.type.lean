/-! type, on a fresh text: the class's two loops, the reference's one -/
def mg_ok1 (c : Int32) : Prop := c = 0 ∨ (¬ c < 32 ∧ ¬ 126 < c)
theorem ty_sv (m : Nat) : nI (8 * (m + 1)) - 8 = nI (8 * m) := by
  have h := pk_sub (a := 8 * (m + 1)) (b := 8) (by omega)
  rw [show 8 * (m + 1) - 8 = 8 * m by omega] at h
  exact h
theorem ty_dec (x : Int32) : x + Int32.ofInt (-8) = x - 8 := by rw [Int32.sub_eq_add_neg]; rfl
theorem ax_fi {ty : FieldType} (e : ty = .int) (x : Int32) : ax_fit ty (.int x) = true := by
  subst e
  show (decide (Value.int x = Value.int x) && true) = true
  rw [decide_eq_true rfl]; rfl
section TY
variable (L : Nat) (xs : Nat → Int32) {d : Nat} {h : ax_H} {p : Int64}
theorem ty_by {s : Int32} : ax_Ca (mgT L xs) (d + 1) 14 [.long p, .int s] h (.inl (some (.int (mg_by p s))), h) := by
  refine ag_call (Nat.le_of_ble_eq_true rfl) ?_
  show ax_Go (mgT L xs) d 14 0 [some (.long p), none, some (.int s)] [] h _
  refine ag_lload_n (d14_0 L xs) rfl ?_
  refine ag_iload_n (d14_1 L xs) rfl ?_
  refine ag_lushr (d14_2 L xs) ?_
  refine ag_l2i (d14_3 L xs) ?_
  refine ag_sipush (d14_4 L xs) (x := 255) (by decide) ?_
  refine ag_iand (d14_7 L xs) ?_
  exact ag_iret (d14_8 L xs) rfl rfl
theorem ty_l1 (o : ax_O) : ∀ (m : Nat), m ≤ 8 → ∀ (j : Nat) (c5 : Option Value), j + m ≤ 8 →
    ((∃ i, i < m ∧ ¬ mg_ok1 (mg_by p (nI (8 * i)))) → o = (.inl (some (.int 0)), h)) →
    ((∀ i, i < m → mg_ok1 (mg_by p (nI (8 * i)))) → ∀ (j' : Nat) (c' : Option Value), j' ≤ 8 → ax_Go (mgT L xs) (d + 2) 13 49 [some (.ref 0), some (.long p), none, some (.int (nI j')), some (.int (-8)), c'] [] h o) →
    ax_Go (mgT L xs) (d + 2) 13 6 [some (.ref 0), some (.long p), none, some (.int (nI j)), some (.int (nI (8 * m) - 8)), c5] [] h o := by
  intro m
  induction m with
  | zero =>
    intro _ j c5 hj bad good
    rw [show nI (8 * 0) - 8 = -8 by decide]
    refine ag_iload (d13_6 L xs) rfl ?_
    refine ag_if_lt (d13_8 L xs) (t := 49) (by decide) (fun _ => ?_) (fun hn => absurd (by decide) hn)
    exact good (fun i hi => absurd hi (Nat.not_lt_zero i)) j c5 (by omega)
  | succ m ih =>
    intro hm j c5 hj bad good
    rw [ty_sv m]
    refine ag_iload (d13_6 L xs) rfl ?_
    refine ag_if_lt (d13_8 L xs) (t := 49) (by decide) (fun hp => absurd hp (nI_pos (by omega))) (fun _ => ?_)
    refine ag_lload_n (d13_11 L xs) rfl ?_
    refine ag_iload (d13_12 L xs) rfl ?_
    refine ag_invs (d13_14 L xs) (kd := 6) (mj := 14) (n := 2) rfl (Or.inl rfl) (xs := [.int (nI (8 * m)), .long p]) (r := []) rfl rfl (Nat.le_of_ble_eq_true rfl) (ty_by L xs (d := d + 1)) ?_
    refine ag_istore (d13_17 L xs) (ls' := [some (.ref 0), some (.long p), none, some (.int (nI j)), some (.int (nI (8 * m))), some (.int (mg_by p (nI (8 * m))))]) (Nat.le_of_ble_eq_true rfl) rfl ?_
    refine ag_iload (d13_19 L xs) rfl ?_
    have tail : ∀ j0, j0 + m ≤ 8 → mg_ok1 (mg_by p (nI (8 * m))) → ax_Go (mgT L xs) (d + 2) 13 43 [some (.ref 0), some (.long p), none, some (.int (nI j0)), some (.int (nI (8 * m))), some (.int (mg_by p (nI (8 * m))))] [] h o := by
      intro j0 hj0 hok
      refine ag_iinc (d13_43 L xs) (y := nI (8 * m) - 8) (ls' := [some (.ref 0), some (.long p), none, some (.int (nI j0)), some (.int (nI (8 * m) - 8)), some (.int (mg_by p (nI (8 * m))))]) rfl (ty_dec _) rfl ?_
      refine ag_goto (d13_46 L xs) (t := 6) (by decide) ?_
      refine ih (by omega) j0 _ hj0 (fun ⟨i, hi, hb⟩ => bad ⟨i, by omega, hb⟩) (fun hg j' c' hj' => good (fun i hi => ?_) j' c' hj')
      rcases Nat.lt_succ_iff_lt_or_eq.mp hi with h1 | rfl
      · exact hg i h1
      · exact hok
    have badend : ¬ mg_ok1 (mg_by p (nI (8 * m))) → ax_Go (mgT L xs) (d + 2) 13 38 [some (.ref 0), some (.long p), none, some (.int (nI j)), some (.int (nI (8 * m))), some (.int (mg_by p (nI (8 * m))))] [] h o := by
      intro hb
      rw [bad ⟨m, by omega, hb⟩]
      refine ag_iconst (d13_38 L xs) (x := 0) (by decide) ?_
      exact ag_iret (d13_39 L xs) rfl rfl
    refine ag_if_eq (d13_21 L xs) (t := 43) (by decide) (fun h0 => tail j (by omega) (Or.inl h0)) (fun h0 => ?_)
    refine ag_iload (d13_24 L xs) rfl ?_
    refine ag_bipush (d13_26 L xs) (x := 32) (by decide) ?_
    refine ag_icmp_lt (d13_28 L xs) (t := 38) (by decide) (fun h1 => badend (fun q => q.elim h0 (fun q => q.1 h1))) (fun h1 => ?_)
    refine ag_iload (d13_31 L xs) rfl ?_
    refine ag_bipush (d13_33 L xs) (x := 126) (by decide) ?_
    refine ag_icmp_le (d13_35 L xs) (t := 40) (by decide) (fun h2 => ?_) (fun h2 => badend (fun q => q.elim h0 (fun q => q.2 (Int32.not_le.mp h2))))
    refine ag_iinc (d13_40 L xs) (y := nI (j + 1)) (ls' := [some (.ref 0), some (.long p), none, some (.int (nI (j + 1))), some (.int (nI (8 * m))), some (.int (mg_by p (nI (8 * m))))]) rfl (nI_1 j) rfl ?_
    exact tail (j + 1) (by omega) (Or.inr ⟨h1, Int32.not_lt.mpr h2⟩)
theorem ty_add {n : Nat} {f : Nat → Int32} {c : Int32} (hn : n < 100) (hz : h.2.1 = 167) (F1 : h.1 1 = some (.inr (1, [.ref 2, .int (nI n)]))) (F2 : h.1 2 = some (.inl (1, 100, .inl f))) :
    ax_Ca (mgT L xs) (d + 1) 16 [.ref 1, .int c] h (.inl none, ax_up (ax_up h 2 (.inl (1, 100, .inl (upd f (nI n).toNatClampNeg (vp_nar .char c))))) 1 (.inr (1, [.ref 2, .int (nI (n + 1))]))) := by
  refine ag_call (Nat.le_of_ble_eq_true rfl) ?_
  show ax_Go (mgT L xs) d 16 0 [some (.ref 1), some (.int c)] [] h _
  refine ag_aload_n (d16_0 L xs) rfl ?_
  refine ag_get (d16_1 L xs) (kd := 1) (cj := 1) (k0 := 1) rfl (Or.inl rfl) F1 rfl ?_
  refine ag_aload_n (d16_4 L xs) rfl ?_
  refine ag_get (d16_5 L xs) (kd := 1) (cj := 1) (k0 := 0) rfl (Or.inl rfl) F1 rfl ?_
  refine ag_alen (d16_8 L xs) F2 (by decide) (Nat.le_of_ble_eq_true rfl) ?_
  refine ag_icmp_ge (d16_9 L xs) (t := 32) (by decide) (fun hp => absurd hp (nI_ge hn (by decide))) (fun _ => ?_)
  refine ag_aload_n (d16_12 L xs) rfl ?_
  refine ag_get (d16_13 L xs) (kd := 1) (cj := 1) (k0 := 0) rfl (Or.inl rfl) F1 rfl ?_
  refine ag_aload_n (d16_16 L xs) rfl ?_
  refine ag_get (d16_17 L xs) (kd := 1) (cj := 1) (k0 := 1) rfl (Or.inl rfl) F1 rfl ?_
  refine ag_iload_n (d16_20 L xs) rfl ?_
  refine ag_cast (d16_21 L xs) F2 (ax_lt hz (Nat.le_of_ble_eq_true rfl)) rfl (vp_in_nI hn (by decide)) ?_
  have F1' : (ax_up h 2 (.inl (1, 100, .inl (upd f (nI n).toNatClampNeg (vp_nar .char c))))).1 1 = some (.inr (1, [.ref 2, .int (nI n)])) := (ax_up_ne _ _ (by decide)).trans F1
  refine ag_aload_n (d16_22 L xs) rfl ?_
  refine ag_dup (d16_23 L xs) rfl ?_
  refine ag_get (d16_24 L xs) (kd := 1) (cj := 1) (k0 := 1) rfl (Or.inl rfl) F1' rfl ?_
  refine ag_iconst (d16_27 L xs) (x := 1) (by decide) ?_
  refine ag_iadd (d16_28 L xs) ?_
  refine ag_top (nI_1 n) ?_
  refine ag_put (d16_29 L xs) (cj := 1) (k0 := 1) rfl F1' (ax_lt hz (Nat.le_of_ble_eq_true rfl)) (Nat.le_of_ble_eq_true rfl) (ax_fi rfl _) rfl ?_
  exact ag_vret (d16_32 L xs) rfl
theorem ty_l2 : ∀ (m : Nat), m ≤ 8 → ∀ (n : Nat) (h : ax_H) (f : Nat → Int32), n + m ≤ 8 → h.2.1 = 167 → h.1 0 = some (.inr (0, [.ref 1, .ref 3, .ref 87, .ref 137])) → h.1 1 = some (.inr (1, [.ref 2, .int (nI n)])) → h.1 2 = some (.inl (1, 100, .inl f)) →
    ∃ h' : ax_H, (∀ (a3 : Int32) (c5 : Option Value), ax_Go (mgT L xs) (d + 2) 13 69 [some (.ref 0), some (.long p), none, some (.int a3), some (.int (nI (8 * m) - 8)), c5] [] h (.inl (some (.int 1)), h')) ∧ h'.2.1 = 167 ∧ h'.2.2.1 = h.2.2.1 ∧ h'.1 141 = h.1 141 ∧ h'.1 142 = h.1 142 := by
  intro m
  induction m with
  | zero =>
    intro _ n h f _ hz F0 F1 F2
    refine ⟨h, fun a3 c5 => ?_, hz, rfl, rfl, rfl⟩
    rw [show nI (8 * 0) - 8 = -8 by decide]
    refine ag_iload (d13_69 L xs) rfl ?_
    refine ag_if_lt (d13_71 L xs) (t := 103) (by decide) (fun _ => ?_) (fun hn => absurd (by decide) hn)
    refine ag_iconst (d13_103 L xs) (x := 1) (by decide) ?_
    exact ag_iret (d13_104 L xs) rfl rfl
  | succ m ih =>
    intro hm n h f hnm hz F0 F1 F2
    have head : ∀ (a3 : Int32) (c5 : Option Value) (o : ax_O), ((mg_by p (nI (8 * m)) = 0) → ax_Go (mgT L xs) (d + 2) 13 97 [some (.ref 0), some (.long p), none, some (.int a3), some (.int (nI (8 * m))), some (.int (mg_by p (nI (8 * m))))] [] h o) → (¬ (mg_by p (nI (8 * m)) = 0) → ax_Go (mgT L xs) (d + 2) 13 87 [some (.ref 0), some (.long p), none, some (.int a3), some (.int (nI (8 * m))), some (.int (mg_by p (nI (8 * m))))] [] h o) →
        ax_Go (mgT L xs) (d + 2) 13 69 [some (.ref 0), some (.long p), none, some (.int a3), some (.int (nI (8 * (m + 1)) - 8)), c5] [] h o := by
      intro a3 c5 o k0 k1
      rw [ty_sv m]
      refine ag_iload (d13_69 L xs) rfl ?_
      refine ag_if_lt (d13_71 L xs) (t := 103) (by decide) (fun hp => absurd hp (nI_pos (by omega))) (fun _ => ?_)
      refine ag_lload_n (d13_74 L xs) rfl ?_
      refine ag_iload (d13_75 L xs) rfl ?_
      refine ag_invs (d13_77 L xs) (kd := 6) (mj := 14) (n := 2) rfl (Or.inl rfl) (xs := [.int (nI (8 * m)), .long p]) (r := []) rfl rfl (Nat.le_of_ble_eq_true rfl) (ty_by L xs (d := d + 1)) ?_
      refine ag_istore (d13_80 L xs) (ls' := [some (.ref 0), some (.long p), none, some (.int a3), some (.int (nI (8 * m))), some (.int (mg_by p (nI (8 * m))))]) (Nat.le_of_ble_eq_true rfl) rfl ?_
      refine ag_iload (d13_82 L xs) rfl ?_
      exact ag_if_eq (d13_84 L xs) (t := 97) (by decide) k0 k1
    have tail : ∀ (a3 : Int32) (h2 : ax_H) (o : ax_O), ax_Go (mgT L xs) (d + 2) 13 69 [some (.ref 0), some (.long p), none, some (.int a3), some (.int (nI (8 * m) - 8)), some (.int (mg_by p (nI (8 * m))))] [] h2 o → ax_Go (mgT L xs) (d + 2) 13 97 [some (.ref 0), some (.long p), none, some (.int a3), some (.int (nI (8 * m))), some (.int (mg_by p (nI (8 * m))))] [] h2 o := by
      intro a3 h2 o k
      refine ag_iinc (d13_97 L xs) (y := nI (8 * m) - 8) (ls' := [some (.ref 0), some (.long p), none, some (.int a3), some (.int (nI (8 * m) - 8)), some (.int (mg_by p (nI (8 * m))))]) rfl (ty_dec _) rfl ?_
      exact ag_goto (d13_100 L xs) (t := 69) (by decide) k
    by_cases h0 : mg_by p (nI (8 * m)) = 0
    · obtain ⟨h', g, q⟩ := ih (by omega) n h f (by omega) hz F0 F1 F2
      exact ⟨h', fun a3 c5 => head a3 c5 _ (fun _ => tail a3 h _ (g a3 _)) (fun hn => absurd h0 hn), q⟩
    · obtain ⟨h', g, q1, q2, q3, q4⟩ := ih (by omega) (n + 1) (ax_up (ax_up h 2 (.inl (1, 100, .inl (upd f (nI n).toNatClampNeg (vp_nar .char ((mg_by p (nI (8 * m))).toUInt32 % 65536).toInt32))))) 1 (.inr (1, [.ref 2, .int (nI (n + 1))]))) _ (by omega) hz ((ax_up_ne _ _ (by decide)).trans ((ax_up_ne _ _ (by decide)).trans F0)) (ax_up_at _ _ _) ((ax_up_ne _ _ (by decide)).trans (ax_up_at _ _ _))
      refine ⟨h', fun a3 c5 => head a3 c5 _ (fun hp => absurd hp h0) (fun _ => ?_), q1, q2, q3.trans ((ax_up_ne _ _ (by decide)).trans (ax_up_ne _ _ (by decide))), q4.trans ((ax_up_ne _ _ (by decide)).trans (ax_up_ne _ _ (by decide)))⟩
      refine ag_aload_n (d13_87 L xs) rfl ?_
      refine ag_get (d13_88 L xs) (kd := 1) (cj := 0) (k0 := 0) rfl (Or.inl rfl) F0 rfl ?_
      refine ag_iload (d13_91 L xs) rfl ?_
      refine ag_i2c (d13_93 L xs) ?_
      refine ag_invv (d13_94 L xs) (kd := 7) (mj := 16) (n := 1) rfl (Or.inl rfl) (xs := [.int ((mg_by p (nI (8 * m))).toUInt32 % 65536).toInt32]) (r := []) rfl rfl F1 rfl (Nat.le_of_ble_eq_true rfl) (ty_add L xs (d := d + 1) (n := n) (by omega) hz F1 F2) ?_
      exact tail a3 _ _ (g a3 _)
theorem ty_size (F1 : h.1 1 = some (.inr (1, [.ref 2, .int 0]))) : ax_Ca (mgT L xs) (d + 1) 15 [.ref 1] h (.inl (some (.int 0)), h) := by
  refine ag_call (Nat.le_of_ble_eq_true rfl) ?_
  show ax_Go (mgT L xs) d 15 0 [some (.ref 1)] [] h _
  refine ag_aload_n (d15_0 L xs) rfl ?_
  refine ag_get (d15_1 L xs) (kd := 1) (cj := 1) (k0 := 1) rfl (Or.inl rfl) F1 rfl ?_
  exact ag_iret (d15_4 L xs) rfl rfl
/-- type of the class on a fresh text -/
theorem ty_x {f : Nat → Int32} (hz : h.2.1 = 167) (F0 : h.1 0 = some (.inr (0, [.ref 1, .ref 3, .ref 87, .ref 137]))) (F1 : h.1 1 = some (.inr (1, [.ref 2, .int 0]))) (F2 : h.1 2 = some (.inl (1, 100, .inl f))) :
    ((∀ i, i < 8 → mg_ok1 (mg_by p (nI (8 * i)))) → ∃ h' : ax_H, ax_Ca (mgT L xs) (d + 3) 13 [.ref 0, .long p] h (.inl (some (.int 1)), h') ∧ h'.2.1 = 167 ∧ h'.2.2.1 = h.2.2.1 ∧ h'.1 141 = h.1 141 ∧ h'.1 142 = h.1 142) ∧
    ((∃ i, i < 8 ∧ ¬ mg_ok1 (mg_by p (nI (8 * i)))) → ax_Ca (mgT L xs) (d + 3) 13 [.ref 0, .long p] h (.inl (some (.int 0)), h)) := by
  have start : ∀ o, ax_Go (mgT L xs) (d + 2) 13 6 [some (.ref 0), some (.long p), none, some (.int (nI 0)), some (.int (nI (8 * 8) - 8)), none] [] h o → ax_Go (mgT L xs) (d + 2) 13 0 [some (.ref 0), some (.long p), none, none, none, none] [] h o := by
    intro o k
    rw [show nI (8 * 8) - 8 = 56 by decide] at k
    refine ag_iconst (d13_0 L xs) (x := 0) (by decide) ?_
    refine ag_istore_n (d13_1 L xs) (ls' := [some (.ref 0), some (.long p), none, some (.int 0), none, none]) (Nat.le_of_ble_eq_true rfl) rfl ?_
    refine ag_bipush (d13_2 L xs) (x := 56) (by decide) ?_
    refine ag_istore (d13_4 L xs) (ls' := [some (.ref 0), some (.long p), none, some (.int 0), some (.int 56), none]) (Nat.le_of_ble_eq_true rfl) rfl ?_
    exact k
  constructor
  · intro hg
    obtain ⟨h', g, q⟩ := ty_l2 L xs (d := d) (p := p) 8 (by omega) 0 h f (by omega) hz F0 F1 F2
    refine ⟨h', ?_, q⟩
    refine ag_call (Nat.le_of_ble_eq_true rfl) ?_
    refine start _ (ty_l1 L xs _ 8 (by omega) 0 none (by omega) (fun ⟨i, hi, hb⟩ => absurd (hg i hi) hb) (fun _ j' c' hj' => ?_))
    refine ag_aload_n (d13_49 L xs) rfl ?_
    refine ag_get (d13_50 L xs) (kd := 1) (cj := 0) (k0 := 0) rfl (Or.inl rfl) F0 rfl ?_
    refine ag_invv (d13_53 L xs) (kd := 7) (mj := 15) (n := 0) rfl (Or.inl rfl) (xs := []) (r := []) rfl rfl F1 rfl (Nat.le_of_ble_eq_true rfl) (ty_size L xs (d := d + 1) F1) ?_
    refine ag_iload_n (d13_56 L xs) rfl ?_
    refine ag_iadd (d13_57 L xs) ?_
    refine ag_top (Int32.zero_add _) ?_
    refine ag_bipush (d13_58 L xs) (x := 100) (by decide) ?_
    refine ag_icmp_le (d13_60 L xs) (t := 65) (by decide) (fun _ => ?_) (fun hn => absurd (nI_le (show j' ≤ 100 by omega) (by decide)) hn)
    refine ag_bipush (d13_65 L xs) (x := 56) (by decide) ?_
    refine ag_istore (d13_67 L xs) (ls' := [some (.ref 0), some (.long p), none, some (.int (nI j')), some (.int 56), c']) (Nat.le_of_ble_eq_true rfl) rfl ?_
    have g := g (nI j') c'
    rw [show nI (8 * 8) - 8 = 56 by decide] at g
    exact g
  · intro hb
    refine ag_call (Nat.le_of_ble_eq_true rfl) ?_
    exact start _ (ty_l1 L xs _ 8 (by omega) 0 none (by omega) (fun _ => rfl) (fun hg => absurd hb (fun ⟨i, hi, hb⟩ => hb (hg i hi))))
end TY
