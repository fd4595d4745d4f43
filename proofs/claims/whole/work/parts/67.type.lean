/-! type, on any text: the class and the reference -/
/-- the byte number k of p -/
def bt (p : Int64) (k : Nat) : Nat := (mg_bm p (nI k)).toNatClampNeg
theorem bt_lt (p : Int64) (k : Nat) : bt p k < 256 ∧ mg_bm p (nI k) = nI (bt p k) := by
  obtain ⟨j, hj, e⟩ := pk_andE ((p >>> ((8 * nI k).toInt64 &&& 63)).toInt32) (m := 255) 8 (by decide)
  have e2 : mg_bm p (nI k) = nI j := e
  unfold bt
  rw [e2, nI_nat (by omega)]
  exact ⟨by omega, rfl⟩
theorem bt_m (p : Int64) (k : Nat) : (p >>> ((nI (8 * k)).toInt64 &&& 63)).toInt32 &&& 255 = nI (bt p k) := by
  rw [← (bt_lt p k).2]
  unfold mg_bm
  rw [show (8 : Int32) * nI k = nI (8 * k) from pk_mul 8 k]
theorem bt_c (p : Int64) {k : Nat} (h : k < 8) : mg_by p (nI (8 * k)) = nI (bt p k) := by rw [ty_eq p k h]; exact (bt_lt p k).2
/-- the letters of p, of its last m bytes -/
def t_bys (p : Int64) : Nat → List Nat
  | 0 => []
  | m + 1 => if bt p m = 0 then t_bys p m else bt p m :: t_bys p m
def t_gd (p : Int64) : Nat → Bool
  | 0 => true
  | m + 1 => (decide (bt p m = 0) || (decide (32 ≤ bt p m) && decide (bt p m ≤ 126))) && t_gd p m
theorem t_bys_len (p : Int64) : ∀ m, (t_bys p m).length ≤ m := by
  intro m
  induction m with
  | zero => exact Nat.le_refl _
  | succ m ih => rw [t_bys]; split <;> (try rw [List.length_cons]) <;> omega
theorem t_bys_ok (p : Int64) : ∀ m, t_gd p m = true → ∀ x ∈ t_bys p m, 32 ≤ x ∧ x < 127 := by
  intro m
  induction m with
  | zero => intro _ x hx; cases hx
  | succ m ih =>
    intro h x hx
    rw [t_gd, Bool.and_eq_true] at h
    rw [t_bys] at hx
    split at hx
    · exact ih h.2 x hx
    · rename_i h0
      rcases List.mem_cons.mp hx with rfl | hx
      · have := h.1
        rw [decide_eq_false h0, Bool.false_or, Bool.and_eq_true, decide_eq_true_eq, decide_eq_true_eq] at this
        omega
      · exact ih h.2 x hx
theorem gd_0 {p : Int64} {m : Nat} (h : bt p m = 0) : t_gd p (m + 1) = t_gd p m ∧ t_bys p (m + 1) = t_bys p m := by
  constructor
  · rw [t_gd, decide_eq_true h]; rfl
  · rw [t_bys, if_pos h]
theorem gd_1 {p : Int64} {m : Nat} (h0 : ¬ bt p m = 0) (h1 : 32 ≤ bt p m) (h2 : bt p m ≤ 126) : t_gd p (m + 1) = t_gd p m ∧ t_bys p (m + 1) = bt p m :: t_bys p m := by
  constructor
  · rw [t_gd, decide_eq_true h1, decide_eq_true h2]; simp
  · rw [t_bys, if_neg h0]
theorem gd_x {p : Int64} {m : Nat} (h0 : ¬ bt p m = 0) (h1 : bt p m < 32 ∨ 126 < bt p m) : t_gd p (m + 1) = false := by
  rw [t_gd, decide_eq_false h0, Bool.false_or]
  rcases h1 with h1 | h1
  · rw [decide_eq_false (show ¬ 32 ≤ bt p m by omega)]; rfl
  · rw [decide_eq_false (show ¬ bt p m ≤ 126 by omega), Bool.and_false]; rfl
section TY2
variable {L : Nat} {xs : Nat → Int32} {d : Nat} {p : Int64} {l : List Nat} {Q : Option Value → mg_s → Prop}
theorem gd_byte {s : mg_s} {k : Nat} (hk : k < 8) : ca L xs (d + 1) 14 [.long p, .int (nI (8 * k))] s (fun v s' => v = some (.int (nI (bt p k))) ∧ s = s') := by
  refine wg_call (Nat.le_of_ble_eq_true rfl) ?_
  show wp L xs d 14 0 [some (.long p), none, some (.int (nI (8 * k)))] [] s _
  refine wg_lload_n (d14_0 L xs) rfl ?_
  refine wg_iload_n (d14_1 L xs) rfl ?_
  refine wg_lushr (d14_2 L xs) ?_
  refine wg_l2i (d14_3 L xs) ?_
  refine wg_sipush (d14_4 L xs) (x := 255) (by decide) ?_
  refine wg_iand (d14_7 L xs) ?_
  refine wg_top (y := (nI (bt p k))) (bt_c p hk) ?_
  exact wg_iret (d14_8 L xs) rfl rfl ⟨rfl, rfl⟩
theorem ty_c1 {s : mg_s} : ∀ (m j : Nat) (c5 : Option Value), m + j ≤ 8 → (t_gd p m = false → Q (some (.int 0)) s) → (t_gd p m = true → ∀ c', wp L xs (d + 2) 13 49 [some (.ref 0), some (.long p), none, some (.int (nI (j + (t_bys p m).length))), some (.int (-8)), c'] [] s Q) → wp L xs (d + 2) 13 6 [some (.ref 0), some (.long p), none, some (.int (nI j)), some (.int (nI (8 * m) - 8)), c5] [] s Q := by
  intro m
  induction m with
  | zero =>
    intro j c5 hm bad good
    rw [show nI (8 * 0) - 8 = -8 by decide]
    refine wg_iload (d13_6 L xs) rfl ?_
    refine wg_if_lt (d13_8 L xs) (t := 49) (by decide) (fun _ => ?_) (fun hn => absurd (by decide) hn)
    exact good rfl c5
  | succ m ih =>
    intro j c5 hm bad good
    rw [ty_sv m]
    have hb := (bt_lt p m).1
    refine wg_iload (d13_6 L xs) rfl ?_
    refine wn_if_lt (d13_8 L xs) (x := 8 * m) (by omega) (t := 49) (by decide) (fun h1 => by omega) (fun h1 => ?_)
    refine wg_lload_n (d13_11 L xs) rfl ?_
    refine wg_iload (d13_12 L xs) rfl ?_
    refine wg_invs (d13_14 L xs) (kd := 6) (mj := 14) (n := 2) rfl (Or.inl rfl) (ys := [.int (nI (8 * m)), .long p]) (r := []) rfl rfl (Nat.le_of_ble_eq_true rfl) (gd_byte (by omega)) ?_
    rintro _ _ ⟨rfl, rfl⟩
    refine wg_istore (d13_17 L xs) (ls' := [some (.ref 0), some (.long p), none, some (.int (nI j)), some (.int (nI (8 * m))), some (.int (nI (bt p m)))]) (Nat.le_of_ble_eq_true rfl) rfl ?_
    refine wg_iload (d13_19 L xs) rfl ?_
    refine wn_if_eq (d13_21 L xs) (x := bt p m) (by omega) (t := 43) (by decide) (fun h2 => ?_) (fun h2 => ?_)
    · refine wg_iinc (d13_43 L xs) (y := (nI (8 * m) - 8)) (ls' := [some (.ref 0), some (.long p), none, some (.int (nI j)), some (.int (nI (8 * m) - 8)), some (.int (nI (bt p m)))]) rfl (ty_dec _) rfl ?_
      refine wg_goto (d13_46 L xs) (t := 6) (by decide) ?_
      exact ih j _ (by omega) (fun h => bad ((gd_0 (by omega)).1.trans h)) (fun h c' => by have := good ((gd_0 (by omega)).1.trans h) c'; rw [(gd_0 (p := p) (m := m) (by omega)).2] at this; exact this)
    · refine wg_iload (d13_24 L xs) rfl ?_
      refine wg_bipush (d13_26 L xs) (x := 32) (by decide) ?_
      refine wn_icmp_lt (d13_28 L xs) (x := bt p m) (y := 32) (by omega) (by omega) (t := 38) (by decide) (fun h3 => ?_) (fun h3 => ?_)
      · refine wg_iconst (d13_38 L xs) (x := 0) (by decide) ?_
        exact wg_iret (d13_39 L xs) rfl rfl (bad (gd_x (by omega) (by omega)))
      · refine wg_iload (d13_31 L xs) rfl ?_
        refine wg_bipush (d13_33 L xs) (x := 126) (by decide) ?_
        refine wn_icmp_le (d13_35 L xs) (x := bt p m) (y := 126) (by omega) (by omega) (t := 40) (by decide) (fun h4 => ?_) (fun h4 => ?_)
        · refine wg_iinc (d13_40 L xs) (y := (nI (j + 1))) (ls' := [some (.ref 0), some (.long p), none, some (.int (nI (j + 1))), some (.int (nI (8 * m))), some (.int (nI (bt p m)))]) rfl (nI_add j 1) rfl ?_
          refine wg_iinc (d13_43 L xs) (y := (nI (8 * m) - 8)) (ls' := [some (.ref 0), some (.long p), none, some (.int (nI (j + 1))), some (.int (nI (8 * m) - 8)), some (.int (nI (bt p m)))]) rfl (ty_dec _) rfl ?_
          refine wg_goto (d13_46 L xs) (t := 6) (by decide) ?_
          exact ih (j + 1) _ (by omega) (fun h => bad ((gd_1 (by omega) (by omega) (by omega)).1.trans h)) (fun h c' => by have := good ((gd_1 (by omega) (by omega) (by omega)).1.trans h) c'; rw [(gd_1 (p := p) (m := m) (by omega) (by omega) (by omega)).2, List.length_cons, show j + ((t_bys p m).length + 1) = j + 1 + (t_bys p m).length by omega] at this; exact this)
        · refine wg_iconst (d13_38 L xs) (x := 0) (by decide) ?_
          exact wg_iret (d13_39 L xs) rfl rfl (bad (gd_x (by omega) (by omega)))
theorem ty_c2 : ∀ (m : Nat) (l : List Nat) (s : mg_s) (j : Nat) (c5 : Option Value), m ≤ 8 → hold s 1 l → t_gd p m = true → l.length + (t_bys p m).length ≤ 100 → (∀ s' c', tset s 1 (l ++ t_bys p m) s' → wp L xs (d + 2) 13 103 [some (.ref 0), some (.long p), none, some (.int (nI j)), some (.int (-8)), c'] [] s' Q) → wp L xs (d + 2) 13 69 [some (.ref 0), some (.long p), none, some (.int (nI j)), some (.int (nI (8 * m) - 8)), c5] [] s Q := by
  intro m
  induction m with
  | zero =>
    intro l s j c5 hm hl hg hn k
    rw [show nI (8 * 0) - 8 = -8 by decide]
    refine wg_iload (d13_69 L xs) rfl ?_
    refine wg_if_lt (d13_71 L xs) (t := 103) (by decide) (fun _ => ?_) (fun hn => absurd (by decide) hn)
    exact k s c5 ⟨s.2.1 2, by rw [t_bys, List.append_nil]; exact mg_T_self hl.1.1, by rw [t_bys, List.append_nil]; exact hl.1.2, by rw [t_bys, List.append_nil]; exact hl.2.1, by rw [t_bys, List.append_nil]; exact hl.2.2⟩
  | succ m ih =>
    intro l s j c5 hm hl hg hn k
    rw [ty_sv m]
    have hb := (bt_lt p m).1
    have h100 := isT_all.2.2.2.2.2.1
    refine wg_iload (d13_69 L xs) rfl ?_
    refine wn_if_lt (d13_71 L xs) (x := 8 * m) (by omega) (t := 103) (by decide) (fun h1 => by omega) (fun h1 => ?_)
    refine wg_lload_n (d13_74 L xs) rfl ?_
    refine wg_iload (d13_75 L xs) rfl ?_
    refine wg_invs (d13_77 L xs) (kd := 6) (mj := 14) (n := 2) rfl (Or.inl rfl) (ys := [.int (nI (8 * m)), .long p]) (r := []) rfl rfl (Nat.le_of_ble_eq_true rfl) (gd_byte (by omega)) ?_
    rintro _ _ ⟨rfl, rfl⟩
    refine wg_istore (d13_80 L xs) (ls' := [some (.ref 0), some (.long p), none, some (.int (nI j)), some (.int (nI (8 * m))), some (.int (nI (bt p m)))]) (Nat.le_of_ble_eq_true rfl) rfl ?_
    refine wg_iload (d13_82 L xs) rfl ?_
    refine wn_if_eq (d13_84 L xs) (x := bt p m) (by omega) (t := 97) (by decide) (fun h2 => ?_) (fun h2 => ?_)
    · refine wg_iinc (d13_97 L xs) (y := (nI (8 * m) - 8)) (ls' := [some (.ref 0), some (.long p), none, some (.int (nI j)), some (.int (nI (8 * m) - 8)), some (.int (nI (bt p m)))]) rfl (ty_dec _) rfl ?_
      refine wg_goto (d13_100 L xs) (t := 69) (by decide) ?_
      exact ih l s j _ (by omega) hl ((gd_0 (by omega)).1 ▸ hg) (by rw [(gd_0 (p := p) (m := m) (by omega)).2] at hn; exact hn) (fun s' c' h => k s' c' (by rw [(gd_0 (p := p) (m := m) (by omega)).2]; exact h))
    · obtain ⟨hx1, hx2⟩ : 32 ≤ bt p m ∧ bt p m ≤ 126 := by
        have := t_bys_ok p (m + 1) hg (bt p m) (by rw [t_bys, if_neg (by omega)]; exact List.mem_cons_self)
        omega
      have hg2 : t_gd p m = true := (gd_1 (p := p) (m := m) (by omega) hx1 hx2).1 ▸ hg
      have hbs : t_bys p (m + 1) = bt p m :: t_bys p m := (gd_1 (p := p) (m := m) (by omega) hx1 hx2).2
      rw [hbs, List.length_cons] at hn
      refine wg_aload_n (d13_87 L xs) rfl ?_
      refine wg_get (d13_88 L xs) (kd := 1) (cj := 0) (k0 := 0) rfl (Or.inl rfl) (by decide) rfl rfl ?_
      refine wg_iload (d13_91 L xs) rfl ?_
      refine wg_i2c (d13_93 L xs) ?_
      refine wg_top (y := (nI (bt p m))) (i2c_nI (by omega)) ?_
      refine wg_invv (d13_94 L xs) (kd := 7) (mj := 16) (n := 1) rfl (Or.inl rfl) (ys := [.int (nI (bt p m))]) (r := []) rfl rfl (by decide) rfl rfl (Nat.le_of_ble_eq_true rfl) (ts_add isT_all.1 hl (by omega)) ?_
      rintro _ s1 ⟨rfl, e1⟩
      rw [if_pos (by omega)] at e1
      refine wg_iinc (d13_97 L xs) (y := (nI (8 * m) - 8)) (ls' := [some (.ref 0), some (.long p), none, some (.int (nI j)), some (.int (nI (8 * m) - 8)), some (.int (nI (bt p m)))]) rfl (ty_dec _) rfl ?_
      refine wg_goto (d13_100 L xs) (t := 69) (by decide) ?_
      exact ih (l ++ [bt p m]) s1 j _ (by omega) e1.has hg2 (by rw [List.length_append, List.length_singleton]; omega) (fun s' c' h => k s' c' (by rw [hbs, show l ++ bt p m :: t_bys p m = l ++ [bt p m] ++ t_bys p m by simp]; exact e1.trans h))
end TY2
