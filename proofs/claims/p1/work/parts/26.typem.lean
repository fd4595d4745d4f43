/-! type of the reference, on a fresh text -/
theorem ty_s1 (m : Nat) : nI (m + 1) - 1 = nI m := by
  have h := pk_sub (a := m + 1) (b := 1) (by omega)
  rw [show m + 1 - 1 = m by omega] at h
  exact h
theorem ty_d1 (x : Int32) : x + Int32.ofInt (-1) = x - 1 := by rw [Int32.sub_eq_add_neg]; rfl
section TM
variable (L : Nat) (xs : Nat → Int32) {d : Nat} {p : Int64} {t : Value} {r : List Value}
/-- the loop with m bytes to go: some byte is bad -/
theorem tm_bad : ∀ (m : Nat), m ≤ 8 → (∃ i, i < m ∧ ¬ mg_ok1 (mg_bm p (nI i))) → ∀ (n : Nat) (h : ax_H) (f : Nat → Int32), n + m ≤ 8 → h.2.1 = 167 → h.1 141 = some (.inr (9, t :: .int 0 :: .ref 142 :: r)) → h.1 142 = some (.inl (0, 100, .inl f)) →
    ∃ h' : ax_H, (∀ (c5 : Option Value), ax_Go (mgT L xs) d 106 14 [some (.ref 141), some (.long p), none, some (.int (nI n)), some (.int (nI m - 1)), c5] [] h (.inl (some (.int 0)), h')) ∧ h'.2.1 = 167 ∧ h'.2.2.1 = h.2.2.1 := by
  intro m
  induction m with
  | zero => intro _ ⟨i, hi, _⟩; exact absurd hi (Nat.not_lt_zero i)
  | succ m ih =>
    intro hm hb n h f hnm hz F1 F2
    have head : ∀ (c5 : Option Value) (o : ax_O), ax_Go (mgT L xs) d 106 33 [some (.ref 141), some (.long p), none, some (.int (nI n)), some (.int (nI m)), some (.int (mg_bm p (nI m)))] [] h o → ax_Go (mgT L xs) d 106 14 [some (.ref 141), some (.long p), none, some (.int (nI n)), some (.int (nI (m + 1) - 1)), c5] [] h o := by
      intro c5 o k
      rw [ty_s1 m]
      refine ag_iload (d106_14 L xs) rfl ?_
      refine ag_if_lt (d106_16 L xs) (t := 82) (by decide) (fun hp => absurd hp (nI_pos (by omega))) (fun _ => ?_)
      refine ag_lload_n (d106_19 L xs) rfl ?_
      refine ag_bipush (d106_20 L xs) (x := 8) (by decide) ?_
      refine ag_iload (d106_22 L xs) rfl ?_
      refine ag_imul (d106_24 L xs) ?_
      refine ag_lshr (d106_25 L xs) ?_
      refine ag_l2i (d106_26 L xs) ?_
      refine ag_sipush (d106_27 L xs) (x := 255) (by decide) ?_
      refine ag_iand (d106_30 L xs) ?_
      exact ag_istore (d106_31 L xs) (ls' := [some (.ref 141), some (.long p), none, some (.int (nI n)), some (.int (nI m)), some (.int (mg_bm p (nI m)))]) (Nat.le_of_ble_eq_true rfl) rfl k
    have tail : ∀ (n2 : Nat) (h2 : ax_H) (o : ax_O), ax_Go (mgT L xs) d 106 14 [some (.ref 141), some (.long p), none, some (.int (nI n2)), some (.int (nI m - 1)), some (.int (mg_bm p (nI m)))] [] h2 o → ax_Go (mgT L xs) d 106 76 [some (.ref 141), some (.long p), none, some (.int (nI n2)), some (.int (nI m)), some (.int (mg_bm p (nI m)))] [] h2 o := by
      intro n2 h2 o k
      refine ag_iinc (d106_76 L xs) (y := nI m - 1) (ls' := [some (.ref 141), some (.long p), none, some (.int (nI n2)), some (.int (nI m - 1)), some (.int (mg_bm p (nI m)))]) rfl (ty_d1 _) rfl ?_
      exact ag_goto (d106_79 L xs) (t := 14) (by decide) k
    by_cases h0 : mg_bm p (nI m) = 0
    · have hb' : ∃ i, i < m ∧ ¬ mg_ok1 (mg_bm p (nI i)) := by
        obtain ⟨i, hi, hq⟩ := hb
        rcases Nat.lt_succ_iff_lt_or_eq.mp hi with h1 | rfl
        · exact ⟨i, h1, hq⟩
        · exact absurd (Or.inl h0) hq
      obtain ⟨h', g, q⟩ := ih (by omega) hb' n h f (by omega) hz F1 F2
      refine ⟨h', fun c5 => head c5 _ ?_, q⟩
      refine ag_iload (d106_33 L xs) rfl ?_
      refine ag_if_eq (d106_35 L xs) (t := 60) (by decide) (fun _ => ?_) (fun hn => absurd h0 hn)
      refine ag_iload (d106_60 L xs) rfl ?_
      refine ag_if_eq (d106_62 L xs) (t := 76) (by decide) (fun _ => ?_) (fun hn => absurd h0 hn)
      exact tail n h _ (g _)
    · by_cases hq : mg_bm p (nI m) < 32 ∨ 126 < mg_bm p (nI m)
      · refine ⟨h, fun c5 => head c5 _ ?_, hz, rfl⟩
        refine ag_iload (d106_33 L xs) rfl ?_
        refine ag_if_eq (d106_35 L xs) (t := 60) (by decide) (fun hp => absurd hp h0) (fun _ => ?_)
        have fin : ax_Go (mgT L xs) d 106 58 [some (.ref 141), some (.long p), none, some (.int (nI n)), some (.int (nI m)), some (.int (mg_bm p (nI m)))] [] h (.inl (some (.int 0)), h) := by
          refine ag_iconst (d106_58 L xs) (x := 0) (by decide) ?_
          exact ag_iret (d106_59 L xs) rfl rfl
        refine ag_iload (d106_38 L xs) rfl ?_
        refine ag_bipush (d106_40 L xs) (x := 32) (by decide) ?_
        refine ag_icmp_lt (d106_42 L xs) (t := 58) (by decide) (fun _ => fin) (fun h1 => ?_)
        refine ag_iload (d106_45 L xs) rfl ?_
        refine ag_bipush (d106_47 L xs) (x := 126) (by decide) ?_
        exact ag_icmp_gt (d106_49 L xs) (t := 58) (by decide) (fun _ => fin) (fun h2 => absurd hq (fun q => q.elim h1 h2))
      · have hb' : ∃ i, i < m ∧ ¬ mg_ok1 (mg_bm p (nI i)) := by
          obtain ⟨i, hi, hq'⟩ := hb
          rcases Nat.lt_succ_iff_lt_or_eq.mp hi with h1 | rfl
          · exact ⟨i, h1, hq'⟩
          · exact absurd (Or.inr ⟨fun q => hq (Or.inl q), fun q => hq (Or.inr q)⟩) hq'
        obtain ⟨h', g, q1, q2⟩ := ih (by omega) hb' (n + 1) (ax_up h 142 (.inl (0, 100, .inl (upd f (nI n).toNatClampNeg (mg_bm p (nI m)))))) _ (by omega) hz ((ax_up_ne _ _ (by decide)).trans F1) (ax_up_at _ _ _)
        refine ⟨h', fun c5 => head c5 _ ?_, q1, q2⟩
        refine ag_iload (d106_33 L xs) rfl ?_
        refine ag_if_eq (d106_35 L xs) (t := 60) (by decide) (fun hp => absurd hp h0) (fun _ => ?_)
        refine ag_iload (d106_38 L xs) rfl ?_
        refine ag_bipush (d106_40 L xs) (x := 32) (by decide) ?_
        refine ag_icmp_lt (d106_42 L xs) (t := 58) (by decide) (fun h1 => absurd (Or.inl h1) hq) (fun _ => ?_)
        refine ag_iload (d106_45 L xs) rfl ?_
        refine ag_bipush (d106_47 L xs) (x := 126) (by decide) ?_
        refine ag_icmp_gt (d106_49 L xs) (t := 58) (by decide) (fun h1 => absurd (Or.inr h1) hq) (fun _ => ?_)
        refine ag_iload_n (d106_52 L xs) rfl ?_
        refine ag_bipush (d106_53 L xs) (x := 100) (by decide) ?_
        refine ag_icmp_ne (d106_55 L xs) (t := 60) (by decide) (fun _ => ?_) (fun hn => absurd (fun e => absurd ((nI_eq (by omega) (by decide)).mp (e : nI n = nI 100)) (by omega)) hn)
        refine ag_iload (d106_60 L xs) rfl ?_
        refine ag_if_eq (d106_62 L xs) (t := 76) (by decide) (fun hp => absurd hp h0) (fun _ => ?_)
        refine ag_aload_n (d106_65 L xs) rfl ?_
        refine ag_get (d106_66 L xs) (kd := 1) (cj := 9) (k0 := 2) rfl (Or.inl rfl) F1 rfl ?_
        refine ag_iload_n (d106_69 L xs) rfl ?_
        refine ag_iload (d106_70 L xs) rfl ?_
        refine ag_iast (d106_72 L xs) F2 (ax_lt hz (Nat.le_of_ble_eq_true rfl)) rfl (vp_in_nI (show n < 100 by omega) (by decide)) ?_
        refine ag_iinc (d106_73 L xs) (y := nI (n + 1)) (ls' := [some (.ref 141), some (.long p), none, some (.int (nI (n + 1))), some (.int (nI m)), some (.int (mg_bm p (nI m)))]) rfl (nI_1 n) rfl ?_
        exact tail (n + 1) _ _ (g _)
/-- no byte is bad -/
theorem tm_good : ∀ (m : Nat), m ≤ 8 → (∀ i, i < m → mg_ok1 (mg_bm p (nI i))) → ∀ (n : Nat) (h : ax_H) (f : Nat → Int32), n + m ≤ 8 → h.2.1 = 167 → h.1 141 = some (.inr (9, t :: .int 0 :: .ref 142 :: r)) → h.1 142 = some (.inl (0, 100, .inl f)) →
    ∃ h' : ax_H, (∀ (c5 : Option Value), ax_Go (mgT L xs) d 106 14 [some (.ref 141), some (.long p), none, some (.int (nI n)), some (.int (nI m - 1)), c5] [] h (.inl (some (.int 1)), h')) ∧ h'.2.1 = 167 ∧ h'.2.2.1 = h.2.2.1 := by
  intro m
  induction m with
  | zero =>
    intro _ _ n h f _ hz F1 F2
    refine ⟨ax_up h 141 (.inr (9, t :: .int (nI n) :: .ref 142 :: r)), fun c5 => ?_, hz, rfl⟩
    rw [show nI 0 - 1 = -1 by decide]
    refine ag_iload (d106_14 L xs) rfl ?_
    refine ag_if_lt (d106_16 L xs) (t := 82) (by decide) (fun _ => ?_) (fun hn => absurd (by decide) hn)
    refine ag_aload_n (d106_82 L xs) rfl ?_
    refine ag_iload_n (d106_83 L xs) rfl ?_
    refine ag_put (d106_84 L xs) (cj := 9) (k0 := 1) rfl F1 (ax_lt hz (Nat.le_of_ble_eq_true rfl)) (by simp) (ax_fi rfl _) rfl ?_
    refine ag_iconst (d106_87 L xs) (x := 1) (by decide) ?_
    exact ag_iret (d106_88 L xs) rfl rfl
  | succ m ih =>
    intro hm hb n h f hnm hz F1 F2
    have head : ∀ (c5 : Option Value) (o : ax_O), ax_Go (mgT L xs) d 106 33 [some (.ref 141), some (.long p), none, some (.int (nI n)), some (.int (nI m)), some (.int (mg_bm p (nI m)))] [] h o → ax_Go (mgT L xs) d 106 14 [some (.ref 141), some (.long p), none, some (.int (nI n)), some (.int (nI (m + 1) - 1)), c5] [] h o := by
      intro c5 o k
      rw [ty_s1 m]
      refine ag_iload (d106_14 L xs) rfl ?_
      refine ag_if_lt (d106_16 L xs) (t := 82) (by decide) (fun hp => absurd hp (nI_pos (by omega))) (fun _ => ?_)
      refine ag_lload_n (d106_19 L xs) rfl ?_
      refine ag_bipush (d106_20 L xs) (x := 8) (by decide) ?_
      refine ag_iload (d106_22 L xs) rfl ?_
      refine ag_imul (d106_24 L xs) ?_
      refine ag_lshr (d106_25 L xs) ?_
      refine ag_l2i (d106_26 L xs) ?_
      refine ag_sipush (d106_27 L xs) (x := 255) (by decide) ?_
      refine ag_iand (d106_30 L xs) ?_
      exact ag_istore (d106_31 L xs) (ls' := [some (.ref 141), some (.long p), none, some (.int (nI n)), some (.int (nI m)), some (.int (mg_bm p (nI m)))]) (Nat.le_of_ble_eq_true rfl) rfl k
    have tail : ∀ (n2 : Nat) (h2 : ax_H) (o : ax_O), ax_Go (mgT L xs) d 106 14 [some (.ref 141), some (.long p), none, some (.int (nI n2)), some (.int (nI m - 1)), some (.int (mg_bm p (nI m)))] [] h2 o → ax_Go (mgT L xs) d 106 76 [some (.ref 141), some (.long p), none, some (.int (nI n2)), some (.int (nI m)), some (.int (mg_bm p (nI m)))] [] h2 o := by
      intro n2 h2 o k
      refine ag_iinc (d106_76 L xs) (y := nI m - 1) (ls' := [some (.ref 141), some (.long p), none, some (.int (nI n2)), some (.int (nI m - 1)), some (.int (mg_bm p (nI m)))]) rfl (ty_d1 _) rfl ?_
      exact ag_goto (d106_79 L xs) (t := 14) (by decide) k
    have hbm : ∀ i, i < m → mg_ok1 (mg_bm p (nI i)) := fun i hi => hb i (by omega)
    by_cases h0 : mg_bm p (nI m) = 0
    · obtain ⟨h', g, q⟩ := ih (by omega) hbm n h f (by omega) hz F1 F2
      refine ⟨h', fun c5 => head c5 _ ?_, q⟩
      refine ag_iload (d106_33 L xs) rfl ?_
      refine ag_if_eq (d106_35 L xs) (t := 60) (by decide) (fun _ => ?_) (fun hn => absurd h0 hn)
      refine ag_iload (d106_60 L xs) rfl ?_
      refine ag_if_eq (d106_62 L xs) (t := 76) (by decide) (fun _ => ?_) (fun hn => absurd h0 hn)
      exact tail n h _ (g _)
    · have hq := (hb m (by omega)).resolve_left h0
      obtain ⟨h', g, q1, q2⟩ := ih (by omega) hbm (n + 1) (ax_up h 142 (.inl (0, 100, .inl (upd f (nI n).toNatClampNeg (mg_bm p (nI m)))))) _ (by omega) hz ((ax_up_ne _ _ (by decide)).trans F1) (ax_up_at _ _ _)
      refine ⟨h', fun c5 => head c5 _ ?_, q1, q2⟩
      refine ag_iload (d106_33 L xs) rfl ?_
      refine ag_if_eq (d106_35 L xs) (t := 60) (by decide) (fun hp => absurd hp h0) (fun _ => ?_)
      refine ag_iload (d106_38 L xs) rfl ?_
      refine ag_bipush (d106_40 L xs) (x := 32) (by decide) ?_
      refine ag_icmp_lt (d106_42 L xs) (t := 58) (by decide) (fun h1 => absurd h1 hq.1) (fun _ => ?_)
      refine ag_iload (d106_45 L xs) rfl ?_
      refine ag_bipush (d106_47 L xs) (x := 126) (by decide) ?_
      refine ag_icmp_gt (d106_49 L xs) (t := 58) (by decide) (fun h1 => absurd h1 hq.2) (fun _ => ?_)
      refine ag_iload_n (d106_52 L xs) rfl ?_
      refine ag_bipush (d106_53 L xs) (x := 100) (by decide) ?_
      refine ag_icmp_ne (d106_55 L xs) (t := 60) (by decide) (fun _ => ?_) (fun hn => absurd (fun e => absurd ((nI_eq (by omega) (by decide)).mp (e : nI n = nI 100)) (by omega)) hn)
      refine ag_iload (d106_60 L xs) rfl ?_
      refine ag_if_eq (d106_62 L xs) (t := 76) (by decide) (fun hp => absurd hp h0) (fun _ => ?_)
      refine ag_aload_n (d106_65 L xs) rfl ?_
      refine ag_get (d106_66 L xs) (kd := 1) (cj := 9) (k0 := 2) rfl (Or.inl rfl) F1 rfl ?_
      refine ag_iload_n (d106_69 L xs) rfl ?_
      refine ag_iload (d106_70 L xs) rfl ?_
      refine ag_iast (d106_72 L xs) F2 (ax_lt hz (Nat.le_of_ble_eq_true rfl)) rfl (vp_in_nI (show n < 100 by omega) (by decide)) ?_
      refine ag_iinc (d106_73 L xs) (y := nI (n + 1)) (ls' := [some (.ref 141), some (.long p), none, some (.int (nI (n + 1))), some (.int (nI m)), some (.int (mg_bm p (nI m)))]) rfl (nI_1 n) rfl ?_
      exact tail (n + 1) _ _ (g _)
theorem ty_m {h : ax_H} {f : Nat → Int32} (hz : h.2.1 = 167) (F1 : h.1 141 = some (.inr (9, t :: .int 0 :: .ref 142 :: r))) (F2 : h.1 142 = some (.inl (0, 100, .inl f))) :
    ((∀ i, i < 8 → mg_ok1 (mg_bm p (nI i))) → ∃ h' : ax_H, ax_Ca (mgT L xs) (d + 1) 106 [.ref 141, .long p] h (.inl (some (.int 1)), h') ∧ h'.2.1 = 167 ∧ h'.2.2.1 = h.2.2.1) ∧
    ((∃ i, i < 8 ∧ ¬ mg_ok1 (mg_bm p (nI i))) → ∃ h' : ax_H, ax_Ca (mgT L xs) (d + 1) 106 [.ref 141, .long p] h (.inl (some (.int 0)), h') ∧ h'.2.1 = 167 ∧ h'.2.2.1 = h.2.2.1) := by
  have start : ∀ o, ax_Go (mgT L xs) d 106 14 [some (.ref 141), some (.long p), none, some (.int (nI 0)), some (.int (nI 8 - 1)), none] [] (ax_up h 141 (.inr (9, .int 0 :: .int 0 :: .ref 142 :: r))) o → ax_Go (mgT L xs) d 106 0 [some (.ref 141), some (.long p), none, none, none, none] [] h o := by
    intro o k
    rw [show nI 8 - 1 = 7 by decide] at k
    refine ag_aload_n (d106_0 L xs) rfl ?_
    refine ag_iconst (d106_1 L xs) (x := 0) (by decide) ?_
    refine ag_put (d106_2 L xs) (cj := 9) (k0 := 0) rfl F1 (ax_lt hz (Nat.le_of_ble_eq_true rfl)) (by simp) rfl rfl ?_
    refine ag_aload_n (d106_5 L xs) rfl ?_
    refine ag_get (d106_6 L xs) (kd := 1) (cj := 9) (k0 := 1) rfl (Or.inl rfl) (ax_up_at _ _ _) rfl ?_
    refine ag_istore_n (d106_9 L xs) (ls' := [some (.ref 141), some (.long p), none, some (.int 0), none, none]) (Nat.le_of_ble_eq_true rfl) rfl ?_
    refine ag_bipush (d106_10 L xs) (x := 7) (by decide) ?_
    refine ag_istore (d106_12 L xs) (ls' := [some (.ref 141), some (.long p), none, some (.int 0), some (.int 7), none]) (Nat.le_of_ble_eq_true rfl) rfl ?_
    exact k
  constructor
  · intro hg
    obtain ⟨h', g, q⟩ := tm_good L xs (d := d) (p := p) (t := .int 0) (r := r) 8 (by omega) hg 0 (ax_up h 141 (.inr (9, .int 0 :: .int 0 :: .ref 142 :: r))) f (by omega) hz (ax_up_at _ _ _) ((ax_up_ne _ _ (by decide)).trans F2)
    exact ⟨h', ag_call (Nat.le_of_ble_eq_true rfl) (start _ (g _)), q⟩
  · intro hb
    obtain ⟨h', g, q⟩ := tm_bad L xs (d := d) (p := p) (t := .int 0) (r := r) 8 (by omega) hb 0 (ax_up h 141 (.inr (9, .int 0 :: .int 0 :: .ref 142 :: r))) f (by omega) hz (ax_up_at _ _ _) ((ax_up_ne _ _ (by decide)).trans F2)
    exact ⟨h', ag_call (Nat.le_of_ble_eq_true rfl) (start _ (g _)), q⟩
end TM
