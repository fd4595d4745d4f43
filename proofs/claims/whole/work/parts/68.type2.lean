/-! type: the methods -/
section TY3
variable {L : Nat} {xs : Nat → Int32} {d : Nat} {p : Int64} {l : List Nat} {Q : Option Value → mg_s → Prop}
theorem gd_type {s : mg_s} (hl : hold s 1 l) (hg : t_gd p 8 = true) (hn : l.length + (t_bys p 8).length ≤ 100) : ca L xs (d + 3) 13 [.ref 0, .long p] s (fun v s' => v = some (.int 1) ∧ tset s 1 (l ++ t_bys p 8) s') := by
  refine wg_call (Nat.le_of_ble_eq_true rfl) ?_
  have h99 := isT_all.2.2.2.2.2.1
  have h98 := hl.1.2
  have hbl := t_bys_len p 8
  show wp L xs (d + 2) 13 0 [some (.ref 0), some (.long p), none, none, none, none] [] s _
  refine wg_iconst (d13_0 L xs) (x := 0) (by decide) ?_
  refine wg_istore_n (d13_1 L xs) (ls' := [some (.ref 0), some (.long p), none, some (.int 0), none, none]) (Nat.le_of_ble_eq_true rfl) rfl ?_
  refine wg_bipush (d13_2 L xs) (x := 56) (by decide) ?_
  refine wg_istore (d13_4 L xs) (ls' := [some (.ref 0), some (.long p), none, some (.int 0), some (.int 56), none]) (Nat.le_of_ble_eq_true rfl) rfl ?_
  refine ty_c1 (p := p) 8 0 none (by decide) (fun h => ?_) (fun h c5 => ?_)
  · rw [hg] at h; cases h

  · refine wg_aload_n (d13_49 L xs) rfl ?_
    refine wg_get (d13_50 L xs) (kd := 1) (cj := 0) (k0 := 0) rfl (Or.inl rfl) (by decide) rfl rfl ?_
    refine wg_invv (d13_53 L xs) (kd := 7) (mj := 15) (n := 0) rfl (Or.inl rfl) (ys := []) (r := []) rfl rfl (by decide) rfl rfl (Nat.le_of_ble_eq_true rfl) (ts_size isT_all.1 hl) ?_
    rintro _ _ ⟨rfl, rfl⟩
    refine wg_iload_n (d13_56 L xs) rfl ?_
    refine wg_iadd (d13_57 L xs) ?_
    refine wg_top (y := (nI (l.length + (0 + (t_bys p 8).length)))) (nI_add l.length (0 + (t_bys p 8).length)) ?_
    refine wg_bipush (d13_58 L xs) (x := 100) (by decide) ?_
    refine wn_icmp_le (d13_60 L xs) (x := l.length + (0 + (t_bys p 8).length)) (y := 100) (by omega) (by omega) (t := 65) (by decide) (fun h1 => ?_) (fun h1 => by omega)
    refine wg_bipush (d13_65 L xs) (x := 56) (by decide) ?_
    refine wg_istore (d13_67 L xs) (ls' := [some (.ref 0), some (.long p), none, some (.int (nI (0 + (t_bys p 8).length))), some (.int 56), c5]) (Nat.le_of_ble_eq_true rfl) rfl ?_
    refine ty_c2 (p := p) 8 l s _ c5 (Nat.le_refl _) hl hg hn (fun s' c' e => ?_)
    refine wg_iconst (d13_103 L xs) (x := 1) (by decide) ?_
    exact wg_iret (d13_104 L xs) rfl rfl ⟨rfl, e⟩
theorem gd_type_n {s : mg_s} (hl : hold s 1 l) (hg : ¬ (t_gd p 8 = true ∧ l.length + (t_bys p 8).length ≤ 100)) : ca L xs (d + 3) 13 [.ref 0, .long p] s (fun v s' => v = some (.int 0) ∧ s = s') := by
  refine wg_call (Nat.le_of_ble_eq_true rfl) ?_
  have h99 := isT_all.2.2.2.2.2.1
  have h98 := hl.1.2
  have hbl := t_bys_len p 8
  show wp L xs (d + 2) 13 0 [some (.ref 0), some (.long p), none, none, none, none] [] s _
  refine wg_iconst (d13_0 L xs) (x := 0) (by decide) ?_
  refine wg_istore_n (d13_1 L xs) (ls' := [some (.ref 0), some (.long p), none, some (.int 0), none, none]) (Nat.le_of_ble_eq_true rfl) rfl ?_
  refine wg_bipush (d13_2 L xs) (x := 56) (by decide) ?_
  refine wg_istore (d13_4 L xs) (ls' := [some (.ref 0), some (.long p), none, some (.int 0), some (.int 56), none]) (Nat.le_of_ble_eq_true rfl) rfl ?_
  refine ty_c1 (p := p) 8 0 none (by decide) (fun h => ?_) (fun h c5 => ?_)
  · exact ⟨rfl, rfl⟩

  · refine wg_aload_n (d13_49 L xs) rfl ?_
    refine wg_get (d13_50 L xs) (kd := 1) (cj := 0) (k0 := 0) rfl (Or.inl rfl) (by decide) rfl rfl ?_
    refine wg_invv (d13_53 L xs) (kd := 7) (mj := 15) (n := 0) rfl (Or.inl rfl) (ys := []) (r := []) rfl rfl (by decide) rfl rfl (Nat.le_of_ble_eq_true rfl) (ts_size isT_all.1 hl) ?_
    rintro _ _ ⟨rfl, rfl⟩
    refine wg_iload_n (d13_56 L xs) rfl ?_
    refine wg_iadd (d13_57 L xs) ?_
    refine wg_top (y := (nI (l.length + (0 + (t_bys p 8).length)))) (nI_add l.length (0 + (t_bys p 8).length)) ?_
    refine wg_bipush (d13_58 L xs) (x := 100) (by decide) ?_
    refine wn_icmp_le (d13_60 L xs) (x := l.length + (0 + (t_bys p 8).length)) (y := 100) (by omega) (by omega) (t := 65) (by decide) (fun h1 => absurd ⟨h, by omega⟩ hg) (fun h1 => ?_)
    refine wg_iconst (d13_63 L xs) (x := 0) (by decide) ?_
    exact wg_iret (d13_64 L xs) rfl rfl ⟨rfl, rfl⟩
theorem ty_m1 : ∀ (m : Nat) (cur : List Nat) (s : mg_s) (c5 : Option Value), m ≤ 8 → holdA s 142 0 cur → cur.length ≤ 100 → ((t_gd p m = false ∨ 100 < cur.length + (t_bys p m).length) → ∀ s', mfr s s' [] [142] → holdA s' 142 0 cur → Q (some (.int 0)) s') → (t_gd p m = true → cur.length + (t_bys p m).length ≤ 100 → ∀ s' c', mfr s s' [] [142] → holdA s' 142 0 (cur ++ t_bys p m) → wp L xs d 106 82 [some (.ref 141), some (.long p), none, some (.int (nI (cur.length + (t_bys p m).length))), some (.int (-1)), c'] [] s' Q) → wp L xs d 106 14 [some (.ref 141), some (.long p), none, some (.int (nI cur.length)), some (.int (nI m - 1)), c5] [] s Q := by
  intro m
  induction m with
  | zero =>
    intro cur s c5 hm8 hc h100 bad good
    rw [show nI 0 - 1 = -1 by decide]
    refine wg_iload (d106_14 L xs) rfl ?_
    refine wg_if_lt (d106_16 L xs) (t := 82) (by decide) (fun _ => ?_) (fun hn => absurd (by decide) hn)
    exact good rfl (by rw [t_bys]; exact h100) s c5 (mfr.rf s [] [142]) (by rw [t_bys, List.append_nil]; exact hc)
  | succ m ih =>
    intro cur s c5 hm8 hc h100 bad good
    rw [ty_s1 m]
    have hb := (bt_lt p m).1
    refine wg_iload (d106_14 L xs) rfl ?_
    refine wn_if_lt (d106_16 L xs) (x := m) (by omega) (t := 82) (by decide) (fun h1 => by omega) (fun h1 => ?_)
    refine wg_lload_n (d106_19 L xs) rfl ?_
    refine wg_bipush (d106_20 L xs) (x := 8) (by decide) ?_
    refine wg_iload (d106_22 L xs) rfl ?_
    refine wg_imul (d106_24 L xs) ?_
    refine wg_top (y := (nI (8 * m))) (pk_mul 8 m) ?_
    refine wg_lshr (d106_25 L xs) ?_
    refine wg_l2i (d106_26 L xs) ?_
    refine wg_sipush (d106_27 L xs) (x := 255) (by decide) ?_
    refine wg_iand (d106_30 L xs) ?_
    refine wg_top (y := (nI (bt p m))) (bt_m p m) ?_
    refine wg_istore (d106_31 L xs) (ls' := [some (.ref 141), some (.long p), none, some (.int (nI cur.length)), some (.int (nI m)), some (.int (nI (bt p m)))]) (Nat.le_of_ble_eq_true rfl) rfl ?_
    refine wg_iload (d106_33 L xs) rfl ?_
    refine wn_if_eq (d106_35 L xs) (x := bt p m) (by omega) (t := 60) (by decide) (fun h2 => ?_) (fun h2 => ?_)
    · refine wg_iload (d106_60 L xs) rfl ?_
      refine wn_if_eq (d106_62 L xs) (x := bt p m) (by omega) (t := 76) (by decide) (fun h3 => ?_) (fun h3 => ?_)
      · refine wg_iinc (d106_76 L xs) (y := (nI m - 1)) (ls' := [some (.ref 141), some (.long p), none, some (.int (nI cur.length)), some (.int (nI m - 1)), some (.int (nI (bt p m)))]) rfl (ty_d1 _) rfl ?_
        refine wg_goto (d106_79 L xs) (t := 14) (by decide) ?_
        exact ih cur s _ (by omega) hc h100 (fun h s' f g => bad (by rw [(gd_0 (p := p) (m := m) (by omega)).1, (gd_0 (p := p) (m := m) (by omega)).2]; exact h) s' f g) (fun h1 h2 s' c' f g => by have := good ((gd_0 (p := p) (m := m) (by omega)).1.trans h1) (by rw [(gd_0 (p := p) (m := m) (by omega)).2]; exact h2) s' c' f (by rw [(gd_0 (p := p) (m := m) (by omega)).2]; exact g); rw [(gd_0 (p := p) (m := m) (by omega)).2] at this; exact this)
      · refine wg_aload_n (d106_65 L xs) rfl ?_
        refine wg_get (d106_66 L xs) (kd := 1) (cj := 9) (k0 := 2) rfl (Or.inl rfl) (by decide) rfl rfl ?_
        refine wg_iload_n (d106_69 L xs) rfl ?_
        refine wg_iload (d106_70 L xs) rfl ?_
        refine wg_iast (d106_72 L xs) (n := 100) (by decide) rfl (vp_in_nI (n := cur.length) (by omega) (by omega)) (ar_dA isA_all.1) ?_
        rw [nI_nat (n := cur.length) (by omega)]
        refine wg_iinc (d106_73 L xs) (y := (nI (cur.length + 1))) (ls' := [some (.ref 141), some (.long p), none, some (.int (nI (cur.length + 1))), some (.int (nI m)), some (.int (nI (bt p m)))]) rfl (nI_add cur.length 1) rfl ?_
        refine wg_iinc (d106_76 L xs) (y := (nI m - 1)) (ls' := [some (.ref 141), some (.long p), none, some (.int (nI (cur.length + 1))), some (.int (nI m - 1)), some (.int (nI (bt p m)))]) rfl (ty_d1 _) rfl ?_
        refine wg_goto (d106_79 L xs) (t := 14) (by decide) ?_
        have hg1 := gd_1 (p := p) (m := m) (by omega) (by omega) (by omega)
        have hc1 : holdA (mg_A s 142 cur.length (nI (bt p m))) 142 0 (cur ++ [bt p m]) := by
          refine ⟨okc_app hc.1 (fun x hx => by rw [List.mem_singleton] at hx; omega), fun i hi => ?_⟩
          rw [List.length_append, List.length_singleton] at hi
          rw [mg_A_own]
          unfold upd gl
          by_cases e : i = cur.length
          · rw [if_pos (by omega), e, gd_r (Nat.le_refl _)]; simp
          · rw [if_neg (by omega), gd_l (by omega)]; exact hc.2 i (by omega)
        have hf : mfr s (mg_A s 142 cur.length (nI (bt p m))) [] [142] := mfr_A s (by decide)
        have hcat : cur ++ [bt p m] ++ t_bys p m = cur ++ t_bys p (m + 1) := by rw [hg1.2]; simp
        have hl1 : (cur ++ [bt p m]).length = cur.length + 1 := by rw [List.length_append, List.length_singleton]
        have hl2 : (t_bys p (m + 1)).length = (t_bys p m).length + 1 := by rw [hg1.2, List.length_cons]
        have := ih (cur ++ [bt p m]) (mg_A s 142 cur.length (nI (bt p m))) (some (.int (nI (bt p m)))) (by omega) hc1 (by omega) (fun h s' f g => bad (by rw [hg1.1, hl2]; rw [hl1] at h; exact h.imp id (fun q => by omega)) s' (hf.trans f) ⟨hc.1, fun i hi => by have := g.2 i (by omega); unfold gl at this ⊢; rw [gd_l hi] at this; exact this⟩) (fun h1 h2 s' c' f g => by
          have := good (hg1.1.trans h1) (by omega) s' c' (hf.trans f) (by rw [← hcat]; exact g)
          rw [hl2] at this
          rw [hl1, show cur.length + 1 + (t_bys p m).length = cur.length + ((t_bys p m).length + 1) by omega]
          exact this)
        rw [hl1] at this
        exact this
    · refine wg_iload (d106_38 L xs) rfl ?_
      refine wg_bipush (d106_40 L xs) (x := 32) (by decide) ?_
      refine wn_icmp_lt (d106_42 L xs) (x := bt p m) (y := 32) (by omega) (by omega) (t := 58) (by decide) (fun h4 => ?_) (fun h4 => ?_)
      · refine wg_iconst (d106_58 L xs) (x := 0) (by decide) ?_
        exact wg_iret (d106_59 L xs) rfl rfl (bad (by first | exact Or.inl (gd_x (by omega) (by omega)) | (rw [t_bys, if_neg (show ¬ bt p m = 0 by omega), List.length_cons]; omega)) s (mfr.rf s [] [142]) hc)
      · refine wg_iload (d106_45 L xs) rfl ?_
        refine wg_bipush (d106_47 L xs) (x := 126) (by decide) ?_
        refine wn_icmp_gt (d106_49 L xs) (x := bt p m) (y := 126) (by omega) (by omega) (t := 58) (by decide) (fun h5 => ?_) (fun h5 => ?_)
        · refine wg_iconst (d106_58 L xs) (x := 0) (by decide) ?_
          exact wg_iret (d106_59 L xs) rfl rfl (bad (by first | exact Or.inl (gd_x (by omega) (by omega)) | (rw [t_bys, if_neg (show ¬ bt p m = 0 by omega), List.length_cons]; omega)) s (mfr.rf s [] [142]) hc)
        · refine wg_iload_n (d106_52 L xs) rfl ?_
          refine wg_bipush (d106_53 L xs) (x := 100) (by decide) ?_
          refine wn_icmp_ne (d106_55 L xs) (x := cur.length) (y := 100) (by omega) (by omega) (t := 60) (by decide) (fun h6 => ?_) (fun h6 => ?_)
          · refine wg_iload (d106_60 L xs) rfl ?_
            refine wn_if_eq (d106_62 L xs) (x := bt p m) (by omega) (t := 76) (by decide) (fun h7 => ?_) (fun h7 => ?_)
            · refine wg_iinc (d106_76 L xs) (y := (nI m - 1)) (ls' := [some (.ref 141), some (.long p), none, some (.int (nI cur.length)), some (.int (nI m - 1)), some (.int (nI (bt p m)))]) rfl (ty_d1 _) rfl ?_
              refine wg_goto (d106_79 L xs) (t := 14) (by decide) ?_
              exact ih cur s _ (by omega) hc h100 (fun h s' f g => bad (by rw [(gd_0 (p := p) (m := m) (by omega)).1, (gd_0 (p := p) (m := m) (by omega)).2]; exact h) s' f g) (fun h1 h2 s' c' f g => by have := good ((gd_0 (p := p) (m := m) (by omega)).1.trans h1) (by rw [(gd_0 (p := p) (m := m) (by omega)).2]; exact h2) s' c' f (by rw [(gd_0 (p := p) (m := m) (by omega)).2]; exact g); rw [(gd_0 (p := p) (m := m) (by omega)).2] at this; exact this)
            · refine wg_aload_n (d106_65 L xs) rfl ?_
              refine wg_get (d106_66 L xs) (kd := 1) (cj := 9) (k0 := 2) rfl (Or.inl rfl) (by decide) rfl rfl ?_
              refine wg_iload_n (d106_69 L xs) rfl ?_
              refine wg_iload (d106_70 L xs) rfl ?_
              refine wg_iast (d106_72 L xs) (n := 100) (by decide) rfl (vp_in_nI (n := cur.length) (by omega) (by omega)) (ar_dA isA_all.1) ?_
              rw [nI_nat (n := cur.length) (by omega)]
              refine wg_iinc (d106_73 L xs) (y := (nI (cur.length + 1))) (ls' := [some (.ref 141), some (.long p), none, some (.int (nI (cur.length + 1))), some (.int (nI m)), some (.int (nI (bt p m)))]) rfl (nI_add cur.length 1) rfl ?_
              refine wg_iinc (d106_76 L xs) (y := (nI m - 1)) (ls' := [some (.ref 141), some (.long p), none, some (.int (nI (cur.length + 1))), some (.int (nI m - 1)), some (.int (nI (bt p m)))]) rfl (ty_d1 _) rfl ?_
              refine wg_goto (d106_79 L xs) (t := 14) (by decide) ?_
              have hg1 := gd_1 (p := p) (m := m) (by omega) (by omega) (by omega)
              have hc1 : holdA (mg_A s 142 cur.length (nI (bt p m))) 142 0 (cur ++ [bt p m]) := by
                refine ⟨okc_app hc.1 (fun x hx => by rw [List.mem_singleton] at hx; omega), fun i hi => ?_⟩
                rw [List.length_append, List.length_singleton] at hi
                rw [mg_A_own]
                unfold upd gl
                by_cases e : i = cur.length
                · rw [if_pos (by omega), e, gd_r (Nat.le_refl _)]; simp
                · rw [if_neg (by omega), gd_l (by omega)]; exact hc.2 i (by omega)
              have hf : mfr s (mg_A s 142 cur.length (nI (bt p m))) [] [142] := mfr_A s (by decide)
              have hcat : cur ++ [bt p m] ++ t_bys p m = cur ++ t_bys p (m + 1) := by rw [hg1.2]; simp
              have hl1 : (cur ++ [bt p m]).length = cur.length + 1 := by rw [List.length_append, List.length_singleton]
              have hl2 : (t_bys p (m + 1)).length = (t_bys p m).length + 1 := by rw [hg1.2, List.length_cons]
              have := ih (cur ++ [bt p m]) (mg_A s 142 cur.length (nI (bt p m))) (some (.int (nI (bt p m)))) (by omega) hc1 (by omega) (fun h s' f g => bad (by rw [hg1.1, hl2]; rw [hl1] at h; exact h.imp id (fun q => by omega)) s' (hf.trans f) ⟨hc.1, fun i hi => by have := g.2 i (by omega); unfold gl at this ⊢; rw [gd_l hi] at this; exact this⟩) (fun h1 h2 s' c' f g => by
                have := good (hg1.1.trans h1) (by omega) s' c' (hf.trans f) (by rw [← hcat]; exact g)
                rw [hl2] at this
                rw [hl1, show cur.length + 1 + (t_bys p m).length = cur.length + ((t_bys p m).length + 1) by omega]
                exact this)
              rw [hl1] at this
              exact this
          · refine wg_iconst (d106_58 L xs) (x := 0) (by decide) ?_
            exact wg_iret (d106_59 L xs) rfl rfl (bad (by first | exact Or.inl (gd_x (by omega) (by omega)) | (rw [t_bys, if_neg (show ¬ bt p m = 0 by omega), List.length_cons]; omega)) s (mfr.rf s [] [142]) hc)
theorem md_type {s : mg_s} (hn : s.1 141 1 = nI l.length) (hm : holdA s 142 0 l) (h100 : l.length ≤ 100) : ca L xs (d + 1) 106 [.ref 141, .long p] s (fun v s' => v = some (.int (if t_gd p 8 = true ∧ l.length + (t_bys p 8).length ≤ 100 then 1 else 0)) ∧ s'.1 141 0 = 0 ∧ mfr s s' [0, 1] [142] ∧ (s'.1 141 1 = nI (if t_gd p 8 = true ∧ l.length + (t_bys p 8).length ≤ 100 then l ++ t_bys p 8 else l).length ∧ holdA s' 142 0 (if t_gd p 8 = true ∧ l.length + (t_bys p 8).length ≤ 100 then l ++ t_bys p 8 else l))) := by
  refine wg_call (Nat.le_of_ble_eq_true rfl) ?_
  show wp L xs d 106 0 [some (.ref 141), some (.long p), none, none, none, none] [] s _
  refine wg_aload_n (d106_0 L xs) rfl ?_
  refine wg_iconst (d106_1 L xs) (x := 0) (by decide) ?_
  refine wg_puti (d106_2 L xs) (cj := 9) (k0 := 0) rfl (by decide) rfl (Nat.le_of_ble_eq_true rfl) rfl rfl rfl ?_
  refine wg_aload_n (d106_5 L xs) rfl ?_
  refine wg_get (d106_6 L xs) (kd := 1) (cj := 9) (k0 := 1) rfl (Or.inl rfl) (by decide) rfl rfl ?_
  refine wg_top (y := (nI l.length)) hn ?_
  refine wg_istore_n (d106_9 L xs) (ls' := [some (.ref 141), some (.long p), none, some (.int (nI l.length)), none, none]) (Nat.le_of_ble_eq_true rfl) rfl ?_
  refine wg_bipush (d106_10 L xs) (x := 7) (by decide) ?_
  refine wg_istore (d106_12 L xs) (ls' := [some (.ref 141), some (.long p), none, some (.int (nI l.length)), some (.int 7), none]) (Nat.le_of_ble_eq_true rfl) rfl ?_
  refine ty_m1 (p := p) 8 l (mg_I s 141 0 0) none (Nat.le_refl _) (holdA_of hm rfl) h100 (fun h s' f g => ?_) (fun h1 h2 s' c' f g => ?_)
  · have hno : ¬ (t_gd p 8 = true ∧ l.length + (t_bys p 8).length ≤ 100) := by
      intro q
      rcases h with h | h
      · rw [q.1] at h; cases h
      · omega
    refine ⟨by rw [if_neg hno], (f.2.1 0 (by decide)).trans rfl, (mfr_I s (by decide)).trans (f.more (by decide) (by decide)), ?_⟩
    rw [if_neg hno]
    exact ⟨((f.2.1 1 (by decide)).trans hn), g⟩
  · refine wg_aload_n (d106_82 L xs) rfl ?_
    refine wg_iload_n (d106_83 L xs) rfl ?_
    refine wg_puti (d106_84 L xs) (cj := 9) (k0 := 1) rfl (by decide) rfl (Nat.le_of_ble_eq_true rfl) rfl rfl rfl ?_
    refine wg_iconst (d106_87 L xs) (x := 1) (by decide) ?_
    exact wg_iret (d106_88 L xs) rfl rfl ⟨by rw [if_pos ⟨h1, h2⟩], (f.2.1 0 (by decide)).trans rfl, ((mfr_I s (by decide)).trans (f.more (by decide) (by decide))).trans (mfr_I s' (by decide)), by rw [if_pos ⟨h1, h2⟩, List.length_append]; exact ⟨rfl, holdA_of g rfl⟩⟩
end TY3
