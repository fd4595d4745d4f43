/-! the reference takes a row: the method -/
theorem f_run_ext {g g' : Nat → Nat} : ∀ (m run i j : Nat), (∀ k, k < m → g (i + k) = g' (j + k)) → f_run g run i m = f_run g' run j m := by
  intro m
  induction m with
  | zero => intro run i j h; rfl
  | succ m ih =>
    intro run i j h
    have h0 := h 0 (by omega)
    rw [Nat.add_zero, Nat.add_zero] at h0
    have h1 : ∀ run, f_run g run (i + 1) m = f_run g' run (j + 1) m := fun run => ih run (i + 1) (j + 1) (fun k hk => by
      have := h (k + 1) (by omega)
      rw [show i + 1 + k = i + (k + 1) by omega, show j + 1 + k = j + (k + 1) by omega]; exact this)
    rw [f_run, f_run, h0, h1, h1]
theorem t_name_ext {g g' : Nat → Nat} {i j i' j' : Nat} (hj : j - i = j' - i') (hl : i ≤ j) (hl' : i' ≤ j') (h : ∀ k, k < j - i → g (i + k) = g' (i' + k)) : t_name g i j = t_name g' i' j' := by
  unfold t_name
  rw [← hj, f_run_ext (j - i) 0 i i' h, show decide (j ≤ i + 48) = decide (j' ≤ i' + 48) from by rw [decide_eq_decide]; omega]
theorem okrow_of {l : List Nat} {kd : Nat} (hk : kd ≤ 4) (hc : ∀ x ∈ l, 32 ≤ x ∧ x < 127) (h100 : l.length ≤ 100) (hok : t_ok l kd = true) : okrow (t_row l kd (t_end l)) ∧ rowsz (t_row l kd (t_end l)) = l.length := by
  have hel : t_end l ≤ l.length := by have := (f_find_s (g := gl l) (c := 32) (l.length - 0) 0).2.1; unfold t_end; omega
  unfold t_ok at hok
  rw [Bool.and_eq_true] at hok
  obtain ⟨h1, h2⟩ := hok
  have hn := t_name_len h1
  have hs1 : (seg l 0 (t_end l)).length = t_end l := by rw [seg_len]; omega
  have hs2 : (seg l (t_end l + 1) l.length).length = l.length - (t_end l + 1) := by rw [seg_len]; omega
  have hnm : t_name (gl (seg l 0 (t_end l))) 0 (seg l 0 (t_end l)).length = true := by
    rw [hs1, ← h1]
    exact t_name_ext rfl (Nat.zero_le _) (Nat.zero_le _) (fun k hk => by rw [Nat.zero_add]; rw [seg_gl (by rw [hs1]; omega), Nat.zero_add])
  have hlt : kd ≤ 2 → t_end l + 1 < l.length := by
    intro hk2
    by_cases k0 : kd = 0
    · rw [if_pos k0] at h2
      by_cases q : t_end l + 1 < l.length
      · exact q
      · rw [f_addr_short (by omega) hel] at h2; cases h2
    · rw [if_neg k0] at h2
      by_cases k1 : kd = 1
      · rw [if_pos k1] at h2; exact (t_name_len h2).1
      · rw [if_neg k1, if_pos (show kd = 2 by omega)] at h2; exact of_decide_eq_true h2
  have heq : 2 < kd → t_end l = l.length := by
    intro hk2
    rw [if_neg (by omega), if_neg (by omega), if_neg (by omega)] at h2
    exact of_decide_eq_true h2
  have hsz : rowsz (t_row l kd (t_end l)) = l.length := by
    unfold rowsz
    show (if kd ≤ 2 then (seg l 0 (t_end l)).length + 1 + (seg l (t_end l + 1) l.length).length else (seg l 0 (t_end l)).length) = l.length
    by_cases hk2 : kd ≤ 2
    · rw [if_pos hk2, hs1, hs2]; have := hlt hk2; omega
    · rw [if_neg hk2, hs1]; exact heq (by omega)
  refine ⟨⟨hk, hnm, fun hk2 => ?_, fun hk2 => ?_, fun hk1 => ?_, by rw [hsz]; exact h100, fun x hx => hc x (List.mem_of_mem_take (List.mem_of_mem_drop hx)), fun x hx => hc x (List.mem_of_mem_take (List.mem_of_mem_drop hx))⟩, hsz⟩
  · show 1 ≤ (seg l (t_end l + 1) l.length).length
    rw [hs2]; have := hlt hk2; omega
  · show seg l (t_end l + 1) l.length = []
    apply List.eq_nil_of_length_eq_zero
    rw [hs2]; have := heq hk2; omega
  · have hk1 : kd = 1 := hk1
    rw [if_neg (by omega), if_pos hk1] at h2
    show t_name (gl (seg l (t_end l + 1) l.length)) 0 (seg l (t_end l + 1) l.length).length = true
    have h3 := t_name_len h2
    rw [hs2, ← h2]
    exact t_name_ext rfl (Nat.zero_le _) (by omega) (fun k hk => by rw [Nat.zero_add]; rw [seg_gl (by rw [hs2]; omega)])
section MR4
variable {L : Nat} {xs : Nat → Int32} {d : Nat} {R : List rowT} {l : List Nat} {s : mg_s} {Q : Option Value → mg_s → Prop}
theorem md_row_k {kd : Nat} (hk : kd ≤ 4) (hn : s.1 141 1 = nI l.length) (hm : holdA s 142 0 l) (h100 : l.length ≤ 100) (k0 : t_ok l kd = false → ∀ (x : Int32) (s' : mg_s), mfr s s' [9] [] → wp L xs (d + 3) 109 182 [some (.ref 141), some (.int (nI kd)), some (.int (nI (t_end l))), some (.int 0), some (.int x), none] [] s' Q) (k1 : t_ok l kd = true → ∀ s', mfr s s' [9] [] → wp L xs (d + 3) 109 182 [some (.ref 141), some (.int (nI kd)), some (.int (nI (t_end l))), some (.int 1), some (.int (t_adr l kd (t_end l))), none] [] s' Q) : wp L xs (d + 3) 109 66 [some (.ref 141), some (.int (nI kd)), some (.int (nI (t_end l))), none, none, none] [] s Q := by
  match kd, hk with
  | 0, _ => exact md_row_k0 hn hm h100 k0 k1
  | 1, _ => exact md_row_k1 hn hm h100 k0 k1
  | 2, _ => exact md_row_k2 hn hm h100 k0 k1
  | 3, _ => exact md_row_k3 hn hm h100 k0 k1
  | 4, _ => exact md_row_k4 hn hm h100 k0 k1
theorem md_row_a {kd : Nat} (T : isTabM s R) (hk : kd ≤ 4) (hn : s.1 141 1 = nI l.length) (hm : holdA s 142 0 l) (h100 : l.length ≤ 100) (hok : t_ok l kd = false) : ca L xs (d + 4) 109 [.ref 141, .int (nI kd)] s (fun v s' => v = some (.int 0) ∧ s'.1 141 0 = 1 ∧ mfr s s' [0, 9] []) := by
  refine wg_call (Nat.le_of_ble_eq_true rfl) ?_
  show wp L xs (d + 3) 109 0 [some (.ref 141), some (.int (nI kd)), none, none, none, none] [] s _
  refine wg_aload_n (d109_0 L xs) rfl ?_
  refine wg_iload_n (d109_1 L xs) rfl ?_
  refine wn_if_lt (d109_2 L xs) (x := kd) (by omega) (t := 10) (by decide) (fun h1 => by omega) (fun h1 => ?_)
  refine wg_iload_n (d109_5 L xs) rfl ?_
  refine wg_iconst (d109_6 L xs) (x := 4) (by decide) ?_
  refine wn_icmp_le (d109_7 L xs) (x := kd) (y := 4) (by omega) (by omega) (t := 14) (by decide) (fun h2 => ?_) (fun h2 => by omega)
  refine wg_iconst (d109_14 L xs) (x := 0) (by decide) ?_
  refine wg_puti (d109_15 L xs) (cj := 9) (k0 := 0) rfl (by decide) rfl (Nat.le_of_ble_eq_true rfl) rfl rfl rfl ?_
  refine wg_aload_n (d109_18 L xs) rfl ?_
  refine wg_get (d109_19 L xs) (kd := 1) (cj := 9) (k0 := 0) rfl (Or.inl rfl) (by decide) rfl rfl ?_
  refine wg_top (y := 0) rfl ?_
  refine wg_if_le (d109_22 L xs) (t := 27) (by decide) (fun _ => ?_) (fun hn => absurd (by decide) hn)
  refine wg_iconst (d109_27 L xs) (x := 0) (by decide) ?_
  refine wg_istore_n (d109_28 L xs) (ls' := [some (.ref 141), some (.int (nI kd)), some (.int 0), none, none, none]) (Nat.le_of_ble_eq_true rfl) rfl ?_
  refine md_row_f (l := l) (s := mg_I s 141 0 0) hn (holdA_of hm rfl) h100 l.length 0 (by omega) ?_
  refine md_row_k (s := mg_I s 141 0 0) hk hn (holdA_of hm rfl) h100 (fun h0 x s' f => ?_) (fun h1 s' f => ?_)
  · have f0 : mfr s s' [0, 9] [] := (mfr_I s (by decide)).trans (f.more (by decide) (by decide))
    exact wp_mono md_row_0 (fun v s2 h => ⟨h.1, by rw [← h.2]; rfl, by rw [← h.2]; exact f0.trans (mfr_I s' (by decide))⟩)
  · rw [hok] at h1; cases h1
theorem md_row_b {kd : Nat} (T : isTabM s R) (hk : kd ≤ 4) (hn : s.1 141 1 = nI l.length) (hm : holdA s 142 0 l) (h100 : l.length ≤ 100) (hok : t_ok l kd = true) (hR : R.length = 16) : ca L xs (d + 4) 109 [.ref 141, .int (nI kd)] s (fun v s' => v = some (.int 0) ∧ s'.1 141 0 = 2 ∧ mfr s s' [0, 9] []) := by
  refine wg_call (Nat.le_of_ble_eq_true rfl) ?_
  show wp L xs (d + 3) 109 0 [some (.ref 141), some (.int (nI kd)), none, none, none, none] [] s _
  refine wg_aload_n (d109_0 L xs) rfl ?_
  refine wg_iload_n (d109_1 L xs) rfl ?_
  refine wn_if_lt (d109_2 L xs) (x := kd) (by omega) (t := 10) (by decide) (fun h1 => by omega) (fun h1 => ?_)
  refine wg_iload_n (d109_5 L xs) rfl ?_
  refine wg_iconst (d109_6 L xs) (x := 4) (by decide) ?_
  refine wn_icmp_le (d109_7 L xs) (x := kd) (y := 4) (by omega) (by omega) (t := 14) (by decide) (fun h2 => ?_) (fun h2 => by omega)
  refine wg_iconst (d109_14 L xs) (x := 0) (by decide) ?_
  refine wg_puti (d109_15 L xs) (cj := 9) (k0 := 0) rfl (by decide) rfl (Nat.le_of_ble_eq_true rfl) rfl rfl rfl ?_
  refine wg_aload_n (d109_18 L xs) rfl ?_
  refine wg_get (d109_19 L xs) (kd := 1) (cj := 9) (k0 := 0) rfl (Or.inl rfl) (by decide) rfl rfl ?_
  refine wg_top (y := 0) rfl ?_
  refine wg_if_le (d109_22 L xs) (t := 27) (by decide) (fun _ => ?_) (fun hn => absurd (by decide) hn)
  refine wg_iconst (d109_27 L xs) (x := 0) (by decide) ?_
  refine wg_istore_n (d109_28 L xs) (ls' := [some (.ref 141), some (.int (nI kd)), some (.int 0), none, none, none]) (Nat.le_of_ble_eq_true rfl) rfl ?_
  refine md_row_f (l := l) (s := mg_I s 141 0 0) hn (holdA_of hm rfl) h100 l.length 0 (by omega) ?_
  refine md_row_k (s := mg_I s 141 0 0) hk hn (holdA_of hm rfl) h100 (fun h0 x s' f => ?_) (fun h1 s' f => ?_)
  · rw [hok] at h0; cases h0
  · have f0 : mfr s s' [0, 9] [] := (mfr_I s (by decide)).trans (f.more (by decide) (by decide))
    exact wp_mono (md_row_2 ((f0.2.1 3 (by decide)).trans T.1) hR) (fun v s2 h => ⟨h.1, by rw [← h.2]; rfl, by rw [← h.2]; exact f0.trans (mfr_I s' (by decide))⟩)
theorem md_row {kd : Nat} (T : isTabM s R) (hk : kd ≤ 4) (hn : s.1 141 1 = nI l.length) (hm : holdA s 142 0 l) (h100 : l.length ≤ 100) (hok : t_ok l kd = true) (hR : R.length < 16) (hc : ∀ x ∈ l, 32 ≤ x ∧ x < 127) : ca L xs (d + 4) 109 [.ref 141, .int (nI kd)] s (fun v s' => v = some (.int (nI (R.length + 1))) ∧ s'.1 141 0 = 0 ∧ s'.1 141 1 = 0 ∧ isTabM s' (R ++ [t_row l kd (t_end l)]) ∧ mfr s s' [0, 1, 3, 9] [143, 144, 145, 146, 147]) := by
  refine wg_call (Nat.le_of_ble_eq_true rfl) ?_
  show wp L xs (d + 3) 109 0 [some (.ref 141), some (.int (nI kd)), none, none, none, none] [] s _
  refine wg_aload_n (d109_0 L xs) rfl ?_
  refine wg_iload_n (d109_1 L xs) rfl ?_
  refine wn_if_lt (d109_2 L xs) (x := kd) (by omega) (t := 10) (by decide) (fun h1 => by omega) (fun h1 => ?_)
  refine wg_iload_n (d109_5 L xs) rfl ?_
  refine wg_iconst (d109_6 L xs) (x := 4) (by decide) ?_
  refine wn_icmp_le (d109_7 L xs) (x := kd) (y := 4) (by omega) (by omega) (t := 14) (by decide) (fun h2 => ?_) (fun h2 => by omega)
  refine wg_iconst (d109_14 L xs) (x := 0) (by decide) ?_
  refine wg_puti (d109_15 L xs) (cj := 9) (k0 := 0) rfl (by decide) rfl (Nat.le_of_ble_eq_true rfl) rfl rfl rfl ?_
  refine wg_aload_n (d109_18 L xs) rfl ?_
  refine wg_get (d109_19 L xs) (kd := 1) (cj := 9) (k0 := 0) rfl (Or.inl rfl) (by decide) rfl rfl ?_
  refine wg_top (y := 0) rfl ?_
  refine wg_if_le (d109_22 L xs) (t := 27) (by decide) (fun _ => ?_) (fun hn => absurd (by decide) hn)
  refine wg_iconst (d109_27 L xs) (x := 0) (by decide) ?_
  refine wg_istore_n (d109_28 L xs) (ls' := [some (.ref 141), some (.int (nI kd)), some (.int 0), none, none, none]) (Nat.le_of_ble_eq_true rfl) rfl ?_
  refine md_row_f (l := l) (s := mg_I s 141 0 0) hn (holdA_of hm rfl) h100 l.length 0 (by omega) ?_
  refine md_row_k (s := mg_I s 141 0 0) hk hn (holdA_of hm rfl) h100 (fun h0 x s' f => ?_) (fun h1 s' f => ?_)
  · rw [hok] at h0; cases h0
  · have f0 : mfr s s' [0, 9] [] := (mfr_I s (by decide)).trans (f.more (by decide) (by decide))
    have hel : t_end l ≤ l.length := by have := (f_find_s (g := gl l) (c := 32) (l.length - 0) 0).2.1; unfold t_end; omega
    have T' : isTabM s' R := f0.tab (by decide) (fun a h1 h2 => by simp) T
    refine wp_mono (md_row_1 T' hR ((f0.2.1 1 (by decide)).trans hn) (f0.hold (by decide) hm) h100 hel) (fun v s2 h => ?_)
    obtain ⟨e1, s1, e2, e3, e4, e5⟩ := h
    subst e4
    have hw := okrow_of hk hc h100 hok
    refine ⟨e1, ?_, rfl, e5 _ hw.1 rfl rfl rfl rfl hw.2, (f0.more (by decide) (by decide)).trans ((e3.more (by decide) (by decide)).trans ((m_new_fr s1 R.length kd l.length (t_end l) (t_adr l kd (t_end l))).more (by decide) (by decide)))⟩
    rw [(m_new_fr s1 R.length kd l.length (t_end l) (t_adr l kd (t_end l))).2.1 0 (by decide)]
    exact e2
theorem md_row_x {x : Int32} (hx : x < 0 ∨ 4 < x) : ca L xs (d + 1) 109 [.ref 141, .int x] s (fun v s' => v = some (.int 0) ∧ mg_I s 141 0 1 = s') := by
  refine wg_call (Nat.le_of_ble_eq_true rfl) ?_
  show wp L xs d 109 0 [some (.ref 141), some (.int x), none, none, none, none] [] s _
  refine wg_aload_n (d109_0 L xs) rfl ?_
  refine wg_iload_n (d109_1 L xs) rfl ?_
  refine wg_if_lt (d109_2 L xs) (t := 10) (by decide) (fun h1 => ?_) (fun h1 => ?_)
  · refine wg_iconst (d109_10 L xs) (x := 1) (by decide) ?_
    refine wg_goto (d109_11 L xs) (t := 15) (by decide) ?_
    refine wg_puti (d109_15 L xs) (cj := 9) (k0 := 0) rfl (by decide) rfl (Nat.le_of_ble_eq_true rfl) rfl rfl rfl ?_
    refine wg_aload_n (d109_18 L xs) rfl ?_
    refine wg_get (d109_19 L xs) (kd := 1) (cj := 9) (k0 := 0) rfl (Or.inl rfl) (by decide) rfl rfl ?_
    refine wg_top (y := 1) rfl ?_
    refine wg_if_le (d109_22 L xs) (t := 27) (by decide) (fun hp => absurd hp (by decide)) (fun _ => ?_)
    refine wg_iconst (d109_25 L xs) (x := 0) (by decide) ?_
    exact wg_iret (d109_26 L xs) rfl rfl ⟨rfl, rfl⟩
  · refine wg_iload_n (d109_5 L xs) rfl ?_
    refine wg_iconst (d109_6 L xs) (x := 4) (by decide) ?_
    refine wg_icmp_le (d109_7 L xs) (t := 14) (by decide) (fun h3 => absurd h3 (Int32.not_le.mpr (hx.resolve_left (by assumption)))) (fun h3 => ?_)
    refine wg_iconst (d109_10 L xs) (x := 1) (by decide) ?_
    refine wg_goto (d109_11 L xs) (t := 15) (by decide) ?_
    refine wg_puti (d109_15 L xs) (cj := 9) (k0 := 0) rfl (by decide) rfl (Nat.le_of_ble_eq_true rfl) rfl rfl rfl ?_
    refine wg_aload_n (d109_18 L xs) rfl ?_
    refine wg_get (d109_19 L xs) (kd := 1) (cj := 9) (k0 := 0) rfl (Or.inl rfl) (by decide) rfl rfl ?_
    refine wg_top (y := 1) rfl ?_
    refine wg_if_le (d109_22 L xs) (t := 27) (by decide) (fun hp => absurd hp (by decide)) (fun _ => ?_)
    refine wg_iconst (d109_25 L xs) (x := 0) (by decide) ?_
    exact wg_iret (d109_26 L xs) rfl rfl ⟨rfl, rfl⟩
end MR4
