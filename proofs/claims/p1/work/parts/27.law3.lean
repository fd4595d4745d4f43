/-! p1: the law on scripts of at most three ints -/
def mg_fin (L : Nat) (xs : Nat → Int32) (h : ax_H) : Prop := ∃ h1 : ax_H, ax_Go (mgT L xs) 8 0 23 [some (.ref ax_big), some (.ref 0), some (.ref 141), some (.ref 166), some (.int 0), none, none] [] h (.inl (some (.int 1)), h1) ∧ h1.2.1 ≤ 168 ∧ h1.2.2.1 ≤ 7918
theorem mg_sz0 {h : ax_H} (hz : h.2.1 = 167) (hs : h.2.2.1 = 7912) (h1 : ax_H) (e1 : h1.2.1 = h.2.1) (e2 : h1.2.2.1 = h.2.2.1) : h1.2.1 ≤ 168 ∧ h1.2.2.1 ≤ 7918 := by omega
theorem mg_sz1 {h : ax_H} (hz : h.2.1 = 167) (hs : h.2.2.1 = 7912) (h1 : ax_H) (e1 : h1.2.1 = h.2.1 + 1) (e2 : h1.2.2.1 = h.2.2.1 + 6) : h1.2.1 ≤ 168 ∧ h1.2.2.1 ≤ 7918 := by omega
theorem mg_f0 (xs : Nat → Int32) {h : ax_H} (F : mg_fr h) : mg_fin 0 xs h := by
  obtain ⟨hz, hs, -⟩ := F
  exact ⟨_, z0_128 xs (d := 8) hz, mg_sz0 hz hs _ rfl rfl⟩
theorem mg_f1 (xs : Nat → Int32) {h : ax_H} (F : mg_fr h) : mg_fin 1 xs h := by
  obtain ⟨hz, hs, -⟩ := F
  exact ⟨_, z0_129 xs (d := 8) hz, mg_sz0 hz hs _ rfl rfl⟩
theorem mg_f2 (xs : Nat → Int32) {h : ax_H} (F : mg_fr h) : mg_fin 2 xs h := by
  obtain ⟨hz, hs, -⟩ := F
  exact ⟨_, z0_130 xs (d := 8) hz, mg_sz0 hz hs _ rfl rfl⟩
theorem mg_j1 (xs : Nat → Int32) {h : ax_H} (F : mg_fr h) (hj : xs 0 &&& 15 = 1) : mg_fin 3 xs h := by
  obtain ⟨hz, hs, F0, F1, F3, F5, F87, F141, -, -⟩ := F
  exact ⟨_, z0_47 xs (d := 6) (hs0 := rfl) (hz := hz) (F0 := F0) (F1 := F1) (F141 := F141) (hj := hj), mg_sz0 hz hs _ rfl rfl⟩
theorem mg_j2 (xs : Nat → Int32) {h : ax_H} (F : mg_fr h) (hj : xs 0 &&& 15 = 2) : mg_fin 3 xs h := by
  obtain ⟨hz, hs, F0, F1, F3, F5, F87, F141, -, -⟩ := F
  exact ⟨_, z0_48 xs (d := 6) (hs0 := rfl) (hz := hz) (F0 := F0) (F1 := F1) (F141 := F141) (hj := hj), mg_sz0 hz hs _ rfl rfl⟩
theorem mg_j3 (xs : Nat → Int32) {h : ax_H} (F : mg_fr h) (hj : xs 0 &&& 15 = 3) : mg_fin 3 xs h := by
  obtain ⟨hz, hs, F0, F1, F3, F5, F87, F141, -, -⟩ := F
  by_cases hc_3 : xs 1 < 0
  · exact ⟨_, z0_63 xs (d := 4) (hs0 := rfl) (hs1 := rfl) (hz := hz) (F0 := F0) (F1 := F1) (F141 := F141) (hc_3 := hc_3) (hj := hj), mg_sz1 hz hs _ rfl rfl⟩
  · by_cases hc_4 : 4 < xs 1
    · exact ⟨_, z0_77 xs (d := 4) (hs0 := rfl) (hs1 := rfl) (hz := hz) (F0 := F0) (F1 := F1) (F141 := F141) (hc_3 := hc_3) (hc_4 := hc_4) (hj := hj), mg_sz1 hz hs _ rfl rfl⟩
    · exact ⟨_, z0_85 xs (d := 4) (hs0 := rfl) (hs1 := rfl) (hz := hz) (F0 := F0) (F1 := F1) (F141 := F141) (hc_3 := hc_3) (hc_4 := hc_4) (hj := hj), mg_sz1 hz hs _ rfl rfl⟩
theorem mg_j4 (xs : Nat → Int32) {h : ax_H} (F : mg_fr h) (hj : xs 0 &&& 15 = 4) : mg_fin 3 xs h := by
  obtain ⟨hz, hs, F0, F1, F3, F5, F87, F141, -, -⟩ := F
  by_cases hc_3 : xs 1 < 0
  · exact ⟨_, z0_91 xs (d := 6) (hs0 := rfl) (hs1 := rfl) (hz := hz) (F0 := F0) (F3 := F3) (F141 := F141) (hc_3 := hc_3) (hj := hj), mg_sz0 hz hs _ rfl rfl⟩
  · exact ⟨_, z0_93 xs (d := 6) (hs0 := rfl) (hs1 := rfl) (hz := hz) (F0 := F0) (F3 := F3) (F141 := F141) (hc_3 := hc_3) (hj := hj), mg_sz0 hz hs _ rfl rfl⟩
theorem mg_j5 (xs : Nat → Int32) {h : ax_H} (F : mg_fr h) (hj : xs 0 &&& 15 = 5) : mg_fin 3 xs h := by
  obtain ⟨hz, hs, F0, F1, F3, F5, F87, F141, -, -⟩ := F
  exact ⟨_, z0_99 xs (d := 4) (hs0 := rfl) (hs1 := rfl) (hz := hz) (F0 := F0) (F1 := F1) (F141 := F141) (hj := hj), mg_sz1 hz hs _ rfl rfl⟩
theorem mg_j6 (xs : Nat → Int32) {h : ax_H} (F : mg_fr h) (hj : xs 0 &&& 15 = 6) : mg_fin 3 xs h := by
  obtain ⟨hz, hs, F0, F1, F3, F5, F87, F141, -, -⟩ := F
  exact ⟨_, z0_102 xs (d := 6) (hs0 := rfl) (hs1 := rfl) (hz := hz) (F0 := F0) (F87 := F87) (F141 := F141) (hj := hj), mg_sz0 hz hs _ rfl rfl⟩
theorem mg_j7 (xs : Nat → Int32) {h : ax_H} (F : mg_fr h) (hj : xs 0 &&& 15 = 7) : mg_fin 3 xs h := by
  obtain ⟨hz, hs, F0, F1, F3, F5, F87, F141, -, -⟩ := F
  exact ⟨_, z0_105 xs (d := 6) (hs0 := rfl) (hs1 := rfl) (hz := hz) (F0 := F0) (F3 := F3) (F5 := F5) (F141 := F141) (hj := hj), mg_sz0 hz hs _ rfl rfl⟩
theorem mg_j8 (xs : Nat → Int32) {h : ax_H} (F : mg_fr h) (hj : xs 0 &&& 15 = 8) : mg_fin 3 xs h := by
  obtain ⟨hz, hs, F0, F1, F3, F5, F87, F141, -, -⟩ := F
  exact ⟨_, z0_109 xs (d := 4) (hs0 := rfl) (hs1 := rfl) (hz := hz) (F0 := F0) (F1 := F1) (F141 := F141) (hj := hj), mg_sz1 hz hs _ rfl rfl⟩
theorem mg_j9 (xs : Nat → Int32) {h : ax_H} (F : mg_fr h) (hj : xs 0 &&& 15 = 9) : mg_fin 3 xs h := by
  obtain ⟨hz, hs, F0, F1, F3, F5, F87, F141, -, -⟩ := F
  by_cases hc_5 : xs 1 = (-1)
  · exact ⟨_, z0_117 xs (d := 6) (hs0 := rfl) (hs1 := rfl) (hz := hz) (F0 := F0) (F3 := F3) (F141 := F141) (hc_5 := hc_5) (hj := hj), mg_sz0 hz hs _ rfl rfl⟩
  · by_cases hc_3 : xs 1 < 0
    · exact ⟨_, z0_119 xs (d := 6) (hs0 := rfl) (hs1 := rfl) (hz := hz) (F0 := F0) (F3 := F3) (F141 := F141) (hc_3 := hc_3) (hc_5 := hc_5) (hj := hj), mg_sz0 hz hs _ rfl rfl⟩
    · exact ⟨_, z0_121 xs (d := 6) (hs0 := rfl) (hs1 := rfl) (hz := hz) (F0 := F0) (F3 := F3) (F141 := F141) (hc_3 := hc_3) (hc_5 := hc_5) (hj := hj), mg_sz0 hz hs _ rfl rfl⟩
theorem mg_j10 (xs : Nat → Int32) {h : ax_H} (F : mg_fr h) (hj : xs 0 &&& 15 = 10) : mg_fin 3 xs h := by
  obtain ⟨hz, hs, F0, F1, F3, F5, F87, F141, -, -⟩ := F
  exact ⟨_, z0_122 xs (d := 8) (hs0 := rfl) (hz := hz) (hj := hj), mg_sz0 hz hs _ rfl rfl⟩
theorem mg_j11 (xs : Nat → Int32) {h : ax_H} (F : mg_fr h) (hj : xs 0 &&& 15 = 11) : mg_fin 3 xs h := by
  obtain ⟨hz, hs, F0, F1, F3, F5, F87, F141, -, -⟩ := F
  exact ⟨_, z0_123 xs (d := 8) (hs0 := rfl) (hz := hz) (hj := hj), mg_sz0 hz hs _ rfl rfl⟩
theorem mg_j12 (xs : Nat → Int32) {h : ax_H} (F : mg_fr h) (hj : xs 0 &&& 15 = 12) : mg_fin 3 xs h := by
  obtain ⟨hz, hs, F0, F1, F3, F5, F87, F141, -, -⟩ := F
  exact ⟨_, z0_124 xs (d := 8) (hs0 := rfl) (hz := hz) (hj := hj), mg_sz0 hz hs _ rfl rfl⟩
theorem mg_j13 (xs : Nat → Int32) {h : ax_H} (F : mg_fr h) (hj : xs 0 &&& 15 = 13) : mg_fin 3 xs h := by
  obtain ⟨hz, hs, F0, F1, F3, F5, F87, F141, -, -⟩ := F
  exact ⟨_, z0_125 xs (d := 8) (hs0 := rfl) (hz := hz) (hj := hj), mg_sz0 hz hs _ rfl rfl⟩
theorem mg_j14 (xs : Nat → Int32) {h : ax_H} (F : mg_fr h) (hj : xs 0 &&& 15 = 14) : mg_fin 3 xs h := by
  obtain ⟨hz, hs, F0, F1, F3, F5, F87, F141, -, -⟩ := F
  exact ⟨_, z0_126 xs (d := 8) (hs0 := rfl) (hz := hz) (hj := hj), mg_sz0 hz hs _ rfl rfl⟩
theorem mg_j15 (xs : Nat → Int32) {h : ax_H} (F : mg_fr h) (hj : xs 0 &&& 15 = 15) : mg_fin 3 xs h := by
  obtain ⟨hz, hs, F0, F1, F3, F5, F87, F141, -, -⟩ := F
  exact ⟨_, z0_127 xs (d := 8) (hs0 := rfl) (hz := hz) (hj := hj), mg_sz0 hz hs _ rfl rfl⟩
theorem mg_j0 (xs : Nat → Int32) {h : ax_H} (F : mg_fr h) (hj : xs 0 &&& 15 = 0) : mg_fin 3 xs h := by
  obtain ⟨hz, hs, F0, F1, F3, F5, F87, F141, ⟨f2, F2⟩, ⟨f3, F142⟩⟩ := F
  have X := ty_x 3 xs (d := 5) (p := ((xs 1).toInt64 <<< ((32 : Int32).toInt64 &&& 63)) ||| ((xs 2).toInt64 &&& (Int64.ofNat 4294967295))) hz F0 F1 F2
  by_cases hg : ∀ i, i < 8 → mg_ok1 (mg_by (((xs 1).toInt64 <<< ((32 : Int32).toInt64 &&& 63)) ||| ((xs 2).toInt64 &&& (Int64.ofNat 4294967295))) (nI (8 * i)))
  · obtain ⟨h2, c2, z2, s2, e1, e2⟩ := X.1 hg
    have M := ty_m 3 xs (d := 7) (p := ((xs 1).toInt64 <<< ((32 : Int32).toInt64 &&& 63)) ||| ((xs 2).toInt64 &&& (Int64.ofNat 4294967295))) z2 (e1.trans F141) (e2.trans F142)
    obtain ⟨h3, c3, z3, s3⟩ := M.1 (fun i hi => ty_eq _ i hi ▸ hg i hi)
    refine ⟨h3, ?_, by omega, by omega⟩
    refine z0_131 xs (d := 8) (hs0 := rfl) (hs1 := rfl) (hs2 := rfl) (hz := hz) (hj := hj) ?_
    refine ag_invv (d0_115 3 xs) (kd := 7) (mj := 13) (n := 1) rfl (Or.inl rfl) (xs := [.long _]) (r := []) rfl rfl F0 rfl (Nat.le_of_ble_eq_true rfl) c2 ?_
    refine z0_132 xs (d := 8) (r := 1) (hs1 := rfl) (hs2 := rfl) (hz := z2) ?_
    refine ag_invv (d0_141 3 xs) (kd := 7) (mj := 106) (n := 1) rfl (Or.inl rfl) (xs := [.long _]) (r := [.int 1]) rfl rfl (e1.trans F141) rfl (Nat.le_of_ble_eq_true rfl) c3 ?_
    refine ag_icmp_eq (d0_144 3 xs) (t := 441) (by decide) (fun _ => ?_) (fun hn => absurd rfl hn)
    exact z0_133 xs (d := 8) z3
  · have hb : ∃ i, i < 8 ∧ ¬ mg_ok1 (mg_by (((xs 1).toInt64 <<< ((32 : Int32).toInt64 &&& 63)) ||| ((xs 2).toInt64 &&& (Int64.ofNat 4294967295))) (nI (8 * i))) := Classical.byContradiction (fun q => hg (fun i hi => Classical.byContradiction (fun q' => q ⟨i, hi, q'⟩)))
    have c2 := X.2 hb
    have M := ty_m 3 xs (d := 7) (p := ((xs 1).toInt64 <<< ((32 : Int32).toInt64 &&& 63)) ||| ((xs 2).toInt64 &&& (Int64.ofNat 4294967295))) hz F141 F142
    obtain ⟨h3, c3, z3, s3⟩ := M.2 (hb.elim (fun i q => ⟨i, q.1, ty_eq _ i q.1 ▸ q.2⟩))
    refine ⟨h3, ?_, by omega, by omega⟩
    refine z0_131 xs (d := 8) (hs0 := rfl) (hs1 := rfl) (hs2 := rfl) (hz := hz) (hj := hj) ?_
    refine ag_invv (d0_115 3 xs) (kd := 7) (mj := 13) (n := 1) rfl (Or.inl rfl) (xs := [.long _]) (r := []) rfl rfl F0 rfl (Nat.le_of_ble_eq_true rfl) c2 ?_
    refine z0_132 xs (d := 8) (r := 0) (hs1 := rfl) (hs2 := rfl) (hz := hz) ?_
    refine ag_invv (d0_141 3 xs) (kd := 7) (mj := 106) (n := 1) rfl (Or.inl rfl) (xs := [.long _]) (r := [.int 0]) rfl rfl F141 rfl (Nat.le_of_ble_eq_true rfl) c3 ?_
    refine ag_icmp_eq (d0_144 3 xs) (t := 441) (by decide) (fun _ => ?_) (fun hn => absurd rfl hn)
    exact z0_133 xs (d := 8) z3
theorem mg_f3 (xs : Nat → Int32) {h : ax_H} (F : mg_fr h) : mg_fin 3 xs h := by
  obtain ⟨j, hj, e⟩ := pk_andE (xs 0) (m := 15) 4 (by decide)
  match j, hj, e with
  | 0, _, e => exact mg_j0 xs F e
  | 1, _, e => exact mg_j1 xs F e
  | 2, _, e => exact mg_j2 xs F e
  | 3, _, e => exact mg_j3 xs F e
  | 4, _, e => exact mg_j4 xs F e
  | 5, _, e => exact mg_j5 xs F e
  | 6, _, e => exact mg_j6 xs F e
  | 7, _, e => exact mg_j7 xs F e
  | 8, _, e => exact mg_j8 xs F e
  | 9, _, e => exact mg_j9 xs F e
  | 10, _, e => exact mg_j10 xs F e
  | 11, _, e => exact mg_j11 xs F e
  | 12, _, e => exact mg_j12 xs F e
  | 13, _, e => exact mg_j13 xs F e
  | 14, _, e => exact mg_j14 xs F e
  | 15, _, e => exact mg_j15 xs F e
  | j + 16, hj, _ => exact absurd hj (by omega)
theorem mg_law3 (L : Nat) (hL : L ≤ 3) (xs : Nat → Int32) : ∃ (d n : Nat) (h1 : ax_H), d ≤ 1000 ∧ ax_loop (mgT L xs) (ax_call (mgT L xs) d n) 0 n 0 (ax_entry (mgT L xs) 0 [.ref ax_big]) [] mg_h0 = some (.inl (some (.int 1)), h1) ∧ h1.2.1 ≤ 168 ∧ h1.2.2.1 ≤ 7918 := by
  obtain ⟨hC, F, k⟩ := mg_start
  have key : mg_fin L xs hC := by
    match L, hL with
    | 0, _ => exact mg_f0 xs F
    | 1, _ => exact mg_f1 xs F
    | 2, _ => exact mg_f2 xs F
    | 3, _ => exact mg_f3 xs F
  obtain ⟨h1, g, z, s⟩ := key
  obtain ⟨n, hn⟩ := k L xs _ g
  exact ⟨8, n, h1, by decide, hn n (Nat.le_refl n) n (Nat.le_refl n), z, s⟩
