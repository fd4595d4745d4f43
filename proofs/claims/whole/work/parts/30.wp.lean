/-! A second layer: the ints of the cells alone. Every cell below 167 keeps its shape. -/
/-- ints of objects, of arrays, the table's rows, the checker's levels, the law's long -/
abbrev mg_s : Type := (Nat → Nat → Int32) × (Nat → Nat → Int32) × (Nat → Option Nat) × (Nat → Option Nat) × (Nat → Int64)
def mg_sh : List (Nat × Nat) := [(6, 0), (0, 0), (1, 100), (7, 0), (8, 16), (0, 0), (1, 55), (2, 0), (0, 0), (1, 48), (0, 0), (1, 98), (2, 0), (0, 0), (1, 48), (0, 0), (1, 98), (2, 0), (0, 0), (1, 48), (0, 0), (1, 98), (2, 0), (0, 0), (1, 48), (0, 0), (1, 98), (2, 0), (0, 0), (1, 48), (0, 0), (1, 98), (2, 0), (0, 0), (1, 48), (0, 0), (1, 98), (2, 0), (0, 0), (1, 48), (0, 0), (1, 98), (2, 0), (0, 0), (1, 48), (0, 0), (1, 98), (2, 0), (0, 0), (1, 48), (0, 0), (1, 98), (2, 0), (0, 0), (1, 48), (0, 0), (1, 98), (2, 0), (0, 0), (1, 48), (0, 0), (1, 98), (2, 0), (0, 0), (1, 48), (0, 0), (1, 98), (2, 0), (0, 0), (1, 48), (0, 0), (1, 98), (2, 0), (0, 0), (1, 48), (0, 0), (1, 98), (2, 0), (0, 0), (1, 48), (0, 0), (1, 98), (2, 0), (0, 0), (1, 48), (0, 0), (1, 98), (9, 0), (10, 11), (0, 0), (1, 49), (0, 0), (1, 15), (3, 0), (0, 0), (1, 48), (4, 0), (3, 0), (0, 0), (1, 48), (4, 0), (3, 0), (0, 0), (1, 48), (4, 0), (3, 0), (0, 0), (1, 48), (4, 0), (3, 0), (0, 0), (1, 48), (4, 0), (3, 0), (0, 0), (1, 48), (4, 0), (3, 0), (0, 0), (1, 48), (4, 0), (3, 0), (0, 0), (1, 48), (4, 0), (3, 0), (0, 0), (1, 48), (4, 0), (3, 0), (0, 0), (1, 48), (4, 0), (3, 0), (0, 0), (1, 48), (4, 0), (11, 0), (12, 0), (0, 0), (1, 55), (13, 0), (5, 100), (5, 16), (5, 1600), (5, 16), (5, 16), (5, 16), (5, 60), (5, 60), (5, 16), (5, 1500), (5, 64), (5, 64), (5, 624), (5, 13), (5, 13), (5, 13), (5, 13), (5, 13), (5, 13), (5, 13), (5, 13), (5, 48), (5, 60), (5, 60), (14, 1)]
def mg_cc (I A : Nat → Int32) (P V : Nat → Option Nat) (O : Nat → Int64) (k n a : Nat) : ax_C := match k with
  | 0 => .inr (1, [.ref (a + 1), .int (I 1)])
  | 1 => .inl (1, n, .inl A)
  | 2 => .inr (2, [.int (I 0), .ref (a + 1), .ref (a + 3), .int (I 3)])
  | 3 => .inr (5, [.ref (a + 1), .ref (a + 3)])
  | 4 => .inr (4, [.int (I 0), .int (I 1), .int (I 2), .int (I 3), .int (I 4), .int (I 5)])
  | 5 => .inl (0, n, .inl A)
  | 6 => .inr (0, [.ref 1, .ref 3, .ref 87, .ref 137])
  | 7 => .inr (3, [.ref 4, .int (I 1), .ref 5])
  | 8 => .inl (3, n, .inr (.inr (.inr (.inr P))))
  | 9 => .inr (6, [.ref 3, .ref 88, .ref 89, .ref 91, .int (I 4), .int (I 5), .int (I 6), .int (I 7), .int (I 8), .int (I 9)])
  | 10 => .inl (4, n, .inr (.inr (.inr (.inr V))))
  | 11 => .inr (8, [.ref 3, .ref 87, .ref 138, .ref 139])
  | 12 => .inr (7, [.int (I 0), .int (I 1), .int (I 2), .int (I 3)])
  | 13 => .inr (9, [.int (I 0), .int (I 1), .ref 142, .int (I 3), .ref 143, .ref 144, .ref 145, .ref 146, .ref 147, .int (I 9), .int (I 10), .ref 148, .int (I 12), .ref 149, .int (I 14), .int (I 15), .ref 150, .int (I 17), .ref 151, .int (I 19), .ref 152, .ref 153, .int (I 22), .int (I 23), .ref 154, .ref 155, .ref 156, .ref 157, .ref 158, .ref 159, .ref 160, .ref 161, .ref 162, .int (I 33), .int (I 34), .int (I 35), .int (I 36), .int (I 37), .int (I 38), .int (I 39), .int (I 40), .int (I 41), .ref 163, .int (I 43), .int (I 44), .int (I 45), .int (I 46), .ref 164, .ref 165])
  | _ => .inl (2, n, .inr (.inl O))
def mg_c (s : mg_s) (a : Nat) : ax_C := mg_cc (s.1 a) (s.2.1 a) s.2.2.1 s.2.2.2.1 s.2.2.2.2 (mg_sh.getD a (0, 0)).1 (mg_sh.getD a (0, 0)).2 a
/-- what lies in a row of chars is a char -/
def mg_ch (s : mg_s) : Prop := ∀ a, a < 167 → (mg_sh.getD a (0, 0)).1 = 1 → ∀ j, j < (mg_sh.getD a (0, 0)).2 → vp_nar .char (s.2.1 a j) = s.2.1 a j
def mg_S (h : ax_H) (s : mg_s) : Prop := (∀ a, a < 167 → h.1 a = some (mg_c s a)) ∧ 167 ≤ h.2.1 ∧ mg_ch s
def mg_I (s : mg_s) (a k : Nat) (x : Int32) : mg_s := (fun b => if b = a then upd (s.1 b) k x else s.1 b, s.2)
def mg_A (s : mg_s) (a k : Nat) (x : Int32) : mg_s := (s.1, fun b => if b = a then upd (s.2.1 b) k x else s.2.1 b, s.2.2)
def mg_Rw (s : mg_s) (k r : Nat) : mg_s := (s.1, s.2.1, va_up s.2.2.1 k (some r), s.2.2.2)
def mg_O (s : mg_s) (k : Nat) (x : Int64) : mg_s := (s.1, s.2.1, s.2.2.1, s.2.2.2.1, vp_updL s.2.2.2.2 k x)
theorem mg_c_ne {s s' : mg_s} {a b : Nat} (h1 : s'.1 b = s.1 b) (h2 : s'.2.1 b = s.2.1 b) (h3 : s'.2.2 = s.2.2) : mg_c s' b = mg_c s b := by
  unfold mg_c; rw [h1, h2, h3]
/-- a cell of the shape is written, the others stay -/
theorem mg_S_up {h : ax_H} {s s' : mg_s} {a : Nat} {c : ax_C} (S : mg_S h s) (hc : mg_c s' a = c) (hne : ∀ b, b < 167 → b ≠ a → mg_c s' b = mg_c s b) (hch : mg_ch s → mg_ch s') : mg_S (ax_up h a c) s' := by
  refine ⟨fun b hb => ?_, S.2.1, hch S.2.2⟩
  by_cases e : b = a
  · subst e; rw [ax_up_at, hc]
  · rw [ax_up_ne _ _ e, hne b hb e]; exact S.1 b hb
def wp (L : Nat) (xs : Nat → Int32) (d mi pc : Nat) (ls : ax_L) (st : List Value) (s : mg_s) (Q : Option Value → mg_s → Prop) : Prop := ∀ h, mg_S h s → ∃ v s' h', ax_Go (mgT L xs) d mi pc ls st h (.inl v, h') ∧ mg_S h' s' ∧ h'.2.1 = h.2.1 ∧ h'.2.2.1 = h.2.2.1 ∧ Q v s'
def ca (L : Nat) (xs : Nat → Int32) (d mj : Nat) (av : List Value) (s : mg_s) (Q : Option Value → mg_s → Prop) : Prop := ∀ h, mg_S h s → ∃ v s' h', ax_Ca (mgT L xs) d mj av h (.inl v, h') ∧ mg_S h' s' ∧ h'.2.1 = h.2.1 ∧ h'.2.2.1 = h.2.2.1 ∧ Q v s'
section WP
variable {L : Nat} {xs : Nat → Int32} {d mi pc : Nat} {ls : ax_L} {st : List Value} {s : mg_s} {Q : Option Value → mg_s → Prop}
theorem wp_st {pc' : Nat} {ls' : ax_L} {st' : List Value} (hs : ∀ h o, mg_S h s → ax_Go (mgT L xs) d mi pc' ls' st' h o → ax_Go (mgT L xs) d mi pc ls st h o) (k : wp L xs d mi pc' ls' st' s Q) : wp L xs d mi pc ls st s Q := by
  intro h S
  obtain ⟨v, s', h', g, q⟩ := k h S
  exact ⟨v, s', h', hs h _ S g, q⟩
theorem wp_up {pc' : Nat} {ls' : ax_L} {st' : List Value} {s' : mg_s} {a : Nat} {c : ax_C} (hs : ∀ h o, mg_S h s → ax_Go (mgT L xs) d mi pc' ls' st' (ax_up h a c) o → ax_Go (mgT L xs) d mi pc ls st h o) (hc : mg_c s' a = c) (hne : ∀ b, b < 167 → b ≠ a → mg_c s' b = mg_c s b) (hch : mg_ch s → mg_ch s') (k : wp L xs d mi pc' ls' st' s' Q) : wp L xs d mi pc ls st s Q := by
  intro h S
  obtain ⟨v, s2, h', g, q⟩ := k (ax_up h a c) (mg_S_up S hc hne hch)
  exact ⟨v, s2, h', hs h _ S g, q⟩
theorem wp_ch (k : mg_ch s → wp L xs d mi pc ls st s Q) : wp L xs d mi pc ls st s Q := fun h S => k S.2.2 h S
theorem mg_nar2 (x : Int32) : vp_nar .char (vp_nar .char x) = vp_nar .char x := by
  show ((x.toUInt32 % 65536).toInt32.toUInt32 % 65536).toInt32 = (x.toUInt32 % 65536).toInt32
  rw [show (x.toUInt32 % 65536).toInt32.toUInt32 = x.toUInt32 % 65536 from rfl]
  congr 1
  apply UInt32.toNat_inj.mp
  rw [UInt32.toNat_mod, UInt32.toNat_mod]
  exact Nat.mod_mod _ _
theorem mg_ch_c {a k : Nat} {x : Int32} (q : mg_ch s) : mg_ch (mg_A s a k (vp_nar .char x)) := by
  intro b hb hk j hj
  show vp_nar .char ((if b = a then upd (s.2.1 b) k (vp_nar .char x) else s.2.1 b) j) = (if b = a then upd (s.2.1 b) k (vp_nar .char x) else s.2.1 b) j
  by_cases e : b = a
  · rw [if_pos e]; unfold upd
    by_cases e2 : j = k
    · rw [if_pos e2]; exact mg_nar2 x
    · rw [if_neg e2]; exact q b hb hk j hj
  · rw [if_neg e]; exact q b hb hk j hj
theorem mg_ch_i {a k n : Nat} {x : Int32} {f : Nat → Int32} (ha : mg_c s a = .inl (0, n, .inl f)) (q : mg_ch s) : mg_ch (mg_A s a k x) := by
  intro b hb hk j hj
  show vp_nar .char ((if b = a then upd (s.2.1 b) k x else s.2.1 b) j) = (if b = a then upd (s.2.1 b) k x else s.2.1 b) j
  by_cases e : b = a
  · subst e
    unfold mg_c at ha
    rw [hk] at ha
    simp only [mg_cc] at ha
    cases ha
  · rw [if_neg e]; exact q b hb hk j hj
theorem mg_I_ne {a k : Nat} {x : Int32} : ∀ b, b < 167 → b ≠ a → mg_c (mg_I s a k x) b = mg_c s b := fun b _ hb => mg_c_ne (a := a) (if_neg hb) rfl rfl
theorem mg_A_ne {a k : Nat} {x : Int32} : ∀ b, b < 167 → b ≠ a → mg_c (mg_A s a k x) b = mg_c s b := fun b _ hb => mg_c_ne (a := a) rfl (if_neg hb) rfl
theorem wg_iconst {n : Int} {x : Int32} (hd : decode (ax_code (mgT L xs) mi) pc = .ok (.iconst n, 1)) (hx : Int32.ofInt n = x) (k : wp L xs d mi (pc + 1) (ls) (.int x :: st) s Q) : wp L xs d mi pc ls (st) s Q := wp_st (fun h o _ k => ag_iconst hd hx k) k
theorem wg_bipush {n : Int} {x : Int32} (hd : decode (ax_code (mgT L xs) mi) pc = .ok (.bipush n, 2)) (hx : (Int8.ofInt n).toInt32 = x) (k : wp L xs d mi (pc + 2) (ls) (.int x :: st) s Q) : wp L xs d mi pc ls (st) s Q := wp_st (fun h o _ k => ag_bipush hd hx k) k
theorem wg_sipush {n : Int} {x : Int32} (hd : decode (ax_code (mgT L xs) mi) pc = .ok (.sipush n, 3)) (hx : (Int16.ofInt n).toInt32 = x) (k : wp L xs d mi (pc + 3) (ls) (.int x :: st) s Q) : wp L xs d mi pc ls (st) s Q := wp_st (fun h o _ k => ag_sipush hd hx k) k
theorem wg_lconst {n : Fin 2} {x : Int64} (hd : decode (ax_code (mgT L xs) mi) pc = .ok (.lconst n, 1)) (hx : Int64.ofNat (n : Nat) = x) (k : wp L xs d mi (pc + 1) (ls) (.long x :: st) s Q) : wp L xs d mi pc ls (st) s Q := wp_st (fun h o _ k => ag_lconst hd hx k) k
theorem wg_null (hd : decode (ax_code (mgT L xs) mi) pc = .ok (.aconst_null, 1)) (k : wp L xs d mi (pc + 1) (ls) (.null :: st) s Q) : wp L xs d mi pc ls (st) s Q := wp_st (fun h o _ k => ag_null hd k) k
theorem wg_iload {n : Nat} {x : Int32} (hd : decode (ax_code (mgT L xs) mi) pc = .ok (.iload n, 2)) (hx : ax_ld ls n = some (.int x)) (k : wp L xs d mi (pc + 2) (ls) (.int x :: st) s Q) : wp L xs d mi pc ls (st) s Q := wp_st (fun h o _ k => ag_iload hd hx k) k
theorem wg_iload_n {n : Fin 4} {x : Int32} (hd : decode (ax_code (mgT L xs) mi) pc = .ok (.iload_n n, 1)) (hx : ax_ld ls n = some (.int x)) (k : wp L xs d mi (pc + 1) (ls) (.int x :: st) s Q) : wp L xs d mi pc ls (st) s Q := wp_st (fun h o _ k => ag_iload_n hd hx k) k
theorem wg_lload {n : Nat} {x : Int64} (hd : decode (ax_code (mgT L xs) mi) pc = .ok (.lload n, 2)) (hx : ax_ld ls n = some (.long x)) (k : wp L xs d mi (pc + 2) (ls) (.long x :: st) s Q) : wp L xs d mi pc ls (st) s Q := wp_st (fun h o _ k => ag_lload hd hx k) k
theorem wg_lload_n {n : Fin 4} {x : Int64} (hd : decode (ax_code (mgT L xs) mi) pc = .ok (.lload_n n, 1)) (hx : ax_ld ls n = some (.long x)) (k : wp L xs d mi (pc + 1) (ls) (.long x :: st) s Q) : wp L xs d mi pc ls (st) s Q := wp_st (fun h o _ k => ag_lload_n hd hx k) k
theorem wg_aload {n : Nat} {x : Nat} (hd : decode (ax_code (mgT L xs) mi) pc = .ok (.aload n, 2)) (hx : ax_ld ls n = some (.ref x)) (k : wp L xs d mi (pc + 2) (ls) (.ref x :: st) s Q) : wp L xs d mi pc ls (st) s Q := wp_st (fun h o _ k => ag_aload hd hx k) k
theorem wg_aload_n {n : Fin 4} {x : Nat} (hd : decode (ax_code (mgT L xs) mi) pc = .ok (.aload_n n, 1)) (hx : ax_ld ls n = some (.ref x)) (k : wp L xs d mi (pc + 1) (ls) (.ref x :: st) s Q) : wp L xs d mi pc ls (st) s Q := wp_st (fun h o _ k => ag_aload_n hd hx k) k
theorem wg_aloadN {n : Nat} (hd : decode (ax_code (mgT L xs) mi) pc = .ok (.aload n, 2)) (hx : ax_ld ls n = some .null) (k : wp L xs d mi (pc + 2) (ls) (.null :: st) s Q) : wp L xs d mi pc ls (st) s Q := wp_st (fun h o _ k => ag_aloadN hd hx k) k
theorem wg_aload_nN {n : Fin 4} (hd : decode (ax_code (mgT L xs) mi) pc = .ok (.aload_n n, 1)) (hx : ax_ld ls n = some .null) (k : wp L xs d mi (pc + 1) (ls) (.null :: st) s Q) : wp L xs d mi pc ls (st) s Q := wp_st (fun h o _ k => ag_aload_nN hd hx k) k
theorem wg_istore {n : Nat} {x : Int32} {ls' : ax_L} (hd : decode (ax_code (mgT L xs) mi) pc = .ok (.istore n, 2)) (hn : n < ls.length) (hx : ax_set ls n (.int x) = ls') (k : wp L xs d mi (pc + 2) (ls') (st) s Q) : wp L xs d mi pc ls (.int x :: st) s Q := wp_st (fun h o _ k => ag_istore hd hn hx k) k
theorem wg_istore_n {n : Fin 4} {x : Int32} {ls' : ax_L} (hd : decode (ax_code (mgT L xs) mi) pc = .ok (.istore_n n, 1)) (hn : (n : Nat) < ls.length) (hx : ax_set ls n (.int x) = ls') (k : wp L xs d mi (pc + 1) (ls') (st) s Q) : wp L xs d mi pc ls (.int x :: st) s Q := wp_st (fun h o _ k => ag_istore_n hd hn hx k) k
theorem wg_lstore {n : Nat} {x : Int64} {ls' : ax_L} (hd : decode (ax_code (mgT L xs) mi) pc = .ok (.lstore n, 2)) (hn : n + 1 < ls.length) (hx : ax_set ls n (.long x) = ls') (k : wp L xs d mi (pc + 2) (ls') (st) s Q) : wp L xs d mi pc ls (.long x :: st) s Q := wp_st (fun h o _ k => ag_lstore hd hn hx k) k
theorem wg_lstore_n {n : Fin 4} {x : Int64} {ls' : ax_L} (hd : decode (ax_code (mgT L xs) mi) pc = .ok (.lstore_n n, 1)) (hn : (n : Nat) + 1 < ls.length) (hx : ax_set ls n (.long x) = ls') (k : wp L xs d mi (pc + 1) (ls') (st) s Q) : wp L xs d mi pc ls (.long x :: st) s Q := wp_st (fun h o _ k => ag_lstore_n hd hn hx k) k
theorem wg_astore {n : Nat} {x : Nat} {ls' : ax_L} (hd : decode (ax_code (mgT L xs) mi) pc = .ok (.astore n, 2)) (hn : n < ls.length) (hx : ax_set ls n (.ref x) = ls') (k : wp L xs d mi (pc + 2) (ls') (st) s Q) : wp L xs d mi pc ls (.ref x :: st) s Q := wp_st (fun h o _ k => ag_astore hd hn hx k) k
theorem wg_astore_n {n : Fin 4} {x : Nat} {ls' : ax_L} (hd : decode (ax_code (mgT L xs) mi) pc = .ok (.astore_n n, 1)) (hn : (n : Nat) < ls.length) (hx : ax_set ls n (.ref x) = ls') (k : wp L xs d mi (pc + 1) (ls') (st) s Q) : wp L xs d mi pc ls (.ref x :: st) s Q := wp_st (fun h o _ k => ag_astore_n hd hn hx k) k
theorem wg_astoreN {n : Nat} {ls' : ax_L} (hd : decode (ax_code (mgT L xs) mi) pc = .ok (.astore n, 2)) (hn : n < ls.length) (hx : ax_set ls n .null = ls') (k : wp L xs d mi (pc + 2) (ls') (st) s Q) : wp L xs d mi pc ls (.null :: st) s Q := wp_st (fun h o _ k => ag_astoreN hd hn hx k) k
theorem wg_astore_nN {n : Fin 4} {ls' : ax_L} (hd : decode (ax_code (mgT L xs) mi) pc = .ok (.astore_n n, 1)) (hn : (n : Nat) < ls.length) (hx : ax_set ls n .null = ls') (k : wp L xs d mi (pc + 1) (ls') (st) s Q) : wp L xs d mi pc ls (.null :: st) s Q := wp_st (fun h o _ k => ag_astore_nN hd hn hx k) k
theorem wg_iinc {n : Nat} {k0 : Int} {x y : Int32} {ls' : ax_L} (hd : decode (ax_code (mgT L xs) mi) pc = .ok (.iinc n k0, 3)) (hx : ax_ld ls n = some (.int x)) (hy : x + Int32.ofInt k0 = y) (hl : ax_set ls n (.int y) = ls') (k : wp L xs d mi (pc + 3) (ls') (st) s Q) : wp L xs d mi pc ls (st) s Q := wp_st (fun h o _ k => ag_iinc hd hx hy hl k) k
theorem wg_goto {off : Int} {t : Nat} (hd : decode (ax_code (mgT L xs) mi) pc = .ok (.goto off, 3)) (ht : ax_jmp pc off = some t) (k : wp L xs d mi (t) (ls) (st) s Q) : wp L xs d mi pc ls (st) s Q := wp_st (fun h o _ k => ag_goto hd ht k) k
theorem wg_ineg {x : Int32} (hd : decode (ax_code (mgT L xs) mi) pc = .ok (.ineg, 1)) (k : wp L xs d mi (pc + 1) (ls) (.int (-x) :: st) s Q) : wp L xs d mi pc ls (.int x :: st) s Q := wp_st (fun h o _ k => ag_ineg hd k) k
theorem wg_i2l {x : Int32} (hd : decode (ax_code (mgT L xs) mi) pc = .ok (.i2l, 1)) (k : wp L xs d mi (pc + 1) (ls) (.long x.toInt64 :: st) s Q) : wp L xs d mi pc ls (.int x :: st) s Q := wp_st (fun h o _ k => ag_i2l hd k) k
theorem wg_l2i {x : Int64} (hd : decode (ax_code (mgT L xs) mi) pc = .ok (.l2i, 1)) (k : wp L xs d mi (pc + 1) (ls) (.int x.toInt32 :: st) s Q) : wp L xs d mi pc ls (.long x :: st) s Q := wp_st (fun h o _ k => ag_l2i hd k) k
theorem wg_i2c {x : Int32} (hd : decode (ax_code (mgT L xs) mi) pc = .ok (.i2c, 1)) (k : wp L xs d mi (pc + 1) (ls) (.int (x.toUInt32 % 65536).toInt32 :: st) s Q) : wp L xs d mi pc ls (.int x :: st) s Q := wp_st (fun h o _ k => ag_i2c hd k) k
theorem wg_iadd {a b : Int32} (hd : decode (ax_code (mgT L xs) mi) pc = .ok (.iadd, 1)) (k : wp L xs d mi (pc + 1) (ls) (.int (a + b) :: st) s Q) : wp L xs d mi pc ls (.int b :: .int a :: st) s Q := wp_st (fun h o _ k => ag_iadd hd k) k
theorem wg_isub {a b : Int32} (hd : decode (ax_code (mgT L xs) mi) pc = .ok (.isub, 1)) (k : wp L xs d mi (pc + 1) (ls) (.int (a - b) :: st) s Q) : wp L xs d mi pc ls (.int b :: .int a :: st) s Q := wp_st (fun h o _ k => ag_isub hd k) k
theorem wg_imul {a b : Int32} (hd : decode (ax_code (mgT L xs) mi) pc = .ok (.imul, 1)) (k : wp L xs d mi (pc + 1) (ls) (.int (a * b) :: st) s Q) : wp L xs d mi pc ls (.int b :: .int a :: st) s Q := wp_st (fun h o _ k => ag_imul hd k) k
theorem wg_iand {a b : Int32} (hd : decode (ax_code (mgT L xs) mi) pc = .ok (.iand, 1)) (k : wp L xs d mi (pc + 1) (ls) (.int (a &&& b) :: st) s Q) : wp L xs d mi pc ls (.int b :: .int a :: st) s Q := wp_st (fun h o _ k => ag_iand hd k) k
theorem wg_ior {a b : Int32} (hd : decode (ax_code (mgT L xs) mi) pc = .ok (.ior, 1)) (k : wp L xs d mi (pc + 1) (ls) (.int (a ||| b) :: st) s Q) : wp L xs d mi pc ls (.int b :: .int a :: st) s Q := wp_st (fun h o _ k => ag_ior hd k) k
theorem wg_ixor {a b : Int32} (hd : decode (ax_code (mgT L xs) mi) pc = .ok (.ixor, 1)) (k : wp L xs d mi (pc + 1) (ls) (.int (a ^^^ b) :: st) s Q) : wp L xs d mi pc ls (.int b :: .int a :: st) s Q := wp_st (fun h o _ k => ag_ixor hd k) k
theorem wg_ishl {a b : Int32} (hd : decode (ax_code (mgT L xs) mi) pc = .ok (.ishl, 1)) (k : wp L xs d mi (pc + 1) (ls) (.int (a <<< (b &&& 31)) :: st) s Q) : wp L xs d mi pc ls (.int b :: .int a :: st) s Q := wp_st (fun h o _ k => ag_ishl hd k) k
theorem wg_ishr {a b : Int32} (hd : decode (ax_code (mgT L xs) mi) pc = .ok (.ishr, 1)) (k : wp L xs d mi (pc + 1) (ls) (.int (a >>> (b &&& 31)) :: st) s Q) : wp L xs d mi pc ls (.int b :: .int a :: st) s Q := wp_st (fun h o _ k => ag_ishr hd k) k
theorem wg_iushr {a b : Int32} (hd : decode (ax_code (mgT L xs) mi) pc = .ok (.iushr, 1)) (k : wp L xs d mi (pc + 1) (ls) (.int ((a.toUInt32 >>> (b.toUInt32 &&& Int32.toUInt32 31)).toInt32) :: st) s Q) : wp L xs d mi pc ls (.int b :: .int a :: st) s Q := wp_st (fun h o _ k => ag_iushr hd k) k
theorem wg_idiv {a b : Int32} (hd : decode (ax_code (mgT L xs) mi) pc = .ok (.idiv, 1)) (hb : ¬ b = 0) (k : wp L xs d mi (pc + 1) (ls) (.int (a / b) :: st) s Q) : wp L xs d mi pc ls (.int b :: .int a :: st) s Q := wp_st (fun h o _ k => ag_idiv hd hb k) k
theorem wg_irem {a b : Int32} (hd : decode (ax_code (mgT L xs) mi) pc = .ok (.irem, 1)) (hb : ¬ b = 0) (k : wp L xs d mi (pc + 1) (ls) (.int (a - a / b * b) :: st) s Q) : wp L xs d mi pc ls (.int b :: .int a :: st) s Q := wp_st (fun h o _ k => ag_irem hd hb k) k
theorem wg_ladd {a b : Int64} (hd : decode (ax_code (mgT L xs) mi) pc = .ok (.ladd, 1)) (k : wp L xs d mi (pc + 1) (ls) (.long (a + b) :: st) s Q) : wp L xs d mi pc ls (.long b :: .long a :: st) s Q := wp_st (fun h o _ k => ag_ladd hd k) k
theorem wg_land {a b : Int64} (hd : decode (ax_code (mgT L xs) mi) pc = .ok (.land, 1)) (k : wp L xs d mi (pc + 1) (ls) (.long (a &&& b) :: st) s Q) : wp L xs d mi pc ls (.long b :: .long a :: st) s Q := wp_st (fun h o _ k => ag_land hd k) k
theorem wg_lor {a b : Int64} (hd : decode (ax_code (mgT L xs) mi) pc = .ok (.lor, 1)) (k : wp L xs d mi (pc + 1) (ls) (.long (a ||| b) :: st) s Q) : wp L xs d mi pc ls (.long b :: .long a :: st) s Q := wp_st (fun h o _ k => ag_lor hd k) k
theorem wg_lcmp {a b : Int64} (hd : decode (ax_code (mgT L xs) mi) pc = .ok (.lcmp, 1)) (k : wp L xs d mi (pc + 1) (ls) (.int (lg_cmp a b) :: st) s Q) : wp L xs d mi pc ls (.long b :: .long a :: st) s Q := wp_st (fun h o _ k => ag_lcmp hd k) k
theorem wg_lshl {a : Int64} {b : Int32} (hd : decode (ax_code (mgT L xs) mi) pc = .ok (.lshl, 1)) (k : wp L xs d mi (pc + 1) (ls) (.long (a <<< (b.toInt64 &&& 63)) :: st) s Q) : wp L xs d mi pc ls (.int b :: .long a :: st) s Q := wp_st (fun h o _ k => ag_lshl hd k) k
theorem wg_lshr {a : Int64} {b : Int32} (hd : decode (ax_code (mgT L xs) mi) pc = .ok (.lshr, 1)) (k : wp L xs d mi (pc + 1) (ls) (.long (a >>> (b.toInt64 &&& 63)) :: st) s Q) : wp L xs d mi pc ls (.int b :: .long a :: st) s Q := wp_st (fun h o _ k => ag_lshr hd k) k
theorem wg_lushr {a : Int64} {b : Int32} (hd : decode (ax_code (mgT L xs) mi) pc = .ok (.lushr, 1)) (k : wp L xs d mi (pc + 1) (ls) (.long ((a.toUInt64 >>> (b.toInt64.toUInt64 &&& Int64.toUInt64 63)).toInt64) :: st) s Q) : wp L xs d mi pc ls (.int b :: .long a :: st) s Q := wp_st (fun h o _ k => ag_lushr hd k) k
theorem wg_dup {a : Value} (hd : decode (ax_code (mgT L xs) mi) pc = .ok (.dup, 1)) (ha : a.category = 1) (k : wp L xs d mi (pc + 1) (ls) (a :: a :: st) s Q) : wp L xs d mi pc ls (a :: st) s Q := wp_st (fun h o _ k => ag_dup hd ha k) k
theorem wg_pop {a : Value} (hd : decode (ax_code (mgT L xs) mi) pc = .ok (.pop, 1)) (ha : a.category = 1) (k : wp L xs d mi (pc + 1) (ls) (st) s Q) : wp L xs d mi pc ls (a :: st) s Q := wp_st (fun h o _ k => ag_pop hd ha k) k
theorem wg_dup_x1 {a b : Value} (hd : decode (ax_code (mgT L xs) mi) pc = .ok (.dup_x1, 1)) (ha : a.category = 1) (hb : b.category = 1) (k : wp L xs d mi (pc + 1) (ls) (a :: b :: a :: st) s Q) : wp L xs d mi pc ls (a :: b :: st) s Q := wp_st (fun h o _ k => ag_dup_x1 hd ha hb k) k
theorem wg_dup2 {a b : Value} (hd : decode (ax_code (mgT L xs) mi) pc = .ok (.dup2, 1)) (ha : a.category = 1) (hb : b.category = 1) (k : wp L xs d mi (pc + 1) (ls) (a :: b :: a :: b :: st) s Q) : wp L xs d mi pc ls (a :: b :: st) s Q := wp_st (fun h o _ k => ag_dup2 hd ha hb k) k
theorem wg_ifnull {a : Nat} {off : Int} (hd : decode (ax_code (mgT L xs) mi) pc = .ok (.ifnull off, 3)) (k : wp L xs d mi (pc + 3) (ls) (st) s Q) : wp L xs d mi pc ls (.ref a :: st) s Q := wp_st (fun h o _ k => ag_ifnull hd k) k
theorem wg_ifnullN {off : Int} {t : Nat} (hd : decode (ax_code (mgT L xs) mi) pc = .ok (.ifnull off, 3)) (ht : ax_jmp pc off = some t) (k : wp L xs d mi (t) (ls) (st) s Q) : wp L xs d mi pc ls (.null :: st) s Q := wp_st (fun h o _ k => ag_ifnullN hd ht k) k
theorem wg_ifnonnull {a : Nat} {off : Int} {t : Nat} (hd : decode (ax_code (mgT L xs) mi) pc = .ok (.ifnonnull off, 3)) (ht : ax_jmp pc off = some t) (k : wp L xs d mi (t) (ls) (st) s Q) : wp L xs d mi pc ls (.ref a :: st) s Q := wp_st (fun h o _ k => ag_ifnonnull hd ht k) k
theorem wg_ifnonnullN {off : Int} (hd : decode (ax_code (mgT L xs) mi) pc = .ok (.ifnonnull off, 3)) (k : wp L xs d mi (pc + 3) (ls) (st) s Q) : wp L xs d mi pc ls (.null :: st) s Q := wp_st (fun h o _ k => ag_ifnonnullN hd k) k
theorem wg_if_eq {x : Int32} {off : Int} {t : Nat} (hd : decode (ax_code (mgT L xs) mi) pc = .ok (.ifCond .eq off, 3)) (ht : ax_jmp pc off = some t) (kt : x = 0 → wp L xs d mi t ls st s Q) (kf : ¬ (x = 0) → wp L xs d mi (pc + 3) ls st s Q) : wp L xs d mi pc ls (.int x :: st) s Q := by
  by_cases hc : x = 0
  · exact wp_st (fun h o _ k => ag_if_eq hd ht (fun _ => k) (fun q => absurd hc q)) (kt hc)
  · exact wp_st (fun h o _ k => ag_if_eq hd ht (fun q => absurd q hc) (fun _ => k)) (kf hc)
theorem wg_icmp_eq {x y : Int32} {off : Int} {t : Nat} (hd : decode (ax_code (mgT L xs) mi) pc = .ok (.if_icmp .eq off, 3)) (ht : ax_jmp pc off = some t) (kt : x = y → wp L xs d mi t ls st s Q) (kf : ¬ (x = y) → wp L xs d mi (pc + 3) ls st s Q) : wp L xs d mi pc ls (.int y :: .int x :: st) s Q := by
  by_cases hc : x = y
  · exact wp_st (fun h o _ k => ag_icmp_eq hd ht (fun _ => k) (fun q => absurd hc q)) (kt hc)
  · exact wp_st (fun h o _ k => ag_icmp_eq hd ht (fun q => absurd q hc) (fun _ => k)) (kf hc)
theorem wg_if_ne {x : Int32} {off : Int} {t : Nat} (hd : decode (ax_code (mgT L xs) mi) pc = .ok (.ifCond .ne off, 3)) (ht : ax_jmp pc off = some t) (kt : ¬ x = 0 → wp L xs d mi t ls st s Q) (kf : ¬ (¬ x = 0) → wp L xs d mi (pc + 3) ls st s Q) : wp L xs d mi pc ls (.int x :: st) s Q := by
  by_cases hc : ¬ x = 0
  · exact wp_st (fun h o _ k => ag_if_ne hd ht (fun _ => k) (fun q => absurd hc q)) (kt hc)
  · exact wp_st (fun h o _ k => ag_if_ne hd ht (fun q => absurd q hc) (fun _ => k)) (kf hc)
theorem wg_icmp_ne {x y : Int32} {off : Int} {t : Nat} (hd : decode (ax_code (mgT L xs) mi) pc = .ok (.if_icmp .ne off, 3)) (ht : ax_jmp pc off = some t) (kt : ¬ x = y → wp L xs d mi t ls st s Q) (kf : ¬ (¬ x = y) → wp L xs d mi (pc + 3) ls st s Q) : wp L xs d mi pc ls (.int y :: .int x :: st) s Q := by
  by_cases hc : ¬ x = y
  · exact wp_st (fun h o _ k => ag_icmp_ne hd ht (fun _ => k) (fun q => absurd hc q)) (kt hc)
  · exact wp_st (fun h o _ k => ag_icmp_ne hd ht (fun q => absurd q hc) (fun _ => k)) (kf hc)
theorem wg_if_lt {x : Int32} {off : Int} {t : Nat} (hd : decode (ax_code (mgT L xs) mi) pc = .ok (.ifCond .lt off, 3)) (ht : ax_jmp pc off = some t) (kt : x < 0 → wp L xs d mi t ls st s Q) (kf : ¬ (x < 0) → wp L xs d mi (pc + 3) ls st s Q) : wp L xs d mi pc ls (.int x :: st) s Q := by
  by_cases hc : x < 0
  · exact wp_st (fun h o _ k => ag_if_lt hd ht (fun _ => k) (fun q => absurd hc q)) (kt hc)
  · exact wp_st (fun h o _ k => ag_if_lt hd ht (fun q => absurd q hc) (fun _ => k)) (kf hc)
theorem wg_icmp_lt {x y : Int32} {off : Int} {t : Nat} (hd : decode (ax_code (mgT L xs) mi) pc = .ok (.if_icmp .lt off, 3)) (ht : ax_jmp pc off = some t) (kt : x < y → wp L xs d mi t ls st s Q) (kf : ¬ (x < y) → wp L xs d mi (pc + 3) ls st s Q) : wp L xs d mi pc ls (.int y :: .int x :: st) s Q := by
  by_cases hc : x < y
  · exact wp_st (fun h o _ k => ag_icmp_lt hd ht (fun _ => k) (fun q => absurd hc q)) (kt hc)
  · exact wp_st (fun h o _ k => ag_icmp_lt hd ht (fun q => absurd q hc) (fun _ => k)) (kf hc)
theorem wg_if_ge {x : Int32} {off : Int} {t : Nat} (hd : decode (ax_code (mgT L xs) mi) pc = .ok (.ifCond .ge off, 3)) (ht : ax_jmp pc off = some t) (kt : 0 ≤ x → wp L xs d mi t ls st s Q) (kf : ¬ (0 ≤ x) → wp L xs d mi (pc + 3) ls st s Q) : wp L xs d mi pc ls (.int x :: st) s Q := by
  by_cases hc : 0 ≤ x
  · exact wp_st (fun h o _ k => ag_if_ge hd ht (fun _ => k) (fun q => absurd hc q)) (kt hc)
  · exact wp_st (fun h o _ k => ag_if_ge hd ht (fun q => absurd q hc) (fun _ => k)) (kf hc)
theorem wg_icmp_ge {x y : Int32} {off : Int} {t : Nat} (hd : decode (ax_code (mgT L xs) mi) pc = .ok (.if_icmp .ge off, 3)) (ht : ax_jmp pc off = some t) (kt : y ≤ x → wp L xs d mi t ls st s Q) (kf : ¬ (y ≤ x) → wp L xs d mi (pc + 3) ls st s Q) : wp L xs d mi pc ls (.int y :: .int x :: st) s Q := by
  by_cases hc : y ≤ x
  · exact wp_st (fun h o _ k => ag_icmp_ge hd ht (fun _ => k) (fun q => absurd hc q)) (kt hc)
  · exact wp_st (fun h o _ k => ag_icmp_ge hd ht (fun q => absurd q hc) (fun _ => k)) (kf hc)
theorem wg_if_gt {x : Int32} {off : Int} {t : Nat} (hd : decode (ax_code (mgT L xs) mi) pc = .ok (.ifCond .gt off, 3)) (ht : ax_jmp pc off = some t) (kt : 0 < x → wp L xs d mi t ls st s Q) (kf : ¬ (0 < x) → wp L xs d mi (pc + 3) ls st s Q) : wp L xs d mi pc ls (.int x :: st) s Q := by
  by_cases hc : 0 < x
  · exact wp_st (fun h o _ k => ag_if_gt hd ht (fun _ => k) (fun q => absurd hc q)) (kt hc)
  · exact wp_st (fun h o _ k => ag_if_gt hd ht (fun q => absurd q hc) (fun _ => k)) (kf hc)
theorem wg_icmp_gt {x y : Int32} {off : Int} {t : Nat} (hd : decode (ax_code (mgT L xs) mi) pc = .ok (.if_icmp .gt off, 3)) (ht : ax_jmp pc off = some t) (kt : y < x → wp L xs d mi t ls st s Q) (kf : ¬ (y < x) → wp L xs d mi (pc + 3) ls st s Q) : wp L xs d mi pc ls (.int y :: .int x :: st) s Q := by
  by_cases hc : y < x
  · exact wp_st (fun h o _ k => ag_icmp_gt hd ht (fun _ => k) (fun q => absurd hc q)) (kt hc)
  · exact wp_st (fun h o _ k => ag_icmp_gt hd ht (fun q => absurd q hc) (fun _ => k)) (kf hc)
theorem wg_if_le {x : Int32} {off : Int} {t : Nat} (hd : decode (ax_code (mgT L xs) mi) pc = .ok (.ifCond .le off, 3)) (ht : ax_jmp pc off = some t) (kt : x ≤ 0 → wp L xs d mi t ls st s Q) (kf : ¬ (x ≤ 0) → wp L xs d mi (pc + 3) ls st s Q) : wp L xs d mi pc ls (.int x :: st) s Q := by
  by_cases hc : x ≤ 0
  · exact wp_st (fun h o _ k => ag_if_le hd ht (fun _ => k) (fun q => absurd hc q)) (kt hc)
  · exact wp_st (fun h o _ k => ag_if_le hd ht (fun q => absurd q hc) (fun _ => k)) (kf hc)
theorem wg_icmp_le {x y : Int32} {off : Int} {t : Nat} (hd : decode (ax_code (mgT L xs) mi) pc = .ok (.if_icmp .le off, 3)) (ht : ax_jmp pc off = some t) (kt : x ≤ y → wp L xs d mi t ls st s Q) (kf : ¬ (x ≤ y) → wp L xs d mi (pc + 3) ls st s Q) : wp L xs d mi pc ls (.int y :: .int x :: st) s Q := by
  by_cases hc : x ≤ y
  · exact wp_st (fun h o _ k => ag_icmp_le hd ht (fun _ => k) (fun q => absurd hc q)) (kt hc)
  · exact wp_st (fun h o _ k => ag_icmp_le hd ht (fun q => absurd q hc) (fun _ => k)) (kf hc)
theorem wg_sald {j x : Int32} (hd : decode (ax_code (mgT L xs) mi) pc = .ok (.iaload, 1)) (hj : vp_in j L) (hx : xs j.toNatClampNeg = x) (k : wp L xs d mi (pc + 1) ls (.int x :: st) s Q) : wp L xs d mi pc ls (.int j :: .ref ax_big :: st) s Q := wp_st (fun h o _ k => ag_sald rfl hd hj hx k) k
theorem wg_slen (hd : decode (ax_code (mgT L xs) mi) pc = .ok (.arraylength, 1)) (k : wp L xs d mi (pc + 1) ls (.int (Int32.ofNat L) :: st) s Q) : wp L xs d mi pc ls (.ref ax_big :: st) s Q := wp_st (fun h o _ k => ag_slen rfl hd k) k
theorem wg_ldc2 {idx v x3 : Nat} (hd : decode (ax_code (mgT L xs) mi) pc = .ok (.ldc2_w idx, 3)) (hpl : ax_pl (mgT L xs) mi idx = (11, v, x3)) (k : wp L xs d mi (pc + 3) ls (.long (Int64.ofNat v) :: st) s Q) : wp L xs d mi pc ls st s Q := wp_st (fun h o _ k => ag_ldc2 hd hpl k) k
theorem wg_oini {idx a x2 x3 : Nat} (hd : decode (ax_code (mgT L xs) mi) pc = .ok (.invokespecial idx, 3)) (hpl : ax_pl (mgT L xs) mi idx = (9, x2, x3)) (hr : (st.map (fun v => v.category)).sum ≤ 8) (k : wp L xs d mi (pc + 3) ls st s Q) : wp L xs d mi pc ls (.ref a :: st) s Q := wp_st (fun h o _ k => ag_oini hd hpl hr k) k
theorem wg_top {x y : Int32} (e : x = y) (k : wp L xs d mi pc ls (.int y :: st) s Q) : wp L xs d mi pc ls (.int x :: st) s Q := wp_st (fun h o _ k => ag_top e k) k
theorem wg_ref {a b : Nat} (e : a = b) (k : wp L xs d mi pc ls (.ref b :: st) s Q) : wp L xs d mi pc ls (.ref a :: st) s Q := wp_st (fun h o _ k => ag_ref e k) k
theorem wg_tswIn {x : Int32} {dflt lo hi of : Int} {offs : Array Int} {len t : Nat} (hd : decode (ax_code (mgT L xs) mi) pc = .ok (.tableswitch dflt lo hi offs, len)) (h1 : ¬ (x.toInt < lo ∨ hi < x.toInt)) (ho : offs[(x.toInt - lo).toNat]? = some of) (ht : ax_jmp pc of = some t) (k : wp L xs d mi t ls st s Q) : wp L xs d mi pc ls (.int x :: st) s Q := wp_st (fun h o _ k => ag_tswIn hd h1 ho ht k) k
theorem wg_tswOut {x : Int32} {dflt lo hi : Int} {offs : Array Int} {len t : Nat} (hd : decode (ax_code (mgT L xs) mi) pc = .ok (.tableswitch dflt lo hi offs, len)) (h1 : x.toInt < lo ∨ hi < x.toInt) (ht : ax_jmp pc dflt = some t) (k : wp L xs d mi t ls st s Q) : wp L xs d mi pc ls (.int x :: st) s Q := wp_st (fun h o _ k => ag_tswOut hd h1 ht k) k
theorem wg_get {idx a cj k0 kd : Nat} {fs : List Value} {v : Value} (hd : decode (ax_code (mgT L xs) mi) pc = .ok (.getfield idx, 3)) (hpl : ax_pl (mgT L xs) mi idx = (kd, cj, k0)) (hkd : kd = 1 ∨ kd = 2) (hl : a < 167) (ha : mg_c s a = .inr (cj, fs)) (hv : fs[k0]? = some v) (k : wp L xs d mi (pc + 3) ls (v :: st) s Q) : wp L xs d mi pc ls (.ref a :: st) s Q :=
  wp_st (fun h o S k => ag_get hd hpl hkd (by rw [S.1 a hl, ha]) hv k) k
theorem wg_puti {idx a cj k0 : Nat} {fs : List Value} {x : Int32} (hd : decode (ax_code (mgT L xs) mi) pc = .ok (.putfield idx, 3)) (hpl : ax_pl (mgT L xs) mi idx = (1, cj, k0)) (hl : a < 167) (ha : mg_c s a = .inr (cj, fs)) (hk : k0 < fs.length) (ht : ax_fty (mgT L xs) cj k0 = .int) (hn : ax_fin (mgT L xs) mi cj k0 = true) (hc : mg_c (mg_I s a k0 x) a = .inr (cj, fs.set k0 (.int x))) (k : wp L xs d mi (pc + 3) ls st (mg_I s a k0 x) Q) : wp L xs d mi pc ls (.int x :: .ref a :: st) s Q :=
  wp_up (fun h o S k => ag_put hd hpl (by rw [S.1 a hl, ha]) (Nat.lt_of_lt_of_le hl S.2.1) hk (ax_fi ht x) hn k) hc mg_I_ne (fun q => q) k
theorem wg_alen {a t n : Nat} {y : (Nat → Int32) ⊕ (Nat → Int64) ⊕ (Nat → UInt32) ⊕ (Nat → UInt64) ⊕ (Nat → Option Nat)} (hd : decode (ax_code (mgT L xs) mi) pc = .ok (.arraylength, 1)) (hl : a < 167) (ha : mg_c s a = .inl (t, n, y)) (ht : t < 5) (k : wp L xs d mi (pc + 1) ls (.int (nI n) :: st) s Q) : wp L xs d mi pc ls (.ref a :: st) s Q :=
  wp_st (fun h o S k => ag_alen hd ((S.1 a hl).trans (congrArg some ha)) (by have : ax_big = 1048576 := rfl; omega) ht k) k
theorem wg_iald {a n : Nat} {f : Nat → Int32} {j : Int32} (hd : decode (ax_code (mgT L xs) mi) pc = .ok (.iaload, 1)) (hl : a < 167) (ha : mg_c s a = .inl (0, n, .inl f)) (hj : vp_in j n) (k : wp L xs d mi (pc + 1) ls (.int (f j.toNatClampNeg) :: st) s Q) : wp L xs d mi pc ls (.int j :: .ref a :: st) s Q :=
  wp_st (fun h o S k => ag_iald hd ((S.1 a hl).trans (congrArg some ha)) (by have : ax_big = 1048576 := rfl; omega) rfl hj rfl k) k
theorem wg_cald {a n : Nat} {f : Nat → Int32} {j : Int32} (hd : decode (ax_code (mgT L xs) mi) pc = .ok (.caload, 1)) (hl : a < 167) (ha : mg_c s a = .inl (1, n, .inl f)) (hj : vp_in j n) (k : wp L xs d mi (pc + 1) ls (.int (f j.toNatClampNeg) :: st) s Q) : wp L xs d mi pc ls (.int j :: .ref a :: st) s Q :=
  wp_st (fun h o S k => ag_cald hd ((S.1 a hl).trans (congrArg some ha)) (by have : ax_big = 1048576 := rfl; omega) rfl hj rfl k) k
theorem wg_iast {a n : Nat} {f : Nat → Int32} {j x : Int32} (hd : decode (ax_code (mgT L xs) mi) pc = .ok (.iastore, 1)) (hl : a < 167) (ha : mg_c s a = .inl (0, n, .inl f)) (hj : vp_in j n) (hc : mg_c (mg_A s a j.toNatClampNeg x) a = .inl (0, n, .inl (upd f j.toNatClampNeg x))) (k : wp L xs d mi (pc + 1) ls st (mg_A s a j.toNatClampNeg x) Q) : wp L xs d mi pc ls (.int x :: .int j :: .ref a :: st) s Q :=
  wp_up (fun h o S k => ag_iast hd ((S.1 a hl).trans (congrArg some ha)) (Nat.lt_of_lt_of_le hl S.2.1) rfl hj k) hc mg_A_ne (mg_ch_i ha) k
theorem wg_cast {a n : Nat} {f : Nat → Int32} {j x : Int32} (hd : decode (ax_code (mgT L xs) mi) pc = .ok (.castore, 1)) (hl : a < 167) (ha : mg_c s a = .inl (1, n, .inl f)) (hj : vp_in j n) (hc : mg_c (mg_A s a j.toNatClampNeg (vp_nar .char x)) a = .inl (1, n, .inl (upd f j.toNatClampNeg (vp_nar .char x)))) (k : wp L xs d mi (pc + 1) ls st (mg_A s a j.toNatClampNeg (vp_nar .char x)) Q) : wp L xs d mi pc ls (.int x :: .int j :: .ref a :: st) s Q :=
  wp_up (fun h o S k => ag_cast hd ((S.1 a hl).trans (congrArg some ha)) (Nat.lt_of_lt_of_le hl S.2.1) rfl hj k) hc mg_A_ne mg_ch_c k
theorem wg_aald {a t n : Nat} {f : Nat → Option Nat} {C : String} {j : Int32} {v : Value} (hd : decode (ax_code (mgT L xs) mi) pc = .ok (.aaload, 1)) (hl : a < 167) (ha : mg_c s a = .inl (t, n, .inr (.inr (.inr (.inr f))))) (ht : (ax_ty (mgT L xs))[t]? = some (.object C)) (hj : vp_in j n) (hx : va_rf (f j.toNatClampNeg) = v) (k : wp L xs d mi (pc + 1) ls (v :: st) s Q) : wp L xs d mi pc ls (.int j :: .ref a :: st) s Q :=
  wp_st (fun h o S k => ag_aald hd ((S.1 a hl).trans (congrArg some ha)) (by have : ax_big = 1048576 := rfl; omega) ht hj hx k) k
theorem wg_vret (hd : decode (ax_code (mgT L xs) mi) pc = .ok (.return_, 1)) (hr : ax_rt (mgT L xs) mi = none) (q : Q none s) : wp L xs d mi pc ls [] s Q := fun h S => ⟨none, s, h, ag_vret hd hr, S, rfl, rfl, q⟩
theorem wg_iret {x : Int32} {ty : FieldType} (hd : decode (ax_code (mgT L xs) mi) pc = .ok (.ireturn, 1)) (hr : ax_rt (mgT L xs) mi = some ty) (hn : narrow ty (.int x) = .int x) (q : Q (some (.int x)) s) : wp L xs d mi pc ls [.int x] s Q := fun h S => ⟨_, s, h, ag_iret hd hr hn, S, rfl, rfl, q⟩
theorem wg_lret {x : Int64} (hd : decode (ax_code (mgT L xs) mi) pc = .ok (.lreturn, 1)) (hr : ax_rt (mgT L xs) mi = some .long) (q : Q (some (.long x)) s) : wp L xs d mi pc ls [.long x] s Q := fun h S => ⟨_, s, h, ag_lret hd hr, S, rfl, rfl, q⟩
theorem wg_aret {x : Nat} {C : String} (hd : decode (ax_code (mgT L xs) mi) pc = .ok (.areturn, 1)) (hr : ax_rt (mgT L xs) mi = some (.object C)) (q : Q (some (.ref x)) s) : wp L xs d mi pc ls [.ref x] s Q := fun h S => ⟨_, s, h, ag_aret hd hr, S, rfl, rfl, q⟩
theorem wg_aretN {C : String} (hd : decode (ax_code (mgT L xs) mi) pc = .ok (.areturn, 1)) (hr : ax_rt (mgT L xs) mi = some (.object C)) (q : Q (some .null) s) : wp L xs d mi pc ls [.null] s Q := fun h S => ⟨_, s, h, ag_aretN hd hr, S, rfl, rfl, q⟩
theorem wg_call {av : List Value} (hl : (ax_sl av).length ≤ ax_mx (mgT L xs) mi) (k : wp L xs d mi 0 (ax_entry (mgT L xs) mi av) [] s Q) : ca L xs (d + 1) mi av s Q := by
  intro h S
  obtain ⟨v, s', h', g, q⟩ := k h S
  exact ⟨v, s', h', ag_call hl g, q⟩
theorem wg_invs {idx mj n kd : Nat} {st0 ys r : List Value} {Qc : Option Value → mg_s → Prop} (hd : decode (ax_code (mgT L xs) mi) pc = .ok (.invokestatic idx, 3)) (hpl : ax_pl (mgT L xs) mi idx = (kd, mj, n)) (hkd : kd = 6 ∨ kd = 16 ∨ kd = 26) (hst : st0 = ys ++ r) (hn : ys.length = n) (hr : (r.map (fun v => v.category)).sum ≤ 8) (hc : ca L xs d mj ys.reverse s Qc) (k : ∀ v s', Qc v s' → wp L xs d mi (pc + 3) ls (v.toList ++ r) s' Q) : wp L xs d mi pc ls st0 s Q := by
  intro h S
  obtain ⟨v, s1, h1, g1, S1, e1, e2, q1⟩ := hc h S
  obtain ⟨w, s2, h2, g2, S2, f1, f2, q2⟩ := k v s1 q1 h1 S1
  exact ⟨w, s2, h2, ag_invs hd hpl hkd hst hn hr g1 g2, S2, f1.trans e1, f2.trans e2, q2⟩
theorem wg_invv {idx mj n kd a ci : Nat} {st0 ys r fs : List Value} {Qc : Option Value → mg_s → Prop} (hd : decode (ax_code (mgT L xs) mi) pc = .ok (.invokevirtual idx, 3)) (hpl : ax_pl (mgT L xs) mi idx = (kd, mj, n)) (hkd : kd = 7 ∨ kd = 17) (hst : st0 = ys ++ .ref a :: r) (hn : ys.length = n) (hl : a < 167) (ha : mg_c s a = .inr (ci, fs)) (hC : ((ax_cl (mgT L xs))[ci]?).map (fun q => q.1) = some (ax_nm (mgT L xs) mj).cls) (hr : (r.map (fun v => v.category)).sum ≤ 8) (hc : ca L xs d mj (.ref a :: ys.reverse) s Qc) (k : ∀ v s', Qc v s' → wp L xs d mi (pc + 3) ls (v.toList ++ r) s' Q) : wp L xs d mi pc ls st0 s Q := by
  intro h S
  obtain ⟨v, s1, h1, g1, S1, e1, e2, q1⟩ := hc h S
  obtain ⟨w, s2, h2, g2, S2, f1, f2, q2⟩ := k v s1 q1 h1 S1
  exact ⟨w, s2, h2, ag_invv hd hpl hkd hst hn ((S.1 a hl).trans (congrArg some ha)) hC hr g1 g2, S2, f1.trans e1, f2.trans e2, q2⟩
end WP
