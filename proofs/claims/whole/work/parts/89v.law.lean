/-! runs that may make an exception each call: the law itself -/
theorem d1_7 (L : Nat) (xs : Nat → Int32) : decode (ax_code (mgT L xs) 1) 7 = .ok (.i2l, 1) := by
  show decode method_3_code 7 = _
  decide +kernel
theorem d1_8 (L : Nat) (xs : Nat → Int32) : decode (ax_code (mgT L xs) 1) 8 = .ok (.lastore, 1) := by
  show decode method_3_code 8 = _
  decide +kernel
theorem d1_9 (L : Nat) (xs : Nat → Int32) : decode (ax_code (mgT L xs) 1) 9 = .ok (.goto 9, 3) := by
  show decode method_3_code 9 = _
  decide +kernel
theorem d1_15 (L : Nat) (xs : Nat → Int32) : decode (ax_code (mgT L xs) 1) 15 = .ok (.astore_n 3, 1) := by
  show decode method_3_code 15 = _
  decide +kernel
theorem d1_16 (L : Nat) (xs : Nat → Int32) : decode (ax_code (mgT L xs) 1) 16 = .ok (.iconst 2, 1) := by
  show decode method_3_code 16 = _
  decide +kernel
theorem d1_17 (L : Nat) (xs : Nat → Int32) : decode (ax_code (mgT L xs) 1) 17 = .ok (.ireturn, 1) := by
  show decode method_3_code 17 = _
  decide +kernel
theorem d1_18 (L : Nat) (xs : Nat → Int32) : decode (ax_code (mgT L xs) 1) 18 = .ok (.iconst 0, 1) := by
  show decode method_3_code 18 = _
  decide +kernel
theorem d1_19 (L : Nat) (xs : Nat → Int32) : decode (ax_code (mgT L xs) 1) 19 = .ok (.ireturn, 1) := by
  show decode method_3_code 19 = _
  decide +kernel
theorem d2_7 (L : Nat) (xs : Nat → Int32) : decode (ax_code (mgT L xs) 2) 7 = .ok (.i2l, 1) := by
  show decode method_4_code 7 = _
  decide +kernel
theorem d2_8 (L : Nat) (xs : Nat → Int32) : decode (ax_code (mgT L xs) 2) 8 = .ok (.lastore, 1) := by
  show decode method_4_code 8 = _
  decide +kernel
theorem d2_9 (L : Nat) (xs : Nat → Int32) : decode (ax_code (mgT L xs) 2) 9 = .ok (.goto 6, 3) := by
  show decode method_4_code 9 = _
  decide +kernel
theorem d2_15 (L : Nat) (xs : Nat → Int32) : decode (ax_code (mgT L xs) 2) 15 = .ok (.iconst 0, 1) := by
  show decode method_4_code 15 = _
  decide +kernel
theorem d2_16 (L : Nat) (xs : Nat → Int32) : decode (ax_code (mgT L xs) 2) 16 = .ok (.ireturn, 1) := by
  show decode method_4_code 16 = _
  decide +kernel
theorem d3_7 (L : Nat) (xs : Nat → Int32) : decode (ax_code (mgT L xs) 3) 7 = .ok (.i2l, 1) := by
  show decode method_5_code 7 = _
  decide +kernel
theorem d3_8 (L : Nat) (xs : Nat → Int32) : decode (ax_code (mgT L xs) 3) 8 = .ok (.lastore, 1) := by
  show decode method_5_code 8 = _
  decide +kernel
theorem d3_9 (L : Nat) (xs : Nat → Int32) : decode (ax_code (mgT L xs) 3) 9 = .ok (.goto 9, 3) := by
  show decode method_5_code 9 = _
  decide +kernel
theorem d3_15 (L : Nat) (xs : Nat → Int32) : decode (ax_code (mgT L xs) 3) 15 = .ok (.astore_n 3, 1) := by
  show decode method_5_code 15 = _
  decide +kernel
theorem d3_16 (L : Nat) (xs : Nat → Int32) : decode (ax_code (mgT L xs) 3) 16 = .ok (.iconst 2, 1) := by
  show decode method_5_code 16 = _
  decide +kernel
theorem d3_17 (L : Nat) (xs : Nat → Int32) : decode (ax_code (mgT L xs) 3) 17 = .ok (.ireturn, 1) := by
  show decode method_5_code 17 = _
  decide +kernel
theorem d3_18 (L : Nat) (xs : Nat → Int32) : decode (ax_code (mgT L xs) 3) 18 = .ok (.iconst 0, 1) := by
  show decode method_5_code 18 = _
  decide +kernel
theorem d3_19 (L : Nat) (xs : Nat → Int32) : decode (ax_code (mgT L xs) 3) 19 = .ok (.ireturn, 1) := by
  show decode method_5_code 19 = _
  decide +kernel
def wq (n0 L : Nat) (xs : Nat → Int32) (d mi pc : Nat) (ls : ax_L) (st : List Value) (s : mg_s) (Q : Option Value → mg_s → Prop) : Prop := ∀ h, mg_S h s → h.2.1 + n0 < ax_big → ∃ v s' h', ax_Go (mgT L xs) d mi pc ls st h (.inl v, h') ∧ mg_S h' s' ∧ h'.2.1 ≤ h.2.1 + n0 ∧ h'.2.2.1 ≤ h.2.2.1 + 6 * n0 ∧ Q v s'
def cq (L : Nat) (xs : Nat → Int32) (d mj : Nat) (av : List Value) (s : mg_s) (Q : Option Value → mg_s → Prop) : Prop := ∀ h, mg_S h s → h.2.1 < ax_big → ∃ v s' h', ax_Ca (mgT L xs) d mj av h (.inl v, h') ∧ mg_S h' s' ∧ h'.2.1 ≤ h.2.1 + 1 ∧ h'.2.2.1 ≤ h.2.2.1 + 6 ∧ Q v s'
section WQ
variable {n0 L : Nat} {xs : Nat → Int32} {d mi pc : Nat} {ls : ax_L} {st : List Value} {s : mg_s} {Q : Option Value → mg_s → Prop}
theorem wq_st {pc' : Nat} {ls' : ax_L} {st' : List Value} (hs : ∀ h o, mg_S h s → ax_Go (mgT L xs) d mi pc' ls' st' h o → ax_Go (mgT L xs) d mi pc ls st h o) (k : wq n0 L xs d mi pc' ls' st' s Q) : wq n0 L xs d mi pc ls st s Q := by
  intro h S hb
  obtain ⟨v, s', h', g, q⟩ := k h S hb
  exact ⟨v, s', h', hs h _ S g, q⟩
theorem wq_iload {n : Nat} {x : Int32} (hd : decode (ax_code (mgT L xs) mi) pc = .ok (.iload n, 2)) (hx : ax_ld ls n = some (.int x)) (k : wq n0 L xs d mi (pc + 2) (ls) (.int x :: st) s Q) : wq n0 L xs d mi pc ls (st) s Q := wq_st (fun h o _ k => ag_iload hd hx k) k
theorem wq_aload_n {n : Fin 4} {x : Nat} (hd : decode (ax_code (mgT L xs) mi) pc = .ok (.aload_n n, 1)) (hx : ax_ld ls n = some (.ref x)) (k : wq n0 L xs d mi (pc + 1) (ls) (.ref x :: st) s Q) : wq n0 L xs d mi pc ls (st) s Q := wq_st (fun h o _ k => ag_aload_n hd hx k) k
theorem wq_iconst {n : Int} {x : Int32} (hd : decode (ax_code (mgT L xs) mi) pc = .ok (.iconst n, 1)) (hx : Int32.ofInt n = x) (k : wq n0 L xs d mi (pc + 1) (ls) (.int x :: st) s Q) : wq n0 L xs d mi pc ls (st) s Q := wq_st (fun h o _ k => ag_iconst hd hx k) k
theorem wq_bipush {n : Int} {x : Int32} (hd : decode (ax_code (mgT L xs) mi) pc = .ok (.bipush n, 2)) (hx : (Int8.ofInt n).toInt32 = x) (k : wq n0 L xs d mi (pc + 2) (ls) (.int x :: st) s Q) : wq n0 L xs d mi pc ls (st) s Q := wq_st (fun h o _ k => ag_bipush hd hx k) k
theorem wq_isub {a b : Int32} (hd : decode (ax_code (mgT L xs) mi) pc = .ok (.isub, 1)) (k : wq n0 L xs d mi (pc + 1) (ls) (.int (a - b) :: st) s Q) : wq n0 L xs d mi pc ls (.int b :: .int a :: st) s Q := wq_st (fun h o _ k => ag_isub hd k) k
theorem wq_iadd {a b : Int32} (hd : decode (ax_code (mgT L xs) mi) pc = .ok (.iadd, 1)) (k : wq n0 L xs d mi (pc + 1) (ls) (.int (a + b) :: st) s Q) : wq n0 L xs d mi pc ls (.int b :: .int a :: st) s Q := wq_st (fun h o _ k => ag_iadd hd k) k
theorem wq_iand {a b : Int32} (hd : decode (ax_code (mgT L xs) mi) pc = .ok (.iand, 1)) (k : wq n0 L xs d mi (pc + 1) (ls) (.int (a &&& b) :: st) s Q) : wq n0 L xs d mi pc ls (.int b :: .int a :: st) s Q := wq_st (fun h o _ k => ag_iand hd k) k
theorem wq_i2l {x : Int32} (hd : decode (ax_code (mgT L xs) mi) pc = .ok (.i2l, 1)) (k : wq n0 L xs d mi (pc + 1) (ls) (.long x.toInt64 :: st) s Q) : wq n0 L xs d mi pc ls (.int x :: st) s Q := wq_st (fun h o _ k => ag_i2l hd k) k
theorem wq_lshl {a : Int64} {b : Int32} (hd : decode (ax_code (mgT L xs) mi) pc = .ok (.lshl, 1)) (k : wq n0 L xs d mi (pc + 1) (ls) (.long (a <<< (b.toInt64 &&& 63)) :: st) s Q) : wq n0 L xs d mi pc ls (.int b :: .long a :: st) s Q := wq_st (fun h o _ k => ag_lshl hd k) k
theorem wq_ldc2 {idx v x3 : Nat} (hd : decode (ax_code (mgT L xs) mi) pc = .ok (.ldc2_w idx, 3)) (hpl : ax_pl (mgT L xs) mi idx = (11, v, x3)) (k : wq n0 L xs d mi (pc + 3) ls (.long (Int64.ofNat v) :: st) s Q) : wq n0 L xs d mi pc ls st s Q := wq_st (fun h o _ k => ag_ldc2 hd hpl k) k
theorem wq_land {a b : Int64} (hd : decode (ax_code (mgT L xs) mi) pc = .ok (.land, 1)) (k : wq n0 L xs d mi (pc + 1) (ls) (.long (a &&& b) :: st) s Q) : wq n0 L xs d mi pc ls (.long b :: .long a :: st) s Q := wq_st (fun h o _ k => ag_land hd k) k
theorem wq_lor {a b : Int64} (hd : decode (ax_code (mgT L xs) mi) pc = .ok (.lor, 1)) (k : wq n0 L xs d mi (pc + 1) (ls) (.long (a ||| b) :: st) s Q) : wq n0 L xs d mi pc ls (.long b :: .long a :: st) s Q := wq_st (fun h o _ k => ag_lor hd k) k
theorem wq_lcmp {a b : Int64} (hd : decode (ax_code (mgT L xs) mi) pc = .ok (.lcmp, 1)) (k : wq n0 L xs d mi (pc + 1) (ls) (.int (lg_cmp a b) :: st) s Q) : wq n0 L xs d mi pc ls (.long b :: .long a :: st) s Q := wq_st (fun h o _ k => ag_lcmp hd k) k
theorem wq_icmp_gt {x y : Int32} {off : Int} {t : Nat} (hd : decode (ax_code (mgT L xs) mi) pc = .ok (.if_icmp .gt off, 3)) (ht : ax_jmp pc off = some t) (kt : y < x → wq n0 L xs d mi t ls st s Q) (kf : ¬ (y < x) → wq n0 L xs d mi (pc + 3) ls st s Q) : wq n0 L xs d mi pc ls (.int y :: .int x :: st) s Q := by
  by_cases hc : y < x
  · exact wq_st (fun h o _ k => ag_icmp_gt hd ht (fun _ => k) (fun q => absurd hc q)) (kt hc)
  · exact wq_st (fun h o _ k => ag_icmp_gt hd ht (fun q => absurd q hc) (fun _ => k)) (kf hc)
theorem wq_icmp_eq {x y : Int32} {off : Int} {t : Nat} (hd : decode (ax_code (mgT L xs) mi) pc = .ok (.if_icmp .eq off, 3)) (ht : ax_jmp pc off = some t) (kt : x = y → wq n0 L xs d mi t ls st s Q) (kf : ¬ (x = y) → wq n0 L xs d mi (pc + 3) ls st s Q) : wq n0 L xs d mi pc ls (.int y :: .int x :: st) s Q := by
  by_cases hc : x = y
  · exact wq_st (fun h o _ k => ag_icmp_eq hd ht (fun _ => k) (fun q => absurd hc q)) (kt hc)
  · exact wq_st (fun h o _ k => ag_icmp_eq hd ht (fun q => absurd q hc) (fun _ => k)) (kf hc)
theorem wq_if_ne {x : Int32} {off : Int} {t : Nat} (hd : decode (ax_code (mgT L xs) mi) pc = .ok (.ifCond .ne off, 3)) (ht : ax_jmp pc off = some t) (kt : ¬ x = 0 → wq n0 L xs d mi t ls st s Q) (kf : ¬ (¬ x = 0) → wq n0 L xs d mi (pc + 3) ls st s Q) : wq n0 L xs d mi pc ls (.int x :: st) s Q := by
  by_cases hc : ¬ x = 0
  · exact wq_st (fun h o _ k => ag_if_ne hd ht (fun _ => k) (fun q => absurd hc q)) (kt hc)
  · exact wq_st (fun h o _ k => ag_if_ne hd ht (fun q => absurd q hc) (fun _ => k)) (kf hc)
theorem wq_if_eq {x : Int32} {off : Int} {t : Nat} (hd : decode (ax_code (mgT L xs) mi) pc = .ok (.ifCond .eq off, 3)) (ht : ax_jmp pc off = some t) (kt : x = 0 → wq n0 L xs d mi t ls st s Q) (kf : ¬ (x = 0) → wq n0 L xs d mi (pc + 3) ls st s Q) : wq n0 L xs d mi pc ls (.int x :: st) s Q := by
  by_cases hc : x = 0
  · exact wq_st (fun h o _ k => ag_if_eq hd ht (fun _ => k) (fun q => absurd hc q)) (kt hc)
  · exact wq_st (fun h o _ k => ag_if_eq hd ht (fun q => absurd q hc) (fun _ => k)) (kf hc)
theorem wq_tswIn {x : Int32} {dflt lo hi of : Int} {offs : Array Int} {len t : Nat} (hd : decode (ax_code (mgT L xs) mi) pc = .ok (.tableswitch dflt lo hi offs, len)) (h1 : ¬ (x.toInt < lo ∨ hi < x.toInt)) (ho : offs[(x.toInt - lo).toNat]? = some of) (ht : ax_jmp pc of = some t) (k : wq n0 L xs d mi t ls st s Q) : wq n0 L xs d mi pc ls (.int x :: st) s Q := wq_st (fun h o _ k => ag_tswIn hd h1 ho ht k) k
theorem wq_tswOut {x : Int32} {dflt lo hi : Int} {offs : Array Int} {len t : Nat} (hd : decode (ax_code (mgT L xs) mi) pc = .ok (.tableswitch dflt lo hi offs, len)) (h1 : x.toInt < lo ∨ hi < x.toInt) (ht : ax_jmp pc dflt = some t) (k : wq n0 L xs d mi t ls st s Q) : wq n0 L xs d mi pc ls (.int x :: st) s Q := wq_st (fun h o _ k => ag_tswOut hd h1 ht k) k
theorem wq_goto {off : Int} {t : Nat} (hd : decode (ax_code (mgT L xs) mi) pc = .ok (.goto off, 3)) (ht : ax_jmp pc off = some t) (k : wq n0 L xs d mi (t) (ls) (st) s Q) : wq n0 L xs d mi pc ls (st) s Q := wq_st (fun h o _ k => ag_goto hd ht k) k
theorem wq_istore {n : Nat} {x : Int32} {ls' : ax_L} (hd : decode (ax_code (mgT L xs) mi) pc = .ok (.istore n, 2)) (hn : n < ls.length) (hx : ax_set ls n (.int x) = ls') (k : wq n0 L xs d mi (pc + 2) (ls') (st) s Q) : wq n0 L xs d mi pc ls (.int x :: st) s Q := wq_st (fun h o _ k => ag_istore hd hn hx k) k
theorem wq_iinc {n : Nat} {k0 : Int} {x y : Int32} {ls' : ax_L} (hd : decode (ax_code (mgT L xs) mi) pc = .ok (.iinc n k0, 3)) (hx : ax_ld ls n = some (.int x)) (hy : x + Int32.ofInt k0 = y) (hl : ax_set ls n (.int y) = ls') (k : wq n0 L xs d mi (pc + 3) (ls') (st) s Q) : wq n0 L xs d mi pc ls (st) s Q := wq_st (fun h o _ k => ag_iinc hd hx hy hl k) k
theorem wq_sald {j x : Int32} (hd : decode (ax_code (mgT L xs) mi) pc = .ok (.iaload, 1)) (hj : vp_in j L) (hx : xs j.toNatClampNeg = x) (k : wq n0 L xs d mi (pc + 1) ls (.int x :: st) s Q) : wq n0 L xs d mi pc ls (.int j :: .ref ax_big :: st) s Q := wq_st (fun h o _ k => ag_sald rfl hd hj hx k) k
theorem wq_slen (hd : decode (ax_code (mgT L xs) mi) pc = .ok (.arraylength, 1)) (k : wq n0 L xs d mi (pc + 1) ls (.int (Int32.ofNat L) :: st) s Q) : wq n0 L xs d mi pc ls (.ref ax_big :: st) s Q := wq_st (fun h o _ k => ag_slen rfl hd k) k
theorem wq_top {x y : Int32} (e : x = y) (k : wq n0 L xs d mi pc ls (.int y :: st) s Q) : wq n0 L xs d mi pc ls (.int x :: st) s Q := wq_st (fun h o _ k => ag_top e k) k
theorem wq_iret {x : Int32} {ty : FieldType} (hd : decode (ax_code (mgT L xs) mi) pc = .ok (.ireturn, 1)) (hr : ax_rt (mgT L xs) mi = some ty) (hn : narrow ty (.int x) = .int x) (q : Q (some (.int x)) s) : wq n0 L xs d mi pc ls [.int x] s Q := fun h S _ => ⟨_, s, h, ag_iret hd hr hn, S, Nat.le_add_right _ _, Nat.le_add_right _ _, q⟩
theorem wq_invv {idx mj n kd a ci : Nat} {st0 ys r fs : List Value} {Qc : Option Value → mg_s → Prop} (hd : decode (ax_code (mgT L xs) mi) pc = .ok (.invokevirtual idx, 3)) (hpl : ax_pl (mgT L xs) mi idx = (kd, mj, n)) (hkd : kd = 7 ∨ kd = 17) (hst : st0 = ys ++ .ref a :: r) (hn : ys.length = n) (hl : a < 167) (ha : mg_c s a = .inr (ci, fs)) (hC : ((ax_cl (mgT L xs))[ci]?).map (fun q => q.1) = some (ax_nm (mgT L xs) mj).cls) (hr : (r.map (fun v => v.category)).sum ≤ 8) (hc : ca L xs d mj (.ref a :: ys.reverse) s Qc) (k : ∀ v s', Qc v s' → wq n0 L xs d mi (pc + 3) ls (v.toList ++ r) s' Q) : wq n0 L xs d mi pc ls st0 s Q := by
  intro h S hb
  obtain ⟨v, s1, h1, g1, S1, e1, e2, q1⟩ := hc h S
  obtain ⟨w, s2, h2, g2, S2, f1, f2, q2⟩ := k v s1 q1 h1 S1 (by rw [e1]; exact hb)
  exact ⟨w, s2, h2, ag_invv hd hpl hkd hst hn ((S.1 a hl).trans (congrArg some ha)) hC hr g1 g2, S2, by rw [e1] at f1; exact f1, by rw [e2] at f2; exact f2, q2⟩
theorem wq_invs {idx mj n kd : Nat} {st0 ys r : List Value} {Qc : Option Value → mg_s → Prop} (hd : decode (ax_code (mgT L xs) mi) pc = .ok (.invokestatic idx, 3)) (hpl : ax_pl (mgT L xs) mi idx = (kd, mj, n)) (hkd : kd = 6 ∨ kd = 16 ∨ kd = 26) (hst : st0 = ys ++ r) (hn : ys.length = n) (hr : (r.map (fun v => v.category)).sum ≤ 8) (hc : cq L xs d mj ys.reverse s Qc) (k : ∀ v s', Qc v s' → wq n0 L xs d mi (pc + 3) ls (v.toList ++ r) s' Q) : wq (n0 + 1) L xs d mi pc ls st0 s Q := by
  intro h S hb
  obtain ⟨v, s1, h1, g1, S1, e1, e2, q1⟩ := hc h S (by omega)
  obtain ⟨w, s2, h2, g2, S2, f1, f2, q2⟩ := k v s1 q1 h1 S1 (by omega)
  exact ⟨w, s2, h2, ag_invs hd hpl hkd hst hn hr g1 g2, S2, by omega, by omega, q2⟩
theorem wq_lald (hd : decode (ax_code (mgT L xs) mi) pc = .ok (.laload, 1)) (k : wq n0 L xs d mi (pc + 1) ls (.long (s.2.2.2.2 0) :: st) s Q) : wq n0 L xs d mi pc ls (.int 0 :: .ref 166 :: st) s Q :=
  wq_st (fun h o S k => ag_lald hd (n := 1) (S.1 166 (by decide)) (by decide) rfl (show vp_in 0 1 from vp_in_nI (n := 0) (N := 1) (by omega) (by omega)) rfl k) k
theorem wq_more {n1 : Nat} (hn : n0 ≤ n1) (k : wq n0 L xs d mi pc ls st s Q) : wq n1 L xs d mi pc ls st s Q := fun h S hb => by
  obtain ⟨v, s', h', g, S', e1, e2, q⟩ := k h S (by omega)
  exact ⟨v, s', h', g, S', by omega, by omega, q⟩
theorem wq_cast {ls' : ax_L} {st' : List Value} (k : wq n0 L xs d mi pc ls' st' s Q) (e1 : ls = ls') (e2 : st = st') : wq n0 L xs d mi pc ls st s Q := by subst e1; subst e2; exact k
theorem mg_cc_O {I A : Nat → Int32} {P V : Nat → Option Nat} {O O' : Nat → Int64} {n a : Nat} : ∀ k, k < 14 → mg_cc I A P V O k n a = mg_cc I A P V O' k n a := by
  intro k hk
  rcases (show k = 0 ∨ k = 1 ∨ k = 2 ∨ k = 3 ∨ k = 4 ∨ k = 5 ∨ k = 6 ∨ k = 7 ∨ k = 8 ∨ k = 9 ∨ k = 10 ∨ k = 11 ∨ k = 12 ∨ k = 13 by omega) with e | e | e | e | e | e | e | e | e | e | e | e | e | e <;> (subst e; rfl)
theorem mg_sh14 : ∀ b, b < 166 → (mg_sh.getD b (0, 0)).1 < 14 := by decide +kernel
theorem mg_O_ne {k : Nat} {x : Int64} : ∀ b, b < 167 → b ≠ 166 → mg_c (mg_O s k x) b = mg_c s b := fun b h1 h2 => mg_cc_O _ (mg_sh14 b (by omega))
theorem wg_last {x : Int64} (hd : decode (ax_code (mgT L xs) mi) pc = .ok (.lastore, 1)) (k : wp L xs d mi (pc + 1) ls st (mg_O s 0 x) Q) : wp L xs d mi pc ls (.long x :: .int 0 :: .ref 166 :: st) s Q :=
  wp_up (fun h o S k => ag_last hd (n := 1) (S.1 166 (by decide)) (by have := S.2.1; omega) rfl (show vp_in 0 1 from vp_in_nI (n := 0) (N := 1) (by omega) (by omega)) k) rfl mg_O_ne (fun q => q) k
theorem mg_S1 {h : ax_H} (S : mg_S h s) : mg_S (ax_one h) s := ⟨S.1, Nat.le_succ_of_le S.2.1, S.2.2⟩
theorem cq_of {mj : Nat} {av : List Value} (k : ca L xs d mj av s Q) : cq L xs d mj av s Q := fun h S _ => by
  obtain ⟨v, s', h', g, S', e1, e2, q⟩ := k h S
  exact ⟨v, s', h', g, S', by omega, by omega, q⟩
end WQ
theorem lw_ok1 {L : Nat} {xs : Nat → Int32} {d : Nat} {s : mg_s} {x V : Int32} {P : mg_s → Prop} (k : ca L xs d 35 [.ref 0, .int x] s (fun v s' => v = some (.int V) ∧ P s')) : cq L xs (d + 1) 1 [.ref 0, .int x, .ref 166] s (fun v s' => v = some (.int (nI 0)) ∧ ∃ s1, P s1 ∧ mg_O s1 0 V.toInt64 = s') := by
  refine cq_of (wg_call (Nat.le_of_ble_eq_true rfl) ?_)
  show wp L xs d 1 0 [some (.ref 0), some (.int x), some (.ref 166), none] [] s _
  refine wg_aload_n (d1_0 L xs) rfl ?_
  refine wg_iconst (d1_1 L xs) (x := 0) (by decide) ?_
  refine wg_aload_n (d1_2 L xs) rfl ?_
  refine wg_iload_n (d1_3 L xs) rfl ?_
  refine wg_invv (d1_4 L xs) (kd := 7) (mj := 35) (n := 1) rfl (Or.inl rfl) (ys := [.int x]) (r := [.int 0, .ref 166]) rfl rfl (by decide) rfl rfl (Nat.le_of_ble_eq_true rfl) k ?_
  rintro _ s1 ⟨rfl, hP⟩
  refine wg_i2l (d1_7 L xs) ?_
  refine wg_last (d1_8 L xs) ?_
  refine wg_goto (d1_9 L xs) (t := 18) (by decide) ?_
  refine wg_iconst (d1_18 L xs) (x := 0) (by decide) ?_
  exact wg_iret (d1_19 L xs) rfl rfl ⟨rfl, s1, hP, rfl⟩
theorem lw_th1_1 {L : Nat} {xs : Nat → Int32} {d : Nat} {s : mg_s} {x : Int32} (k : th L xs d 35 [.ref 0, .int x] s 1) : cq L xs (d + 1) 1 [.ref 0, .int x, .ref 166] s (fun v s' => v = some (.int (nI 1)) ∧ s = s') := by
  intro h S hb
  refine ⟨_, s, ax_one h, ag_call (Nat.le_of_ble_eq_true rfl) ?_, mg_S1 S, Nat.le_refl _, Nat.le_refl _, rfl, rfl⟩
  show ax_Go (mgT L xs) d 1 0 [some (.ref 0), some (.int x), some (.ref 166), none] [] h _
  refine ag_aload_n (d1_0 L xs) rfl ?_
  refine ag_iconst (d1_1 L xs) (x := 0) (by decide) ?_
  refine ag_aload_n (d1_2 L xs) rfl ?_
  refine ag_iload_n (d1_3 L xs) rfl ?_
  refine ag_invc (d1_4 L xs) (mj := 35) (n := 1) rfl (xs := [.int x]) (r := [.int 0, .ref 166]) rfl rfl (S.1 0 (by decide)) rfl (Nat.le_of_ble_eq_true rfl) (k h S hb) (pc' := 12) rfl ?_
  refine ag_astore_n (d1_12 L xs) (ls' := [some (.ref 0), some (.int x), some (.ref 166), some (.ref ((ax_one h).2.1 - 1))]) (Nat.le_of_ble_eq_true rfl) rfl ?_
  refine ag_iconst (d1_13 L xs) (x := 1) (by decide) ?_
  exact ag_iret (d1_14 L xs) rfl rfl
theorem lw_th1_2 {L : Nat} {xs : Nat → Int32} {d : Nat} {s : mg_s} {x : Int32} (k : th L xs d 35 [.ref 0, .int x] s 2) : cq L xs (d + 1) 1 [.ref 0, .int x, .ref 166] s (fun v s' => v = some (.int (nI 2)) ∧ s = s') := by
  intro h S hb
  refine ⟨_, s, ax_one h, ag_call (Nat.le_of_ble_eq_true rfl) ?_, mg_S1 S, Nat.le_refl _, Nat.le_refl _, rfl, rfl⟩
  show ax_Go (mgT L xs) d 1 0 [some (.ref 0), some (.int x), some (.ref 166), none] [] h _
  refine ag_aload_n (d1_0 L xs) rfl ?_
  refine ag_iconst (d1_1 L xs) (x := 0) (by decide) ?_
  refine ag_aload_n (d1_2 L xs) rfl ?_
  refine ag_iload_n (d1_3 L xs) rfl ?_
  refine ag_invc (d1_4 L xs) (mj := 35) (n := 1) rfl (xs := [.int x]) (r := [.int 0, .ref 166]) rfl rfl (S.1 0 (by decide)) rfl (Nat.le_of_ble_eq_true rfl) (k h S hb) (pc' := 15) rfl ?_
  refine ag_astore_n (d1_15 L xs) (ls' := [some (.ref 0), some (.int x), some (.ref 166), some (.ref ((ax_one h).2.1 - 1))]) (Nat.le_of_ble_eq_true rfl) rfl ?_
  refine ag_iconst (d1_16 L xs) (x := 2) (by decide) ?_
  exact ag_iret (d1_17 L xs) rfl rfl
theorem lw_ok2 {L : Nat} {xs : Nat → Int32} {d : Nat} {s : mg_s} {x V : Int32} {P : mg_s → Prop} (k : ca L xs d 45 [.ref 0, .int x] s (fun v s' => v = some (.int V) ∧ P s')) : cq L xs (d + 1) 2 [.ref 0, .int x, .ref 166] s (fun v s' => v = some (.int (nI 0)) ∧ ∃ s1, P s1 ∧ mg_O s1 0 V.toInt64 = s') := by
  refine cq_of (wg_call (Nat.le_of_ble_eq_true rfl) ?_)
  show wp L xs d 2 0 [some (.ref 0), some (.int x), some (.ref 166), none] [] s _
  refine wg_aload_n (d2_0 L xs) rfl ?_
  refine wg_iconst (d2_1 L xs) (x := 0) (by decide) ?_
  refine wg_aload_n (d2_2 L xs) rfl ?_
  refine wg_iload_n (d2_3 L xs) rfl ?_
  refine wg_invv (d2_4 L xs) (kd := 7) (mj := 45) (n := 1) rfl (Or.inl rfl) (ys := [.int x]) (r := [.int 0, .ref 166]) rfl rfl (by decide) rfl rfl (Nat.le_of_ble_eq_true rfl) k ?_
  rintro _ s1 ⟨rfl, hP⟩
  refine wg_i2l (d2_7 L xs) ?_
  refine wg_last (d2_8 L xs) ?_
  refine wg_goto (d2_9 L xs) (t := 15) (by decide) ?_
  refine wg_iconst (d2_15 L xs) (x := 0) (by decide) ?_
  exact wg_iret (d2_16 L xs) rfl rfl ⟨rfl, s1, hP, rfl⟩
theorem lw_th2_1 {L : Nat} {xs : Nat → Int32} {d : Nat} {s : mg_s} {x : Int32} (k : th L xs d 45 [.ref 0, .int x] s 1) : cq L xs (d + 1) 2 [.ref 0, .int x, .ref 166] s (fun v s' => v = some (.int (nI 1)) ∧ s = s') := by
  intro h S hb
  refine ⟨_, s, ax_one h, ag_call (Nat.le_of_ble_eq_true rfl) ?_, mg_S1 S, Nat.le_refl _, Nat.le_refl _, rfl, rfl⟩
  show ax_Go (mgT L xs) d 2 0 [some (.ref 0), some (.int x), some (.ref 166), none] [] h _
  refine ag_aload_n (d2_0 L xs) rfl ?_
  refine ag_iconst (d2_1 L xs) (x := 0) (by decide) ?_
  refine ag_aload_n (d2_2 L xs) rfl ?_
  refine ag_iload_n (d2_3 L xs) rfl ?_
  refine ag_invc (d2_4 L xs) (mj := 45) (n := 1) rfl (xs := [.int x]) (r := [.int 0, .ref 166]) rfl rfl (S.1 0 (by decide)) rfl (Nat.le_of_ble_eq_true rfl) (k h S hb) (pc' := 12) rfl ?_
  refine ag_astore_n (d2_12 L xs) (ls' := [some (.ref 0), some (.int x), some (.ref 166), some (.ref ((ax_one h).2.1 - 1))]) (Nat.le_of_ble_eq_true rfl) rfl ?_
  refine ag_iconst (d2_13 L xs) (x := 1) (by decide) ?_
  exact ag_iret (d2_14 L xs) rfl rfl
theorem lw_ok3 {L : Nat} {xs : Nat → Int32} {d : Nat} {s : mg_s} {x V : Int32} {P : mg_s → Prop} (k : ca L xs d 86 [.ref 0, .int x] s (fun v s' => v = some (.int V) ∧ P s')) : cq L xs (d + 1) 3 [.ref 0, .int x, .ref 166] s (fun v s' => v = some (.int (nI 0)) ∧ ∃ s1, P s1 ∧ mg_O s1 0 V.toInt64 = s') := by
  refine cq_of (wg_call (Nat.le_of_ble_eq_true rfl) ?_)
  show wp L xs d 3 0 [some (.ref 0), some (.int x), some (.ref 166), none] [] s _
  refine wg_aload_n (d3_0 L xs) rfl ?_
  refine wg_iconst (d3_1 L xs) (x := 0) (by decide) ?_
  refine wg_aload_n (d3_2 L xs) rfl ?_
  refine wg_iload_n (d3_3 L xs) rfl ?_
  refine wg_invv (d3_4 L xs) (kd := 7) (mj := 86) (n := 1) rfl (Or.inl rfl) (ys := [.int x]) (r := [.int 0, .ref 166]) rfl rfl (by decide) rfl rfl (Nat.le_of_ble_eq_true rfl) k ?_
  rintro _ s1 ⟨rfl, hP⟩
  refine wg_i2l (d3_7 L xs) ?_
  refine wg_last (d3_8 L xs) ?_
  refine wg_goto (d3_9 L xs) (t := 18) (by decide) ?_
  refine wg_iconst (d3_18 L xs) (x := 0) (by decide) ?_
  exact wg_iret (d3_19 L xs) rfl rfl ⟨rfl, s1, hP, rfl⟩
theorem lw_th3_1 {L : Nat} {xs : Nat → Int32} {d : Nat} {s : mg_s} {x : Int32} (k : th L xs d 86 [.ref 0, .int x] s 1) : cq L xs (d + 1) 3 [.ref 0, .int x, .ref 166] s (fun v s' => v = some (.int (nI 1)) ∧ s = s') := by
  intro h S hb
  refine ⟨_, s, ax_one h, ag_call (Nat.le_of_ble_eq_true rfl) ?_, mg_S1 S, Nat.le_refl _, Nat.le_refl _, rfl, rfl⟩
  show ax_Go (mgT L xs) d 3 0 [some (.ref 0), some (.int x), some (.ref 166), none] [] h _
  refine ag_aload_n (d3_0 L xs) rfl ?_
  refine ag_iconst (d3_1 L xs) (x := 0) (by decide) ?_
  refine ag_aload_n (d3_2 L xs) rfl ?_
  refine ag_iload_n (d3_3 L xs) rfl ?_
  refine ag_invc (d3_4 L xs) (mj := 86) (n := 1) rfl (xs := [.int x]) (r := [.int 0, .ref 166]) rfl rfl (S.1 0 (by decide)) rfl (Nat.le_of_ble_eq_true rfl) (k h S hb) (pc' := 12) rfl ?_
  refine ag_astore_n (d3_12 L xs) (ls' := [some (.ref 0), some (.int x), some (.ref 166), some (.ref ((ax_one h).2.1 - 1))]) (Nat.le_of_ble_eq_true rfl) rfl ?_
  refine ag_iconst (d3_13 L xs) (x := 1) (by decide) ?_
  exact ag_iret (d3_14 L xs) rfl rfl
theorem lw_th3_2 {L : Nat} {xs : Nat → Int32} {d : Nat} {s : mg_s} {x : Int32} (k : th L xs d 86 [.ref 0, .int x] s 2) : cq L xs (d + 1) 3 [.ref 0, .int x, .ref 166] s (fun v s' => v = some (.int (nI 2)) ∧ s = s') := by
  intro h S hb
  refine ⟨_, s, ax_one h, ag_call (Nat.le_of_ble_eq_true rfl) ?_, mg_S1 S, Nat.le_refl _, Nat.le_refl _, rfl, rfl⟩
  show ax_Go (mgT L xs) d 3 0 [some (.ref 0), some (.int x), some (.ref 166), none] [] h _
  refine ag_aload_n (d3_0 L xs) rfl ?_
  refine ag_iconst (d3_1 L xs) (x := 0) (by decide) ?_
  refine ag_aload_n (d3_2 L xs) rfl ?_
  refine ag_iload_n (d3_3 L xs) rfl ?_
  refine ag_invc (d3_4 L xs) (mj := 86) (n := 1) rfl (xs := [.int x]) (r := [.int 0, .ref 166]) rfl rfl (S.1 0 (by decide)) rfl (Nat.le_of_ble_eq_true rfl) (k h S hb) (pc' := 15) rfl ?_
  refine ag_astore_n (d3_15 L xs) (ls' := [some (.ref 0), some (.int x), some (.ref 166), some (.ref ((ax_one h).2.1 - 1))]) (Nat.le_of_ble_eq_true rfl) rfl ?_
  refine ag_iconst (d3_16 L xs) (x := 2) (by decide) ?_
  exact ag_iret (d3_17 L xs) rfl rfl
