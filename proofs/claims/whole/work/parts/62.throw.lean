/-! the calls that throw -/
theorem d35_28 (L : Nat) (xs : Nat → Int32) : decode (ax_code (mgT L xs) 35) 28 = .ok (.new 68, 3) := by
  show decode prog_1_method_5_code 28 = _
  decide +kernel
theorem d35_31 (L : Nat) (xs : Nat → Int32) : decode (ax_code (mgT L xs) 35) 31 = .ok (.dup, 1) := by
  show decode prog_1_method_5_code 31 = _
  decide +kernel
theorem d35_32 (L : Nat) (xs : Nat → Int32) : decode (ax_code (mgT L xs) 35) 32 = .ok (.invokespecial 70, 3) := by
  show decode prog_1_method_5_code 32 = _
  decide +kernel
theorem d35_35 (L : Nat) (xs : Nat → Int32) : decode (ax_code (mgT L xs) 35) 35 = .ok (.athrow, 1) := by
  show decode prog_1_method_5_code 35 = _
  decide +kernel
theorem d86_10 (L : Nat) (xs : Nat → Int32) : decode (ax_code (mgT L xs) 86) 10 = .ok (.iload_n 1, 1) := by
  show decode prog_1_method_10_code 10 = _
  decide +kernel
theorem d86_11 (L : Nat) (xs : Nat → Int32) : decode (ax_code (mgT L xs) 86) 11 = .ok (.ifCond .lt 9, 3) := by
  show decode prog_1_method_10_code 11 = _
  decide +kernel
theorem d86_14 (L : Nat) (xs : Nat → Int32) : decode (ax_code (mgT L xs) 86) 14 = .ok (.iload_n 1, 1) := by
  show decode prog_1_method_10_code 14 = _
  decide +kernel
theorem d86_15 (L : Nat) (xs : Nat → Int32) : decode (ax_code (mgT L xs) 86) 15 = .ok (.bipush 99, 2) := by
  show decode prog_1_method_10_code 15 = _
  decide +kernel
theorem d86_17 (L : Nat) (xs : Nat → Int32) : decode (ax_code (mgT L xs) 86) 17 = .ok (.if_icmp .le 11, 3) := by
  show decode prog_1_method_10_code 17 = _
  decide +kernel
theorem d86_28 (L : Nat) (xs : Nat → Int32) : decode (ax_code (mgT L xs) 86) 28 = .ok (.aload_n 0, 1) := by
  show decode prog_1_method_10_code 28 = _
  decide +kernel
theorem d86_29 (L : Nat) (xs : Nat → Int32) : decode (ax_code (mgT L xs) 86) 29 = .ok (.getfield 30, 3) := by
  show decode prog_1_method_10_code 29 = _
  decide +kernel
theorem d86_32 (L : Nat) (xs : Nat → Int32) : decode (ax_code (mgT L xs) 86) 32 = .ok (.invokevirtual 92, 3) := by
  show decode prog_1_method_10_code 32 = _
  decide +kernel
theorem d86_35 (L : Nat) (xs : Nat → Int32) : decode (ax_code (mgT L xs) 86) 35 = .ok (.ifCond .ne 11, 3) := by
  show decode prog_1_method_10_code 35 = _
  decide +kernel
theorem d86_38 (L : Nat) (xs : Nat → Int32) : decode (ax_code (mgT L xs) 86) 38 = .ok (.new 68, 3) := by
  show decode prog_1_method_10_code 38 = _
  decide +kernel
theorem d86_41 (L : Nat) (xs : Nat → Int32) : decode (ax_code (mgT L xs) 86) 41 = .ok (.dup, 1) := by
  show decode prog_1_method_10_code 41 = _
  decide +kernel
theorem d86_42 (L : Nat) (xs : Nat → Int32) : decode (ax_code (mgT L xs) 86) 42 = .ok (.invokespecial 70, 3) := by
  show decode prog_1_method_10_code 42 = _
  decide +kernel
theorem d86_45 (L : Nat) (xs : Nat → Int32) : decode (ax_code (mgT L xs) 86) 45 = .ok (.athrow, 1) := by
  show decode prog_1_method_10_code 45 = _
  decide +kernel
def wt (L : Nat) (xs : Nat → Int32) (d mi pc : Nat) (ls : ax_L) (st : List Value) (s : mg_s) (X : Nat) : Prop := ∀ h, mg_S h s → h.2.1 < ax_big → ax_Go (mgT L xs) d mi pc ls st h (.inr X, ax_one h)
def th (L : Nat) (xs : Nat → Int32) (d mj : Nat) (av : List Value) (s : mg_s) (X : Nat) : Prop := ∀ h, mg_S h s → h.2.1 < ax_big → ax_Ca (mgT L xs) d mj av h (.inr X, ax_one h)
section TP
variable {L : Nat} {xs : Nat → Int32} {d mi pc : Nat} {ls : ax_L} {st : List Value} {s : mg_s} {X : Nat}
theorem wt_st {pc' : Nat} {ls' : ax_L} {st' : List Value} (hs : ∀ h o, mg_S h s → ax_Go (mgT L xs) d mi pc' ls' st' h o → ax_Go (mgT L xs) d mi pc ls st h o) (k : wt L xs d mi pc' ls' st' s X) : wt L xs d mi pc ls st s X := fun h S hb => hs h _ S (k h S hb)
theorem wt_ch (k : mg_ch s → wt L xs d mi pc ls st s X) : wt L xs d mi pc ls st s X := fun h S => k S.2.2 h S
theorem tg_thr {idx ic : Nat} (hd : decode (ax_code (mgT L xs) mi) pc = .ok (.new idx, 3)) (hpl : ax_pl (mgT L xs) mi idx = (10, X, ic)) (hd1 : decode (ax_code (mgT L xs) mi) (pc + 3) = .ok (.dup, 1)) (hd2 : decode (ax_code (mgT L xs) mi) (pc + 4) = .ok (.invokespecial ic, 3)) (hd3 : decode (ax_code (mgT L xs) mi) (pc + 7) = .ok (.athrow, 1)) (hw : (st.map (fun v => v.category)).sum ≤ 8) (hh : ax_hs (mgT L xs) mi = []) : wt L xs d mi pc ls st s X := fun h S hb => ag_thr hd hpl hd1 hd2 hd3 hb hw hh
theorem tg_call {av : List Value} (hl : (ax_sl av).length ≤ ax_mx (mgT L xs) mi) (k : wt L xs d mi 0 (ax_entry (mgT L xs) mi av) [] s X) : th L xs (d + 1) mi av s X := fun h S hb => ag_callT hl (k h S hb)
theorem tg_iconst {n : Int} {x : Int32} (hd : decode (ax_code (mgT L xs) mi) pc = .ok (.iconst n, 1)) (hx : Int32.ofInt n = x) (k : wt L xs d mi (pc + 1) (ls) (.int x :: st) s X) : wt L xs d mi pc ls (st) s X := wt_st (fun h o _ k => ag_iconst hd hx k) k
theorem tg_bipush {n : Int} {x : Int32} (hd : decode (ax_code (mgT L xs) mi) pc = .ok (.bipush n, 2)) (hx : (Int8.ofInt n).toInt32 = x) (k : wt L xs d mi (pc + 2) (ls) (.int x :: st) s X) : wt L xs d mi pc ls (st) s X := wt_st (fun h o _ k => ag_bipush hd hx k) k
theorem tg_sipush {n : Int} {x : Int32} (hd : decode (ax_code (mgT L xs) mi) pc = .ok (.sipush n, 3)) (hx : (Int16.ofInt n).toInt32 = x) (k : wt L xs d mi (pc + 3) (ls) (.int x :: st) s X) : wt L xs d mi pc ls (st) s X := wt_st (fun h o _ k => ag_sipush hd hx k) k
theorem tg_lconst {n : Fin 2} {x : Int64} (hd : decode (ax_code (mgT L xs) mi) pc = .ok (.lconst n, 1)) (hx : Int64.ofNat (n : Nat) = x) (k : wt L xs d mi (pc + 1) (ls) (.long x :: st) s X) : wt L xs d mi pc ls (st) s X := wt_st (fun h o _ k => ag_lconst hd hx k) k
theorem tg_null (hd : decode (ax_code (mgT L xs) mi) pc = .ok (.aconst_null, 1)) (k : wt L xs d mi (pc + 1) (ls) (.null :: st) s X) : wt L xs d mi pc ls (st) s X := wt_st (fun h o _ k => ag_null hd k) k
theorem tg_iload {n : Nat} {x : Int32} (hd : decode (ax_code (mgT L xs) mi) pc = .ok (.iload n, 2)) (hx : ax_ld ls n = some (.int x)) (k : wt L xs d mi (pc + 2) (ls) (.int x :: st) s X) : wt L xs d mi pc ls (st) s X := wt_st (fun h o _ k => ag_iload hd hx k) k
theorem tg_iload_n {n : Fin 4} {x : Int32} (hd : decode (ax_code (mgT L xs) mi) pc = .ok (.iload_n n, 1)) (hx : ax_ld ls n = some (.int x)) (k : wt L xs d mi (pc + 1) (ls) (.int x :: st) s X) : wt L xs d mi pc ls (st) s X := wt_st (fun h o _ k => ag_iload_n hd hx k) k
theorem tg_lload {n : Nat} {x : Int64} (hd : decode (ax_code (mgT L xs) mi) pc = .ok (.lload n, 2)) (hx : ax_ld ls n = some (.long x)) (k : wt L xs d mi (pc + 2) (ls) (.long x :: st) s X) : wt L xs d mi pc ls (st) s X := wt_st (fun h o _ k => ag_lload hd hx k) k
theorem tg_lload_n {n : Fin 4} {x : Int64} (hd : decode (ax_code (mgT L xs) mi) pc = .ok (.lload_n n, 1)) (hx : ax_ld ls n = some (.long x)) (k : wt L xs d mi (pc + 1) (ls) (.long x :: st) s X) : wt L xs d mi pc ls (st) s X := wt_st (fun h o _ k => ag_lload_n hd hx k) k
theorem tg_aload {n : Nat} {x : Nat} (hd : decode (ax_code (mgT L xs) mi) pc = .ok (.aload n, 2)) (hx : ax_ld ls n = some (.ref x)) (k : wt L xs d mi (pc + 2) (ls) (.ref x :: st) s X) : wt L xs d mi pc ls (st) s X := wt_st (fun h o _ k => ag_aload hd hx k) k
theorem tg_aload_n {n : Fin 4} {x : Nat} (hd : decode (ax_code (mgT L xs) mi) pc = .ok (.aload_n n, 1)) (hx : ax_ld ls n = some (.ref x)) (k : wt L xs d mi (pc + 1) (ls) (.ref x :: st) s X) : wt L xs d mi pc ls (st) s X := wt_st (fun h o _ k => ag_aload_n hd hx k) k
theorem tg_aloadN {n : Nat} (hd : decode (ax_code (mgT L xs) mi) pc = .ok (.aload n, 2)) (hx : ax_ld ls n = some .null) (k : wt L xs d mi (pc + 2) (ls) (.null :: st) s X) : wt L xs d mi pc ls (st) s X := wt_st (fun h o _ k => ag_aloadN hd hx k) k
theorem tg_aload_nN {n : Fin 4} (hd : decode (ax_code (mgT L xs) mi) pc = .ok (.aload_n n, 1)) (hx : ax_ld ls n = some .null) (k : wt L xs d mi (pc + 1) (ls) (.null :: st) s X) : wt L xs d mi pc ls (st) s X := wt_st (fun h o _ k => ag_aload_nN hd hx k) k
theorem tg_istore {n : Nat} {x : Int32} {ls' : ax_L} (hd : decode (ax_code (mgT L xs) mi) pc = .ok (.istore n, 2)) (hn : n < ls.length) (hx : ax_set ls n (.int x) = ls') (k : wt L xs d mi (pc + 2) (ls') (st) s X) : wt L xs d mi pc ls (.int x :: st) s X := wt_st (fun h o _ k => ag_istore hd hn hx k) k
theorem tg_istore_n {n : Fin 4} {x : Int32} {ls' : ax_L} (hd : decode (ax_code (mgT L xs) mi) pc = .ok (.istore_n n, 1)) (hn : (n : Nat) < ls.length) (hx : ax_set ls n (.int x) = ls') (k : wt L xs d mi (pc + 1) (ls') (st) s X) : wt L xs d mi pc ls (.int x :: st) s X := wt_st (fun h o _ k => ag_istore_n hd hn hx k) k
theorem tg_lstore {n : Nat} {x : Int64} {ls' : ax_L} (hd : decode (ax_code (mgT L xs) mi) pc = .ok (.lstore n, 2)) (hn : n + 1 < ls.length) (hx : ax_set ls n (.long x) = ls') (k : wt L xs d mi (pc + 2) (ls') (st) s X) : wt L xs d mi pc ls (.long x :: st) s X := wt_st (fun h o _ k => ag_lstore hd hn hx k) k
theorem tg_lstore_n {n : Fin 4} {x : Int64} {ls' : ax_L} (hd : decode (ax_code (mgT L xs) mi) pc = .ok (.lstore_n n, 1)) (hn : (n : Nat) + 1 < ls.length) (hx : ax_set ls n (.long x) = ls') (k : wt L xs d mi (pc + 1) (ls') (st) s X) : wt L xs d mi pc ls (.long x :: st) s X := wt_st (fun h o _ k => ag_lstore_n hd hn hx k) k
theorem tg_astore {n : Nat} {x : Nat} {ls' : ax_L} (hd : decode (ax_code (mgT L xs) mi) pc = .ok (.astore n, 2)) (hn : n < ls.length) (hx : ax_set ls n (.ref x) = ls') (k : wt L xs d mi (pc + 2) (ls') (st) s X) : wt L xs d mi pc ls (.ref x :: st) s X := wt_st (fun h o _ k => ag_astore hd hn hx k) k
theorem tg_astore_n {n : Fin 4} {x : Nat} {ls' : ax_L} (hd : decode (ax_code (mgT L xs) mi) pc = .ok (.astore_n n, 1)) (hn : (n : Nat) < ls.length) (hx : ax_set ls n (.ref x) = ls') (k : wt L xs d mi (pc + 1) (ls') (st) s X) : wt L xs d mi pc ls (.ref x :: st) s X := wt_st (fun h o _ k => ag_astore_n hd hn hx k) k
theorem tg_astoreN {n : Nat} {ls' : ax_L} (hd : decode (ax_code (mgT L xs) mi) pc = .ok (.astore n, 2)) (hn : n < ls.length) (hx : ax_set ls n .null = ls') (k : wt L xs d mi (pc + 2) (ls') (st) s X) : wt L xs d mi pc ls (.null :: st) s X := wt_st (fun h o _ k => ag_astoreN hd hn hx k) k
theorem tg_astore_nN {n : Fin 4} {ls' : ax_L} (hd : decode (ax_code (mgT L xs) mi) pc = .ok (.astore_n n, 1)) (hn : (n : Nat) < ls.length) (hx : ax_set ls n .null = ls') (k : wt L xs d mi (pc + 1) (ls') (st) s X) : wt L xs d mi pc ls (.null :: st) s X := wt_st (fun h o _ k => ag_astore_nN hd hn hx k) k
theorem tg_iinc {n : Nat} {k0 : Int} {x y : Int32} {ls' : ax_L} (hd : decode (ax_code (mgT L xs) mi) pc = .ok (.iinc n k0, 3)) (hx : ax_ld ls n = some (.int x)) (hy : x + Int32.ofInt k0 = y) (hl : ax_set ls n (.int y) = ls') (k : wt L xs d mi (pc + 3) (ls') (st) s X) : wt L xs d mi pc ls (st) s X := wt_st (fun h o _ k => ag_iinc hd hx hy hl k) k
theorem tg_goto {off : Int} {t : Nat} (hd : decode (ax_code (mgT L xs) mi) pc = .ok (.goto off, 3)) (ht : ax_jmp pc off = some t) (k : wt L xs d mi (t) (ls) (st) s X) : wt L xs d mi pc ls (st) s X := wt_st (fun h o _ k => ag_goto hd ht k) k
theorem tg_ineg {x : Int32} (hd : decode (ax_code (mgT L xs) mi) pc = .ok (.ineg, 1)) (k : wt L xs d mi (pc + 1) (ls) (.int (-x) :: st) s X) : wt L xs d mi pc ls (.int x :: st) s X := wt_st (fun h o _ k => ag_ineg hd k) k
theorem tg_i2l {x : Int32} (hd : decode (ax_code (mgT L xs) mi) pc = .ok (.i2l, 1)) (k : wt L xs d mi (pc + 1) (ls) (.long x.toInt64 :: st) s X) : wt L xs d mi pc ls (.int x :: st) s X := wt_st (fun h o _ k => ag_i2l hd k) k
theorem tg_l2i {x : Int64} (hd : decode (ax_code (mgT L xs) mi) pc = .ok (.l2i, 1)) (k : wt L xs d mi (pc + 1) (ls) (.int x.toInt32 :: st) s X) : wt L xs d mi pc ls (.long x :: st) s X := wt_st (fun h o _ k => ag_l2i hd k) k
theorem tg_i2c {x : Int32} (hd : decode (ax_code (mgT L xs) mi) pc = .ok (.i2c, 1)) (k : wt L xs d mi (pc + 1) (ls) (.int (x.toUInt32 % 65536).toInt32 :: st) s X) : wt L xs d mi pc ls (.int x :: st) s X := wt_st (fun h o _ k => ag_i2c hd k) k
theorem tg_iadd {a b : Int32} (hd : decode (ax_code (mgT L xs) mi) pc = .ok (.iadd, 1)) (k : wt L xs d mi (pc + 1) (ls) (.int (a + b) :: st) s X) : wt L xs d mi pc ls (.int b :: .int a :: st) s X := wt_st (fun h o _ k => ag_iadd hd k) k
theorem tg_isub {a b : Int32} (hd : decode (ax_code (mgT L xs) mi) pc = .ok (.isub, 1)) (k : wt L xs d mi (pc + 1) (ls) (.int (a - b) :: st) s X) : wt L xs d mi pc ls (.int b :: .int a :: st) s X := wt_st (fun h o _ k => ag_isub hd k) k
theorem tg_imul {a b : Int32} (hd : decode (ax_code (mgT L xs) mi) pc = .ok (.imul, 1)) (k : wt L xs d mi (pc + 1) (ls) (.int (a * b) :: st) s X) : wt L xs d mi pc ls (.int b :: .int a :: st) s X := wt_st (fun h o _ k => ag_imul hd k) k
theorem tg_iand {a b : Int32} (hd : decode (ax_code (mgT L xs) mi) pc = .ok (.iand, 1)) (k : wt L xs d mi (pc + 1) (ls) (.int (a &&& b) :: st) s X) : wt L xs d mi pc ls (.int b :: .int a :: st) s X := wt_st (fun h o _ k => ag_iand hd k) k
theorem tg_ior {a b : Int32} (hd : decode (ax_code (mgT L xs) mi) pc = .ok (.ior, 1)) (k : wt L xs d mi (pc + 1) (ls) (.int (a ||| b) :: st) s X) : wt L xs d mi pc ls (.int b :: .int a :: st) s X := wt_st (fun h o _ k => ag_ior hd k) k
theorem tg_ixor {a b : Int32} (hd : decode (ax_code (mgT L xs) mi) pc = .ok (.ixor, 1)) (k : wt L xs d mi (pc + 1) (ls) (.int (a ^^^ b) :: st) s X) : wt L xs d mi pc ls (.int b :: .int a :: st) s X := wt_st (fun h o _ k => ag_ixor hd k) k
theorem tg_ishl {a b : Int32} (hd : decode (ax_code (mgT L xs) mi) pc = .ok (.ishl, 1)) (k : wt L xs d mi (pc + 1) (ls) (.int (a <<< (b &&& 31)) :: st) s X) : wt L xs d mi pc ls (.int b :: .int a :: st) s X := wt_st (fun h o _ k => ag_ishl hd k) k
theorem tg_ishr {a b : Int32} (hd : decode (ax_code (mgT L xs) mi) pc = .ok (.ishr, 1)) (k : wt L xs d mi (pc + 1) (ls) (.int (a >>> (b &&& 31)) :: st) s X) : wt L xs d mi pc ls (.int b :: .int a :: st) s X := wt_st (fun h o _ k => ag_ishr hd k) k
theorem tg_iushr {a b : Int32} (hd : decode (ax_code (mgT L xs) mi) pc = .ok (.iushr, 1)) (k : wt L xs d mi (pc + 1) (ls) (.int ((a.toUInt32 >>> (b.toUInt32 &&& Int32.toUInt32 31)).toInt32) :: st) s X) : wt L xs d mi pc ls (.int b :: .int a :: st) s X := wt_st (fun h o _ k => ag_iushr hd k) k
theorem tg_idiv {a b : Int32} (hd : decode (ax_code (mgT L xs) mi) pc = .ok (.idiv, 1)) (hb : ¬ b = 0) (k : wt L xs d mi (pc + 1) (ls) (.int (a / b) :: st) s X) : wt L xs d mi pc ls (.int b :: .int a :: st) s X := wt_st (fun h o _ k => ag_idiv hd hb k) k
theorem tg_irem {a b : Int32} (hd : decode (ax_code (mgT L xs) mi) pc = .ok (.irem, 1)) (hb : ¬ b = 0) (k : wt L xs d mi (pc + 1) (ls) (.int (a - a / b * b) :: st) s X) : wt L xs d mi pc ls (.int b :: .int a :: st) s X := wt_st (fun h o _ k => ag_irem hd hb k) k
theorem tg_ladd {a b : Int64} (hd : decode (ax_code (mgT L xs) mi) pc = .ok (.ladd, 1)) (k : wt L xs d mi (pc + 1) (ls) (.long (a + b) :: st) s X) : wt L xs d mi pc ls (.long b :: .long a :: st) s X := wt_st (fun h o _ k => ag_ladd hd k) k
theorem tg_land {a b : Int64} (hd : decode (ax_code (mgT L xs) mi) pc = .ok (.land, 1)) (k : wt L xs d mi (pc + 1) (ls) (.long (a &&& b) :: st) s X) : wt L xs d mi pc ls (.long b :: .long a :: st) s X := wt_st (fun h o _ k => ag_land hd k) k
theorem tg_lor {a b : Int64} (hd : decode (ax_code (mgT L xs) mi) pc = .ok (.lor, 1)) (k : wt L xs d mi (pc + 1) (ls) (.long (a ||| b) :: st) s X) : wt L xs d mi pc ls (.long b :: .long a :: st) s X := wt_st (fun h o _ k => ag_lor hd k) k
theorem tg_lcmp {a b : Int64} (hd : decode (ax_code (mgT L xs) mi) pc = .ok (.lcmp, 1)) (k : wt L xs d mi (pc + 1) (ls) (.int (lg_cmp a b) :: st) s X) : wt L xs d mi pc ls (.long b :: .long a :: st) s X := wt_st (fun h o _ k => ag_lcmp hd k) k
theorem tg_lshl {a : Int64} {b : Int32} (hd : decode (ax_code (mgT L xs) mi) pc = .ok (.lshl, 1)) (k : wt L xs d mi (pc + 1) (ls) (.long (a <<< (b.toInt64 &&& 63)) :: st) s X) : wt L xs d mi pc ls (.int b :: .long a :: st) s X := wt_st (fun h o _ k => ag_lshl hd k) k
theorem tg_lshr {a : Int64} {b : Int32} (hd : decode (ax_code (mgT L xs) mi) pc = .ok (.lshr, 1)) (k : wt L xs d mi (pc + 1) (ls) (.long (a >>> (b.toInt64 &&& 63)) :: st) s X) : wt L xs d mi pc ls (.int b :: .long a :: st) s X := wt_st (fun h o _ k => ag_lshr hd k) k
theorem tg_lushr {a : Int64} {b : Int32} (hd : decode (ax_code (mgT L xs) mi) pc = .ok (.lushr, 1)) (k : wt L xs d mi (pc + 1) (ls) (.long ((a.toUInt64 >>> (b.toInt64.toUInt64 &&& Int64.toUInt64 63)).toInt64) :: st) s X) : wt L xs d mi pc ls (.int b :: .long a :: st) s X := wt_st (fun h o _ k => ag_lushr hd k) k
theorem tg_dup {a : Value} (hd : decode (ax_code (mgT L xs) mi) pc = .ok (.dup, 1)) (ha : a.category = 1) (k : wt L xs d mi (pc + 1) (ls) (a :: a :: st) s X) : wt L xs d mi pc ls (a :: st) s X := wt_st (fun h o _ k => ag_dup hd ha k) k
theorem tg_pop {a : Value} (hd : decode (ax_code (mgT L xs) mi) pc = .ok (.pop, 1)) (ha : a.category = 1) (k : wt L xs d mi (pc + 1) (ls) (st) s X) : wt L xs d mi pc ls (a :: st) s X := wt_st (fun h o _ k => ag_pop hd ha k) k
theorem tg_dup_x1 {a b : Value} (hd : decode (ax_code (mgT L xs) mi) pc = .ok (.dup_x1, 1)) (ha : a.category = 1) (hb : b.category = 1) (k : wt L xs d mi (pc + 1) (ls) (a :: b :: a :: st) s X) : wt L xs d mi pc ls (a :: b :: st) s X := wt_st (fun h o _ k => ag_dup_x1 hd ha hb k) k
theorem tg_dup2 {a b : Value} (hd : decode (ax_code (mgT L xs) mi) pc = .ok (.dup2, 1)) (ha : a.category = 1) (hb : b.category = 1) (k : wt L xs d mi (pc + 1) (ls) (a :: b :: a :: b :: st) s X) : wt L xs d mi pc ls (a :: b :: st) s X := wt_st (fun h o _ k => ag_dup2 hd ha hb k) k
theorem tg_ifnull {a : Nat} {off : Int} (hd : decode (ax_code (mgT L xs) mi) pc = .ok (.ifnull off, 3)) (k : wt L xs d mi (pc + 3) (ls) (st) s X) : wt L xs d mi pc ls (.ref a :: st) s X := wt_st (fun h o _ k => ag_ifnull hd k) k
theorem tg_ifnullN {off : Int} {t : Nat} (hd : decode (ax_code (mgT L xs) mi) pc = .ok (.ifnull off, 3)) (ht : ax_jmp pc off = some t) (k : wt L xs d mi (t) (ls) (st) s X) : wt L xs d mi pc ls (.null :: st) s X := wt_st (fun h o _ k => ag_ifnullN hd ht k) k
theorem tg_ifnonnull {a : Nat} {off : Int} {t : Nat} (hd : decode (ax_code (mgT L xs) mi) pc = .ok (.ifnonnull off, 3)) (ht : ax_jmp pc off = some t) (k : wt L xs d mi (t) (ls) (st) s X) : wt L xs d mi pc ls (.ref a :: st) s X := wt_st (fun h o _ k => ag_ifnonnull hd ht k) k
theorem tg_ifnonnullN {off : Int} (hd : decode (ax_code (mgT L xs) mi) pc = .ok (.ifnonnull off, 3)) (k : wt L xs d mi (pc + 3) (ls) (st) s X) : wt L xs d mi pc ls (.null :: st) s X := wt_st (fun h o _ k => ag_ifnonnullN hd k) k
theorem tg_if_eq {x : Int32} {off : Int} {t : Nat} (hd : decode (ax_code (mgT L xs) mi) pc = .ok (.ifCond .eq off, 3)) (ht : ax_jmp pc off = some t) (kt : x = 0 → wt L xs d mi t ls st s X) (kf : ¬ (x = 0) → wt L xs d mi (pc + 3) ls st s X) : wt L xs d mi pc ls (.int x :: st) s X := by
  by_cases hc : x = 0
  · exact wt_st (fun h o _ k => ag_if_eq hd ht (fun _ => k) (fun q => absurd hc q)) (kt hc)
  · exact wt_st (fun h o _ k => ag_if_eq hd ht (fun q => absurd q hc) (fun _ => k)) (kf hc)
theorem tg_icmp_eq {x y : Int32} {off : Int} {t : Nat} (hd : decode (ax_code (mgT L xs) mi) pc = .ok (.if_icmp .eq off, 3)) (ht : ax_jmp pc off = some t) (kt : x = y → wt L xs d mi t ls st s X) (kf : ¬ (x = y) → wt L xs d mi (pc + 3) ls st s X) : wt L xs d mi pc ls (.int y :: .int x :: st) s X := by
  by_cases hc : x = y
  · exact wt_st (fun h o _ k => ag_icmp_eq hd ht (fun _ => k) (fun q => absurd hc q)) (kt hc)
  · exact wt_st (fun h o _ k => ag_icmp_eq hd ht (fun q => absurd q hc) (fun _ => k)) (kf hc)
theorem tg_if_ne {x : Int32} {off : Int} {t : Nat} (hd : decode (ax_code (mgT L xs) mi) pc = .ok (.ifCond .ne off, 3)) (ht : ax_jmp pc off = some t) (kt : ¬ x = 0 → wt L xs d mi t ls st s X) (kf : ¬ (¬ x = 0) → wt L xs d mi (pc + 3) ls st s X) : wt L xs d mi pc ls (.int x :: st) s X := by
  by_cases hc : ¬ x = 0
  · exact wt_st (fun h o _ k => ag_if_ne hd ht (fun _ => k) (fun q => absurd hc q)) (kt hc)
  · exact wt_st (fun h o _ k => ag_if_ne hd ht (fun q => absurd q hc) (fun _ => k)) (kf hc)
theorem tg_icmp_ne {x y : Int32} {off : Int} {t : Nat} (hd : decode (ax_code (mgT L xs) mi) pc = .ok (.if_icmp .ne off, 3)) (ht : ax_jmp pc off = some t) (kt : ¬ x = y → wt L xs d mi t ls st s X) (kf : ¬ (¬ x = y) → wt L xs d mi (pc + 3) ls st s X) : wt L xs d mi pc ls (.int y :: .int x :: st) s X := by
  by_cases hc : ¬ x = y
  · exact wt_st (fun h o _ k => ag_icmp_ne hd ht (fun _ => k) (fun q => absurd hc q)) (kt hc)
  · exact wt_st (fun h o _ k => ag_icmp_ne hd ht (fun q => absurd q hc) (fun _ => k)) (kf hc)
theorem tg_if_lt {x : Int32} {off : Int} {t : Nat} (hd : decode (ax_code (mgT L xs) mi) pc = .ok (.ifCond .lt off, 3)) (ht : ax_jmp pc off = some t) (kt : x < 0 → wt L xs d mi t ls st s X) (kf : ¬ (x < 0) → wt L xs d mi (pc + 3) ls st s X) : wt L xs d mi pc ls (.int x :: st) s X := by
  by_cases hc : x < 0
  · exact wt_st (fun h o _ k => ag_if_lt hd ht (fun _ => k) (fun q => absurd hc q)) (kt hc)
  · exact wt_st (fun h o _ k => ag_if_lt hd ht (fun q => absurd q hc) (fun _ => k)) (kf hc)
theorem tg_icmp_lt {x y : Int32} {off : Int} {t : Nat} (hd : decode (ax_code (mgT L xs) mi) pc = .ok (.if_icmp .lt off, 3)) (ht : ax_jmp pc off = some t) (kt : x < y → wt L xs d mi t ls st s X) (kf : ¬ (x < y) → wt L xs d mi (pc + 3) ls st s X) : wt L xs d mi pc ls (.int y :: .int x :: st) s X := by
  by_cases hc : x < y
  · exact wt_st (fun h o _ k => ag_icmp_lt hd ht (fun _ => k) (fun q => absurd hc q)) (kt hc)
  · exact wt_st (fun h o _ k => ag_icmp_lt hd ht (fun q => absurd q hc) (fun _ => k)) (kf hc)
theorem tg_if_ge {x : Int32} {off : Int} {t : Nat} (hd : decode (ax_code (mgT L xs) mi) pc = .ok (.ifCond .ge off, 3)) (ht : ax_jmp pc off = some t) (kt : 0 ≤ x → wt L xs d mi t ls st s X) (kf : ¬ (0 ≤ x) → wt L xs d mi (pc + 3) ls st s X) : wt L xs d mi pc ls (.int x :: st) s X := by
  by_cases hc : 0 ≤ x
  · exact wt_st (fun h o _ k => ag_if_ge hd ht (fun _ => k) (fun q => absurd hc q)) (kt hc)
  · exact wt_st (fun h o _ k => ag_if_ge hd ht (fun q => absurd q hc) (fun _ => k)) (kf hc)
theorem tg_icmp_ge {x y : Int32} {off : Int} {t : Nat} (hd : decode (ax_code (mgT L xs) mi) pc = .ok (.if_icmp .ge off, 3)) (ht : ax_jmp pc off = some t) (kt : y ≤ x → wt L xs d mi t ls st s X) (kf : ¬ (y ≤ x) → wt L xs d mi (pc + 3) ls st s X) : wt L xs d mi pc ls (.int y :: .int x :: st) s X := by
  by_cases hc : y ≤ x
  · exact wt_st (fun h o _ k => ag_icmp_ge hd ht (fun _ => k) (fun q => absurd hc q)) (kt hc)
  · exact wt_st (fun h o _ k => ag_icmp_ge hd ht (fun q => absurd q hc) (fun _ => k)) (kf hc)
theorem tg_if_gt {x : Int32} {off : Int} {t : Nat} (hd : decode (ax_code (mgT L xs) mi) pc = .ok (.ifCond .gt off, 3)) (ht : ax_jmp pc off = some t) (kt : 0 < x → wt L xs d mi t ls st s X) (kf : ¬ (0 < x) → wt L xs d mi (pc + 3) ls st s X) : wt L xs d mi pc ls (.int x :: st) s X := by
  by_cases hc : 0 < x
  · exact wt_st (fun h o _ k => ag_if_gt hd ht (fun _ => k) (fun q => absurd hc q)) (kt hc)
  · exact wt_st (fun h o _ k => ag_if_gt hd ht (fun q => absurd q hc) (fun _ => k)) (kf hc)
theorem tg_icmp_gt {x y : Int32} {off : Int} {t : Nat} (hd : decode (ax_code (mgT L xs) mi) pc = .ok (.if_icmp .gt off, 3)) (ht : ax_jmp pc off = some t) (kt : y < x → wt L xs d mi t ls st s X) (kf : ¬ (y < x) → wt L xs d mi (pc + 3) ls st s X) : wt L xs d mi pc ls (.int y :: .int x :: st) s X := by
  by_cases hc : y < x
  · exact wt_st (fun h o _ k => ag_icmp_gt hd ht (fun _ => k) (fun q => absurd hc q)) (kt hc)
  · exact wt_st (fun h o _ k => ag_icmp_gt hd ht (fun q => absurd q hc) (fun _ => k)) (kf hc)
theorem tg_if_le {x : Int32} {off : Int} {t : Nat} (hd : decode (ax_code (mgT L xs) mi) pc = .ok (.ifCond .le off, 3)) (ht : ax_jmp pc off = some t) (kt : x ≤ 0 → wt L xs d mi t ls st s X) (kf : ¬ (x ≤ 0) → wt L xs d mi (pc + 3) ls st s X) : wt L xs d mi pc ls (.int x :: st) s X := by
  by_cases hc : x ≤ 0
  · exact wt_st (fun h o _ k => ag_if_le hd ht (fun _ => k) (fun q => absurd hc q)) (kt hc)
  · exact wt_st (fun h o _ k => ag_if_le hd ht (fun q => absurd q hc) (fun _ => k)) (kf hc)
theorem tg_icmp_le {x y : Int32} {off : Int} {t : Nat} (hd : decode (ax_code (mgT L xs) mi) pc = .ok (.if_icmp .le off, 3)) (ht : ax_jmp pc off = some t) (kt : x ≤ y → wt L xs d mi t ls st s X) (kf : ¬ (x ≤ y) → wt L xs d mi (pc + 3) ls st s X) : wt L xs d mi pc ls (.int y :: .int x :: st) s X := by
  by_cases hc : x ≤ y
  · exact wt_st (fun h o _ k => ag_icmp_le hd ht (fun _ => k) (fun q => absurd hc q)) (kt hc)
  · exact wt_st (fun h o _ k => ag_icmp_le hd ht (fun q => absurd q hc) (fun _ => k)) (kf hc)
theorem tg_sald {j x : Int32} (hd : decode (ax_code (mgT L xs) mi) pc = .ok (.iaload, 1)) (hj : vp_in j L) (hx : xs j.toNatClampNeg = x) (k : wt L xs d mi (pc + 1) ls (.int x :: st) s X) : wt L xs d mi pc ls (.int j :: .ref ax_big :: st) s X := wt_st (fun h o _ k => ag_sald rfl hd hj hx k) k
theorem tg_slen (hd : decode (ax_code (mgT L xs) mi) pc = .ok (.arraylength, 1)) (k : wt L xs d mi (pc + 1) ls (.int (Int32.ofNat L) :: st) s X) : wt L xs d mi pc ls (.ref ax_big :: st) s X := wt_st (fun h o _ k => ag_slen rfl hd k) k
theorem tg_ldc2 {idx v x3 : Nat} (hd : decode (ax_code (mgT L xs) mi) pc = .ok (.ldc2_w idx, 3)) (hpl : ax_pl (mgT L xs) mi idx = (11, v, x3)) (k : wt L xs d mi (pc + 3) ls (.long (Int64.ofNat v) :: st) s X) : wt L xs d mi pc ls st s X := wt_st (fun h o _ k => ag_ldc2 hd hpl k) k
theorem tg_oini {idx a x2 x3 : Nat} (hd : decode (ax_code (mgT L xs) mi) pc = .ok (.invokespecial idx, 3)) (hpl : ax_pl (mgT L xs) mi idx = (9, x2, x3)) (hr : (st.map (fun v => v.category)).sum ≤ 8) (k : wt L xs d mi (pc + 3) ls st s X) : wt L xs d mi pc ls (.ref a :: st) s X := wt_st (fun h o _ k => ag_oini hd hpl hr k) k
theorem tg_top {x y : Int32} (e : x = y) (k : wt L xs d mi pc ls (.int y :: st) s X) : wt L xs d mi pc ls (.int x :: st) s X := wt_st (fun h o _ k => ag_top e k) k
theorem tg_ref {a b : Nat} (e : a = b) (k : wt L xs d mi pc ls (.ref b :: st) s X) : wt L xs d mi pc ls (.ref a :: st) s X := wt_st (fun h o _ k => ag_ref e k) k
theorem tg_tswIn {x : Int32} {dflt lo hi of : Int} {offs : Array Int} {len t : Nat} (hd : decode (ax_code (mgT L xs) mi) pc = .ok (.tableswitch dflt lo hi offs, len)) (h1 : ¬ (x.toInt < lo ∨ hi < x.toInt)) (ho : offs[(x.toInt - lo).toNat]? = some of) (ht : ax_jmp pc of = some t) (k : wt L xs d mi t ls st s X) : wt L xs d mi pc ls (.int x :: st) s X := wt_st (fun h o _ k => ag_tswIn hd h1 ho ht k) k
theorem tg_tswOut {x : Int32} {dflt lo hi : Int} {offs : Array Int} {len t : Nat} (hd : decode (ax_code (mgT L xs) mi) pc = .ok (.tableswitch dflt lo hi offs, len)) (h1 : x.toInt < lo ∨ hi < x.toInt) (ht : ax_jmp pc dflt = some t) (k : wt L xs d mi t ls st s X) : wt L xs d mi pc ls (.int x :: st) s X := wt_st (fun h o _ k => ag_tswOut hd h1 ht k) k
theorem tg_get {idx a cj k0 kd : Nat} {fs : List Value} {v : Value} (hd : decode (ax_code (mgT L xs) mi) pc = .ok (.getfield idx, 3)) (hpl : ax_pl (mgT L xs) mi idx = (kd, cj, k0)) (hkd : kd = 1 ∨ kd = 2) (hl : a < 167) (ha : mg_c s a = .inr (cj, fs)) (hv : fs[k0]? = some v) (k : wt L xs d mi (pc + 3) ls (v :: st) s X) : wt L xs d mi pc ls (.ref a :: st) s X :=
  wt_st (fun h o S k => ag_get hd hpl hkd (by rw [S.1 a hl, ha]) hv k) k
theorem tg_alen {a t n : Nat} {y : (Nat → Int32) ⊕ (Nat → Int64) ⊕ (Nat → UInt32) ⊕ (Nat → UInt64) ⊕ (Nat → Option Nat)} (hd : decode (ax_code (mgT L xs) mi) pc = .ok (.arraylength, 1)) (hl : a < 167) (ha : mg_c s a = .inl (t, n, y)) (ht : t < 5) (k : wt L xs d mi (pc + 1) ls (.int (nI n) :: st) s X) : wt L xs d mi pc ls (.ref a :: st) s X :=
  wt_st (fun h o S k => ag_alen hd ((S.1 a hl).trans (congrArg some ha)) (by have : ax_big = 1048576 := rfl; omega) ht k) k
theorem tg_iald {a n : Nat} {f : Nat → Int32} {j : Int32} (hd : decode (ax_code (mgT L xs) mi) pc = .ok (.iaload, 1)) (hl : a < 167) (ha : mg_c s a = .inl (0, n, .inl f)) (hj : vp_in j n) (k : wt L xs d mi (pc + 1) ls (.int (f j.toNatClampNeg) :: st) s X) : wt L xs d mi pc ls (.int j :: .ref a :: st) s X :=
  wt_st (fun h o S k => ag_iald hd ((S.1 a hl).trans (congrArg some ha)) (by have : ax_big = 1048576 := rfl; omega) rfl hj rfl k) k
theorem tg_cald {a n : Nat} {f : Nat → Int32} {j : Int32} (hd : decode (ax_code (mgT L xs) mi) pc = .ok (.caload, 1)) (hl : a < 167) (ha : mg_c s a = .inl (1, n, .inl f)) (hj : vp_in j n) (k : wt L xs d mi (pc + 1) ls (.int (f j.toNatClampNeg) :: st) s X) : wt L xs d mi pc ls (.int j :: .ref a :: st) s X :=
  wt_st (fun h o S k => ag_cald hd ((S.1 a hl).trans (congrArg some ha)) (by have : ax_big = 1048576 := rfl; omega) rfl hj rfl k) k
theorem tg_aald {a t n : Nat} {f : Nat → Option Nat} {C : String} {j : Int32} {v : Value} (hd : decode (ax_code (mgT L xs) mi) pc = .ok (.aaload, 1)) (hl : a < 167) (ha : mg_c s a = .inl (t, n, .inr (.inr (.inr (.inr f))))) (ht : (ax_ty (mgT L xs))[t]? = some (.object C)) (hj : vp_in j n) (hx : va_rf (f j.toNatClampNeg) = v) (k : wt L xs d mi (pc + 1) ls (v :: st) s X) : wt L xs d mi pc ls (.int j :: .ref a :: st) s X :=
  wt_st (fun h o S k => ag_aald hd ((S.1 a hl).trans (congrArg some ha)) (by have : ax_big = 1048576 := rfl; omega) ht hj hx k) k
theorem tg_invs {idx mj n kd : Nat} {st0 ys r : List Value} {Qc : Option Value → mg_s → Prop} (hd : decode (ax_code (mgT L xs) mi) pc = .ok (.invokestatic idx, 3)) (hpl : ax_pl (mgT L xs) mi idx = (kd, mj, n)) (hkd : kd = 6 ∨ kd = 16 ∨ kd = 26) (hst : st0 = ys ++ r) (hn : ys.length = n) (hr : (r.map (fun v => v.category)).sum ≤ 8) (hc : rc L xs d mj ys.reverse s Qc) (k : ∀ v s', Qc v s' → s' = s → wt L xs d mi (pc + 3) ls (v.toList ++ r) s' X) : wt L xs d mi pc ls st0 s X := by
  intro h S hb
  obtain ⟨v, g1, q1⟩ := hc h S
  exact ag_invs hd hpl hkd hst hn hr g1 (k v s q1 rfl h S hb)
theorem tg_invv {idx mj n kd a ci : Nat} {st0 ys r fs : List Value} {Qc : Option Value → mg_s → Prop} (hd : decode (ax_code (mgT L xs) mi) pc = .ok (.invokevirtual idx, 3)) (hpl : ax_pl (mgT L xs) mi idx = (kd, mj, n)) (hkd : kd = 7 ∨ kd = 17) (hst : st0 = ys ++ .ref a :: r) (hn : ys.length = n) (hl : a < 167) (ha : mg_c s a = .inr (ci, fs)) (hC : ((ax_cl (mgT L xs))[ci]?).map (fun q => q.1) = some (ax_nm (mgT L xs) mj).cls) (hr : (r.map (fun v => v.category)).sum ≤ 8) (hc : rc L xs d mj (.ref a :: ys.reverse) s Qc) (k : ∀ v s', Qc v s' → s' = s → wt L xs d mi (pc + 3) ls (v.toList ++ r) s' X) : wt L xs d mi pc ls st0 s X := by
  intro h S hb
  obtain ⟨v, g1, q1⟩ := hc h S
  exact ag_invv hd hpl hkd hst hn ((S.1 a hl).trans (congrArg some ha)) hC hr g1 (k v s q1 rfl h S hb)
end TP
section TN
variable {L : Nat} {xs : Nat → Int32} {d mi pc : Nat} {ls : ax_L} {st : List Value} {s : mg_s} {X : Nat} {x y t : Nat} {off : Int}
theorem tn_icmp_lt (hd : decode (ax_code (mgT L xs) mi) pc = .ok (.if_icmp .lt off, 3)) (hx : x < 2 ^ 31) (hy : y < 2 ^ 31) (ht : ax_jmp pc off = some t) (kt : x < y → wt L xs d mi t ls st s X) (kf : y ≤ x → wt L xs d mi (pc + 3) ls st s X) : wt L xs d mi pc ls (.int (nI y) :: .int (nI x) :: st) s X :=
  tg_icmp_lt hd ht (fun q => kt ((nI_ltI hx hy).mp q)) (fun q => kf (Nat.not_lt.mp (fun r => q ((nI_ltI hx hy).mpr r))))
theorem tn_icmp_ge (hd : decode (ax_code (mgT L xs) mi) pc = .ok (.if_icmp .ge off, 3)) (hx : x < 2 ^ 31) (hy : y < 2 ^ 31) (ht : ax_jmp pc off = some t) (kt : y ≤ x → wt L xs d mi t ls st s X) (kf : x < y → wt L xs d mi (pc + 3) ls st s X) : wt L xs d mi pc ls (.int (nI y) :: .int (nI x) :: st) s X :=
  tg_icmp_ge hd ht (fun q => kt ((nI_leI hy hx).mp q)) (fun q => kf (Nat.not_le.mp (fun r => q ((nI_leI hy hx).mpr r))))
theorem tn_icmp_gt (hd : decode (ax_code (mgT L xs) mi) pc = .ok (.if_icmp .gt off, 3)) (hx : x < 2 ^ 31) (hy : y < 2 ^ 31) (ht : ax_jmp pc off = some t) (kt : y < x → wt L xs d mi t ls st s X) (kf : x ≤ y → wt L xs d mi (pc + 3) ls st s X) : wt L xs d mi pc ls (.int (nI y) :: .int (nI x) :: st) s X :=
  tg_icmp_gt hd ht (fun q => kt ((nI_ltI hy hx).mp q)) (fun q => kf (Nat.not_lt.mp (fun r => q ((nI_ltI hy hx).mpr r))))
theorem tn_icmp_le (hd : decode (ax_code (mgT L xs) mi) pc = .ok (.if_icmp .le off, 3)) (hx : x < 2 ^ 31) (hy : y < 2 ^ 31) (ht : ax_jmp pc off = some t) (kt : x ≤ y → wt L xs d mi t ls st s X) (kf : y < x → wt L xs d mi (pc + 3) ls st s X) : wt L xs d mi pc ls (.int (nI y) :: .int (nI x) :: st) s X :=
  tg_icmp_le hd ht (fun q => kt ((nI_leI hx hy).mp q)) (fun q => kf (Nat.not_le.mp (fun r => q ((nI_leI hx hy).mpr r))))
theorem tn_icmp_eq (hd : decode (ax_code (mgT L xs) mi) pc = .ok (.if_icmp .eq off, 3)) (hx : x < 2 ^ 31) (hy : y < 2 ^ 31) (ht : ax_jmp pc off = some t) (kt : x = y → wt L xs d mi t ls st s X) (kf : ¬ x = y → wt L xs d mi (pc + 3) ls st s X) : wt L xs d mi pc ls (.int (nI y) :: .int (nI x) :: st) s X :=
  tg_icmp_eq hd ht (fun q => kt ((nI_eq hx hy).mp q)) (fun q => kf (fun r => q ((nI_eq hx hy).mpr r)))
theorem tn_icmp_ne (hd : decode (ax_code (mgT L xs) mi) pc = .ok (.if_icmp .ne off, 3)) (hx : x < 2 ^ 31) (hy : y < 2 ^ 31) (ht : ax_jmp pc off = some t) (kt : ¬ x = y → wt L xs d mi t ls st s X) (kf : x = y → wt L xs d mi (pc + 3) ls st s X) : wt L xs d mi pc ls (.int (nI y) :: .int (nI x) :: st) s X :=
  tg_icmp_ne hd ht (fun q => kt (fun r => q ((nI_eq hx hy).mpr r))) (fun q => kf (Classical.byContradiction (fun r => q (fun r2 => r ((nI_eq hx hy).mp r2)))))
theorem tn_if_lt (hd : decode (ax_code (mgT L xs) mi) pc = .ok (.ifCond .lt off, 3)) (hx : x < 2 ^ 31) (ht : ax_jmp pc off = some t) (kt : x < 0 → wt L xs d mi t ls st s X) (kf : 0 ≤ x → wt L xs d mi (pc + 3) ls st s X) : wt L xs d mi pc ls (.int (nI x) :: st) s X :=
  tg_if_lt hd ht (fun q => kt ((nI_ltI hx (by decide : 0 < 2 ^ 31)).mp q)) (fun q => kf (Nat.zero_le _))
theorem tn_if_ge (hd : decode (ax_code (mgT L xs) mi) pc = .ok (.ifCond .ge off, 3)) (hx : x < 2 ^ 31) (ht : ax_jmp pc off = some t) (kt : 0 ≤ x → wt L xs d mi t ls st s X) (kf : x < 0 → wt L xs d mi (pc + 3) ls st s X) : wt L xs d mi pc ls (.int (nI x) :: st) s X :=
  tg_if_ge hd ht (fun q => kt (Nat.zero_le _)) (fun q => kf (absurd ((nI_leI (by decide : 0 < 2 ^ 31) hx).mpr (Nat.zero_le _)) q))
theorem tn_if_gt (hd : decode (ax_code (mgT L xs) mi) pc = .ok (.ifCond .gt off, 3)) (hx : x < 2 ^ 31) (ht : ax_jmp pc off = some t) (kt : 0 < x → wt L xs d mi t ls st s X) (kf : x = 0 → wt L xs d mi (pc + 3) ls st s X) : wt L xs d mi pc ls (.int (nI x) :: st) s X :=
  tg_if_gt hd ht (fun q => kt ((nI_ltI (by decide : 0 < 2 ^ 31) hx).mp q)) (fun q => kf (Nat.eq_zero_of_not_pos (fun r => q ((nI_ltI (by decide : 0 < 2 ^ 31) hx).mpr r))))
theorem tn_if_le (hd : decode (ax_code (mgT L xs) mi) pc = .ok (.ifCond .le off, 3)) (hx : x < 2 ^ 31) (ht : ax_jmp pc off = some t) (kt : x = 0 → wt L xs d mi t ls st s X) (kf : 0 < x → wt L xs d mi (pc + 3) ls st s X) : wt L xs d mi pc ls (.int (nI x) :: st) s X :=
  tg_if_le hd ht (fun q => kt (Nat.le_zero.mp ((nI_leI hx (by decide : 0 < 2 ^ 31)).mp q))) (fun q => kf (Nat.pos_of_ne_zero (fun r => q ((nI_leI hx (by decide : 0 < 2 ^ 31)).mpr (by omega)))))
theorem tn_if_eq (hd : decode (ax_code (mgT L xs) mi) pc = .ok (.ifCond .eq off, 3)) (hx : x < 2 ^ 31) (ht : ax_jmp pc off = some t) (kt : x = 0 → wt L xs d mi t ls st s X) (kf : ¬ x = 0 → wt L xs d mi (pc + 3) ls st s X) : wt L xs d mi pc ls (.int (nI x) :: st) s X :=
  tg_if_eq hd ht (fun q => kt ((nI_eq hx (by decide : 0 < 2 ^ 31)).mp q)) (fun q => kf (fun r => q ((nI_eq hx (by decide : 0 < 2 ^ 31)).mpr r)))
theorem tn_if_ne (hd : decode (ax_code (mgT L xs) mi) pc = .ok (.ifCond .ne off, 3)) (hx : x < 2 ^ 31) (ht : ax_jmp pc off = some t) (kt : ¬ x = 0 → wt L xs d mi t ls st s X) (kf : x = 0 → wt L xs d mi (pc + 3) ls st s X) : wt L xs d mi pc ls (.int (nI x) :: st) s X :=
  tg_if_ne hd ht (fun q => kt (fun r => q ((nI_eq hx (by decide : 0 < 2 ^ 31)).mpr r))) (fun q => kf (Classical.byContradiction (fun r => q (fun r2 => r ((nI_eq hx (by decide : 0 < 2 ^ 31)).mp r2)))))
end TN
section TC
variable {L : Nat} {xs : Nat → Int32} {d : Nat} {s : mg_s} {p : Nat → Nat} {R : List rowT} {l m : List Nat} {n : Nat}
theorem gd_row_t1 {kd : Nat} (hl : hold s 1 l) (hk4 : kd ≤ 4) (hok : t_ok l kd = false) : th L xs (d + 5) 35 [.ref 0, .int (nI kd)] s 1 := by
  refine tg_call (Nat.le_of_ble_eq_true rfl) ?_
  have hb0 : bI (t_ok l kd) = 0 := by rw [hok]; rfl
  show wt L xs (d + 4) 35 0 [some (.ref 0), some (.int (nI kd))] [] s _
  refine tg_aload_n (d35_0 L xs) rfl ?_
  refine tg_iload_n (d35_1 L xs) rfl ?_
  refine tg_invv (d35_2 L xs) (kd := 7) (mj := 36) (n := 1) rfl (Or.inl rfl) (ys := [.int (nI kd)]) (r := []) rfl rfl (by decide) rfl rfl (Nat.le_of_ble_eq_true rfl) (rgd_tir hl hk4) ?_
  rintro _ _ ⟨rfl, rfl⟩ -
  refine tn_if_ne (d35_5 L xs) (x := bI (t_ok l kd)) (by omega) (t := 16) (by decide) (fun h1 => by omega) (fun h1 => ?_)
  exact tg_thr (d35_8 L xs) rfl (d35_11 L xs) (d35_12 L xs) (d35_15 L xs) (Nat.le_of_ble_eq_true rfl) rfl
theorem gd_row_tx {x : Int32} (hl : hold s 1 l) (hx : x.toInt < 0 ∨ 4 < x.toInt) : th L xs (d + 5) 35 [.ref 0, .int x] s 1 := by
  refine tg_call (Nat.le_of_ble_eq_true rfl) ?_
  have hb0 : bI (t_name (gl l) 0 (t_end l) && false) = 0 := by rw [Bool.and_false]; rfl
  show wt L xs (d + 4) 35 0 [some (.ref 0), some (.int x)] [] s _
  refine tg_aload_n (d35_0 L xs) rfl ?_
  refine tg_iload_n (d35_1 L xs) rfl ?_
  refine tg_invv (d35_2 L xs) (kd := 7) (mj := 36) (n := 1) rfl (Or.inl rfl) (ys := [.int x]) (r := []) rfl rfl (by decide) rfl rfl (Nat.le_of_ble_eq_true rfl) (rgd_tiro hl rfl hx) ?_
  rintro _ _ ⟨rfl, rfl⟩ -
  refine tn_if_ne (d35_5 L xs) (x := bI (t_name (gl l) 0 (t_end l) && false)) (by omega) (t := 16) (by decide) (fun h1 => by omega) (fun h1 => ?_)
  exact tg_thr (d35_8 L xs) rfl (d35_11 L xs) (d35_12 L xs) (d35_15 L xs) (Nat.le_of_ble_eq_true rfl) rfl
theorem gd_row_t2 {kd : Nat} (T : isTab s p R) (hl : hold s 1 l) (hk4 : kd ≤ 4) (hok : t_ok l kd = true) (hR : R.length = 16) : th L xs (d + 5) 35 [.ref 0, .int (nI kd)] s 2 := by
  refine tg_call (Nat.le_of_ble_eq_true rfl) ?_
  have hb1 : bI (t_ok l kd) = 1 := by rw [hok]; rfl
  show wt L xs (d + 4) 35 0 [some (.ref 0), some (.int (nI kd))] [] s _
  refine tg_aload_n (d35_0 L xs) rfl ?_
  refine tg_iload_n (d35_1 L xs) rfl ?_
  refine tg_invv (d35_2 L xs) (kd := 7) (mj := 36) (n := 1) rfl (Or.inl rfl) (ys := [.int (nI kd)]) (r := []) rfl rfl (by decide) rfl rfl (Nat.le_of_ble_eq_true rfl) (rgd_tir hl hk4) ?_
  rintro _ _ ⟨rfl, rfl⟩ -
  refine tn_if_ne (d35_5 L xs) (x := bI (t_ok l kd)) (by omega) (t := 16) (by decide) (fun h1 => ?_) (fun h1 => by omega)
  refine tg_aload_n (d35_16 L xs) rfl ?_
  refine tg_get (d35_17 L xs) (kd := 1) (cj := 0) (k0 := 1) rfl (Or.inl rfl) (by decide) rfl rfl ?_
  refine tg_invv (d35_20 L xs) (kd := 7) (mj := 33) (n := 0) rfl (Or.inl rfl) (ys := []) (r := []) rfl rfl (by decide) rfl rfl (Nat.le_of_ble_eq_true rfl) rtb_count ?_
  rintro _ _ ⟨rfl, rfl⟩ -
  refine tg_top (y := nI R.length) T.1 ?_
  refine tg_bipush (d35_23 L xs) (x := 16) (by decide) ?_
  refine tn_icmp_lt (d35_25 L xs) (x := R.length) (y := 16) (by omega) (by omega) (t := 36) (by decide) (fun h2 => by omega) (fun h2 => ?_)
  exact tg_thr (d35_28 L xs) rfl (d35_31 L xs) (d35_32 L xs) (d35_35 L xs) (Nat.le_of_ble_eq_true rfl) rfl
theorem gd_check_t1 {x : Int32} (hl : hold s 1 l) (hok : t_name (gl l) 0 l.length = false) : th L xs (d + 4) 45 [.ref 0, .int x] s 1 := by
  refine tg_call (Nat.le_of_ble_eq_true rfl) ?_
  have hb0 : bI (t_name (t_at s 1 l.length) 0 l.length) = 0 := by rw [hold_at hl, hok]; rfl
  show wt L xs (d + 3) 45 0 [some (.ref 0), some (.int x), none] [] s _
  refine tg_aload_n (d45_0 L xs) rfl ?_
  refine tg_get (d45_1 L xs) (kd := 1) (cj := 0) (k0 := 0) rfl (Or.inl rfl) (by decide) rfl rfl ?_
  refine tg_invv (d45_4 L xs) (kd := 7) (mj := 46) (n := 0) rfl (Or.inl rfl) (ys := []) (r := []) rfl rfl (by decide) rfl rfl (Nat.le_of_ble_eq_true rfl) (rtx_isName0 isT_all.1 hl.1) ?_
  rintro _ _ ⟨rfl, rfl⟩ -
  refine tn_if_ne (d45_7 L xs) (x := bI (t_name (t_at s 1 l.length) 0 l.length)) (by omega) (t := 18) (by decide) (fun h1 => by omega) (fun h1 => ?_)
  exact tg_thr (d45_10 L xs) rfl (d45_13 L xs) (d45_14 L xs) (d45_17 L xs) (Nat.le_of_ble_eq_true rfl) rfl
theorem gd_policy_t1 {x : Int32} (hl : hold s 1 l) (hok : t_name (gl l) 0 l.length = false) : th L xs (d + 4) 86 [.ref 0, .int x] s 1 := by
  refine tg_call (Nat.le_of_ble_eq_true rfl) ?_
  have hb0 : bI (t_name (t_at s 1 l.length) 0 l.length) = 0 := by rw [hold_at hl, hok]; rfl
  show wt L xs (d + 3) 86 0 [some (.ref 0), some (.int x), none] [] s _
  refine tg_aload_n (d86_0 L xs) rfl ?_
  refine tg_get (d86_1 L xs) (kd := 1) (cj := 0) (k0 := 0) rfl (Or.inl rfl) (by decide) rfl rfl ?_
  refine tg_invv (d86_4 L xs) (kd := 7) (mj := 46) (n := 0) rfl (Or.inl rfl) (ys := []) (r := []) rfl rfl (by decide) rfl rfl (Nat.le_of_ble_eq_true rfl) (rtx_isName0 isT_all.1 hl.1) ?_
  rintro _ _ ⟨rfl, rfl⟩ -
  refine tn_if_eq (d86_7 L xs) (x := bI (t_name (t_at s 1 l.length) 0 l.length)) (by omega) (t := 20) (by decide) (fun h1 => ?_) (fun h1 => by omega)
  exact tg_thr (d86_20 L xs) rfl (d86_23 L xs) (d86_24 L xs) (d86_27 L xs) (Nat.le_of_ble_eq_true rfl) rfl
theorem gd_policy_t1n {x : Int32} (hl : hold s 1 l) (hok : t_name (gl l) 0 l.length = true) (hx : x < 0 ∨ 99 < x) : th L xs (d + 4) 86 [.ref 0, .int x] s 1 := by
  refine tg_call (Nat.le_of_ble_eq_true rfl) ?_
  have hb1 : bI (t_name (t_at s 1 l.length) 0 l.length) = 1 := by rw [hold_at hl, hok]; rfl
  show wt L xs (d + 3) 86 0 [some (.ref 0), some (.int x), none] [] s _
  refine tg_aload_n (d86_0 L xs) rfl ?_
  refine tg_get (d86_1 L xs) (kd := 1) (cj := 0) (k0 := 0) rfl (Or.inl rfl) (by decide) rfl rfl ?_
  refine tg_invv (d86_4 L xs) (kd := 7) (mj := 46) (n := 0) rfl (Or.inl rfl) (ys := []) (r := []) rfl rfl (by decide) rfl rfl (Nat.le_of_ble_eq_true rfl) (rtx_isName0 isT_all.1 hl.1) ?_
  rintro _ _ ⟨rfl, rfl⟩ -
  refine tn_if_eq (d86_7 L xs) (x := bI (t_name (t_at s 1 l.length) 0 l.length)) (by omega) (t := 20) (by decide) (fun h1 => by omega) (fun h1 => ?_)
  refine tg_iload_n (d86_10 L xs) rfl ?_
  refine tg_if_lt (d86_11 L xs) (t := 20) (by decide) (fun h2 => ?_) (fun h2 => ?_)
  · exact tg_thr (d86_20 L xs) rfl (d86_23 L xs) (d86_24 L xs) (d86_27 L xs) (Nat.le_of_ble_eq_true rfl) rfl
  · refine tg_iload_n (d86_14 L xs) rfl ?_
    refine tg_bipush (d86_15 L xs) (x := 99) (by decide) ?_
    refine tg_icmp_le (d86_17 L xs) (t := 28) (by decide) (fun h3 => absurd h3 (Int32.not_le.mpr (hx.resolve_left (by assumption)))) (fun h3 => ?_)
    exact tg_thr (d86_20 L xs) rfl (d86_23 L xs) (d86_24 L xs) (d86_27 L xs) (Nat.le_of_ble_eq_true rfl) rfl
theorem gd_policy_t2 {c : Nat} (hl : hold s 1 l) (hok : t_name (gl l) 0 l.length = true) (hx : c ≤ 99) (hc : s.1 87 5 = -1) : th L xs (d + 4) 86 [.ref 0, .int (nI c)] s 2 := by
  refine tg_call (Nat.le_of_ble_eq_true rfl) ?_
  have hb1 : bI (t_name (t_at s 1 l.length) 0 l.length) = 1 := by rw [hold_at hl, hok]; rfl
  have hb0 : bI (decide (¬ s.1 87 5 = -1)) = 0 := by rw [decide_eq_false (fun q => q hc)]; rfl
  show wt L xs (d + 3) 86 0 [some (.ref 0), some (.int (nI c)), none] [] s _
  refine tg_aload_n (d86_0 L xs) rfl ?_
  refine tg_get (d86_1 L xs) (kd := 1) (cj := 0) (k0 := 0) rfl (Or.inl rfl) (by decide) rfl rfl ?_
  refine tg_invv (d86_4 L xs) (kd := 7) (mj := 46) (n := 0) rfl (Or.inl rfl) (ys := []) (r := []) rfl rfl (by decide) rfl rfl (Nat.le_of_ble_eq_true rfl) (rtx_isName0 isT_all.1 hl.1) ?_
  rintro _ _ ⟨rfl, rfl⟩ -
  refine tn_if_eq (d86_7 L xs) (x := bI (t_name (t_at s 1 l.length) 0 l.length)) (by omega) (t := 20) (by decide) (fun h1 => by omega) (fun h1 => ?_)
  refine tg_iload_n (d86_10 L xs) rfl ?_
  refine tn_if_lt (d86_11 L xs) (x := c) (by omega) (t := 20) (by decide) (fun h2 => by omega) (fun h2 => ?_)
  refine tg_iload_n (d86_14 L xs) rfl ?_
  refine tg_bipush (d86_15 L xs) (x := 99) (by decide) ?_
  refine tn_icmp_le (d86_17 L xs) (x := c) (y := 99) (by omega) (by omega) (t := 28) (by decide) (fun h3 => ?_) (fun h3 => by omega)
  refine tg_aload_n (d86_28 L xs) rfl ?_
  refine tg_get (d86_29 L xs) (kd := 1) (cj := 0) (k0 := 2) rfl (Or.inl rfl) (by decide) rfl rfl ?_
  refine tg_invv (d86_32 L xs) (kd := 7) (mj := 23) (n := 0) rfl (Or.inl rfl) (ys := []) (r := []) rfl rfl (by decide) rfl rfl (Nat.le_of_ble_eq_true rfl) rck_has ?_
  rintro _ _ ⟨rfl, rfl⟩ -
  refine tn_if_ne (d86_35 L xs) (x := bI (decide (¬ s.1 87 5 = -1))) (by omega) (t := 46) (by decide) (fun h4 => by omega) (fun h4 => ?_)
  exact tg_thr (d86_38 L xs) rfl (d86_41 L xs) (d86_42 L xs) (d86_45 L xs) (Nat.le_of_ble_eq_true rfl) rfl
end TC
