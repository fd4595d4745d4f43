/-! the same rules and contracts where nothing is written: the cells stay as they are -/
def rp (L : Nat) (xs : Nat → Int32) (d mi pc : Nat) (ls : ax_L) (st : List Value) (s : mg_s) (Q : Option Value → mg_s → Prop) : Prop := ∀ h, mg_S h s → ∃ v, ax_Go (mgT L xs) d mi pc ls st h (.inl v, h) ∧ Q v s
def rc (L : Nat) (xs : Nat → Int32) (d mj : Nat) (av : List Value) (s : mg_s) (Q : Option Value → mg_s → Prop) : Prop := ∀ h, mg_S h s → ∃ v, ax_Ca (mgT L xs) d mj av h (.inl v, h) ∧ Q v s
section RP
variable {L : Nat} {xs : Nat → Int32} {d mi pc : Nat} {ls : ax_L} {st : List Value} {s : mg_s} {Q : Option Value → mg_s → Prop}
theorem rp_st {pc' : Nat} {ls' : ax_L} {st' : List Value} (hs : ∀ h o, mg_S h s → ax_Go (mgT L xs) d mi pc' ls' st' h o → ax_Go (mgT L xs) d mi pc ls st h o) (k : rp L xs d mi pc' ls' st' s Q) : rp L xs d mi pc ls st s Q := by
  intro h S
  obtain ⟨v, g, q⟩ := k h S
  exact ⟨v, hs h _ S g, q⟩
theorem rp_ch (k : mg_ch s → rp L xs d mi pc ls st s Q) : rp L xs d mi pc ls st s Q := fun h S => k S.2.2 h S
theorem rc_deep {d' mj : Nat} {av : List Value} (hd : d ≤ d') (h : rc L xs d mj av s Q) : rc L xs d' mj av s Q := by
  intro h0 S
  obtain ⟨v, g, q⟩ := h h0 S
  exact ⟨v, ag_deep hd g, q⟩
theorem rg_iconst {n : Int} {x : Int32} (hd : decode (ax_code (mgT L xs) mi) pc = .ok (.iconst n, 1)) (hx : Int32.ofInt n = x) (k : rp L xs d mi (pc + 1) (ls) (.int x :: st) s Q) : rp L xs d mi pc ls (st) s Q := rp_st (fun h o _ k => ag_iconst hd hx k) k
theorem rg_bipush {n : Int} {x : Int32} (hd : decode (ax_code (mgT L xs) mi) pc = .ok (.bipush n, 2)) (hx : (Int8.ofInt n).toInt32 = x) (k : rp L xs d mi (pc + 2) (ls) (.int x :: st) s Q) : rp L xs d mi pc ls (st) s Q := rp_st (fun h o _ k => ag_bipush hd hx k) k
theorem rg_sipush {n : Int} {x : Int32} (hd : decode (ax_code (mgT L xs) mi) pc = .ok (.sipush n, 3)) (hx : (Int16.ofInt n).toInt32 = x) (k : rp L xs d mi (pc + 3) (ls) (.int x :: st) s Q) : rp L xs d mi pc ls (st) s Q := rp_st (fun h o _ k => ag_sipush hd hx k) k
theorem rg_lconst {n : Fin 2} {x : Int64} (hd : decode (ax_code (mgT L xs) mi) pc = .ok (.lconst n, 1)) (hx : Int64.ofNat (n : Nat) = x) (k : rp L xs d mi (pc + 1) (ls) (.long x :: st) s Q) : rp L xs d mi pc ls (st) s Q := rp_st (fun h o _ k => ag_lconst hd hx k) k
theorem rg_null (hd : decode (ax_code (mgT L xs) mi) pc = .ok (.aconst_null, 1)) (k : rp L xs d mi (pc + 1) (ls) (.null :: st) s Q) : rp L xs d mi pc ls (st) s Q := rp_st (fun h o _ k => ag_null hd k) k
theorem rg_iload {n : Nat} {x : Int32} (hd : decode (ax_code (mgT L xs) mi) pc = .ok (.iload n, 2)) (hx : ax_ld ls n = some (.int x)) (k : rp L xs d mi (pc + 2) (ls) (.int x :: st) s Q) : rp L xs d mi pc ls (st) s Q := rp_st (fun h o _ k => ag_iload hd hx k) k
theorem rg_iload_n {n : Fin 4} {x : Int32} (hd : decode (ax_code (mgT L xs) mi) pc = .ok (.iload_n n, 1)) (hx : ax_ld ls n = some (.int x)) (k : rp L xs d mi (pc + 1) (ls) (.int x :: st) s Q) : rp L xs d mi pc ls (st) s Q := rp_st (fun h o _ k => ag_iload_n hd hx k) k
theorem rg_lload {n : Nat} {x : Int64} (hd : decode (ax_code (mgT L xs) mi) pc = .ok (.lload n, 2)) (hx : ax_ld ls n = some (.long x)) (k : rp L xs d mi (pc + 2) (ls) (.long x :: st) s Q) : rp L xs d mi pc ls (st) s Q := rp_st (fun h o _ k => ag_lload hd hx k) k
theorem rg_lload_n {n : Fin 4} {x : Int64} (hd : decode (ax_code (mgT L xs) mi) pc = .ok (.lload_n n, 1)) (hx : ax_ld ls n = some (.long x)) (k : rp L xs d mi (pc + 1) (ls) (.long x :: st) s Q) : rp L xs d mi pc ls (st) s Q := rp_st (fun h o _ k => ag_lload_n hd hx k) k
theorem rg_aload {n : Nat} {x : Nat} (hd : decode (ax_code (mgT L xs) mi) pc = .ok (.aload n, 2)) (hx : ax_ld ls n = some (.ref x)) (k : rp L xs d mi (pc + 2) (ls) (.ref x :: st) s Q) : rp L xs d mi pc ls (st) s Q := rp_st (fun h o _ k => ag_aload hd hx k) k
theorem rg_aload_n {n : Fin 4} {x : Nat} (hd : decode (ax_code (mgT L xs) mi) pc = .ok (.aload_n n, 1)) (hx : ax_ld ls n = some (.ref x)) (k : rp L xs d mi (pc + 1) (ls) (.ref x :: st) s Q) : rp L xs d mi pc ls (st) s Q := rp_st (fun h o _ k => ag_aload_n hd hx k) k
theorem rg_aloadN {n : Nat} (hd : decode (ax_code (mgT L xs) mi) pc = .ok (.aload n, 2)) (hx : ax_ld ls n = some .null) (k : rp L xs d mi (pc + 2) (ls) (.null :: st) s Q) : rp L xs d mi pc ls (st) s Q := rp_st (fun h o _ k => ag_aloadN hd hx k) k
theorem rg_aload_nN {n : Fin 4} (hd : decode (ax_code (mgT L xs) mi) pc = .ok (.aload_n n, 1)) (hx : ax_ld ls n = some .null) (k : rp L xs d mi (pc + 1) (ls) (.null :: st) s Q) : rp L xs d mi pc ls (st) s Q := rp_st (fun h o _ k => ag_aload_nN hd hx k) k
theorem rg_istore {n : Nat} {x : Int32} {ls' : ax_L} (hd : decode (ax_code (mgT L xs) mi) pc = .ok (.istore n, 2)) (hn : n < ls.length) (hx : ax_set ls n (.int x) = ls') (k : rp L xs d mi (pc + 2) (ls') (st) s Q) : rp L xs d mi pc ls (.int x :: st) s Q := rp_st (fun h o _ k => ag_istore hd hn hx k) k
theorem rg_istore_n {n : Fin 4} {x : Int32} {ls' : ax_L} (hd : decode (ax_code (mgT L xs) mi) pc = .ok (.istore_n n, 1)) (hn : (n : Nat) < ls.length) (hx : ax_set ls n (.int x) = ls') (k : rp L xs d mi (pc + 1) (ls') (st) s Q) : rp L xs d mi pc ls (.int x :: st) s Q := rp_st (fun h o _ k => ag_istore_n hd hn hx k) k
theorem rg_lstore {n : Nat} {x : Int64} {ls' : ax_L} (hd : decode (ax_code (mgT L xs) mi) pc = .ok (.lstore n, 2)) (hn : n + 1 < ls.length) (hx : ax_set ls n (.long x) = ls') (k : rp L xs d mi (pc + 2) (ls') (st) s Q) : rp L xs d mi pc ls (.long x :: st) s Q := rp_st (fun h o _ k => ag_lstore hd hn hx k) k
theorem rg_lstore_n {n : Fin 4} {x : Int64} {ls' : ax_L} (hd : decode (ax_code (mgT L xs) mi) pc = .ok (.lstore_n n, 1)) (hn : (n : Nat) + 1 < ls.length) (hx : ax_set ls n (.long x) = ls') (k : rp L xs d mi (pc + 1) (ls') (st) s Q) : rp L xs d mi pc ls (.long x :: st) s Q := rp_st (fun h o _ k => ag_lstore_n hd hn hx k) k
theorem rg_astore {n : Nat} {x : Nat} {ls' : ax_L} (hd : decode (ax_code (mgT L xs) mi) pc = .ok (.astore n, 2)) (hn : n < ls.length) (hx : ax_set ls n (.ref x) = ls') (k : rp L xs d mi (pc + 2) (ls') (st) s Q) : rp L xs d mi pc ls (.ref x :: st) s Q := rp_st (fun h o _ k => ag_astore hd hn hx k) k
theorem rg_astore_n {n : Fin 4} {x : Nat} {ls' : ax_L} (hd : decode (ax_code (mgT L xs) mi) pc = .ok (.astore_n n, 1)) (hn : (n : Nat) < ls.length) (hx : ax_set ls n (.ref x) = ls') (k : rp L xs d mi (pc + 1) (ls') (st) s Q) : rp L xs d mi pc ls (.ref x :: st) s Q := rp_st (fun h o _ k => ag_astore_n hd hn hx k) k
theorem rg_astoreN {n : Nat} {ls' : ax_L} (hd : decode (ax_code (mgT L xs) mi) pc = .ok (.astore n, 2)) (hn : n < ls.length) (hx : ax_set ls n .null = ls') (k : rp L xs d mi (pc + 2) (ls') (st) s Q) : rp L xs d mi pc ls (.null :: st) s Q := rp_st (fun h o _ k => ag_astoreN hd hn hx k) k
theorem rg_astore_nN {n : Fin 4} {ls' : ax_L} (hd : decode (ax_code (mgT L xs) mi) pc = .ok (.astore_n n, 1)) (hn : (n : Nat) < ls.length) (hx : ax_set ls n .null = ls') (k : rp L xs d mi (pc + 1) (ls') (st) s Q) : rp L xs d mi pc ls (.null :: st) s Q := rp_st (fun h o _ k => ag_astore_nN hd hn hx k) k
theorem rg_iinc {n : Nat} {k0 : Int} {x y : Int32} {ls' : ax_L} (hd : decode (ax_code (mgT L xs) mi) pc = .ok (.iinc n k0, 3)) (hx : ax_ld ls n = some (.int x)) (hy : x + Int32.ofInt k0 = y) (hl : ax_set ls n (.int y) = ls') (k : rp L xs d mi (pc + 3) (ls') (st) s Q) : rp L xs d mi pc ls (st) s Q := rp_st (fun h o _ k => ag_iinc hd hx hy hl k) k
theorem rg_goto {off : Int} {t : Nat} (hd : decode (ax_code (mgT L xs) mi) pc = .ok (.goto off, 3)) (ht : ax_jmp pc off = some t) (k : rp L xs d mi (t) (ls) (st) s Q) : rp L xs d mi pc ls (st) s Q := rp_st (fun h o _ k => ag_goto hd ht k) k
theorem rg_ineg {x : Int32} (hd : decode (ax_code (mgT L xs) mi) pc = .ok (.ineg, 1)) (k : rp L xs d mi (pc + 1) (ls) (.int (-x) :: st) s Q) : rp L xs d mi pc ls (.int x :: st) s Q := rp_st (fun h o _ k => ag_ineg hd k) k
theorem rg_i2l {x : Int32} (hd : decode (ax_code (mgT L xs) mi) pc = .ok (.i2l, 1)) (k : rp L xs d mi (pc + 1) (ls) (.long x.toInt64 :: st) s Q) : rp L xs d mi pc ls (.int x :: st) s Q := rp_st (fun h o _ k => ag_i2l hd k) k
theorem rg_l2i {x : Int64} (hd : decode (ax_code (mgT L xs) mi) pc = .ok (.l2i, 1)) (k : rp L xs d mi (pc + 1) (ls) (.int x.toInt32 :: st) s Q) : rp L xs d mi pc ls (.long x :: st) s Q := rp_st (fun h o _ k => ag_l2i hd k) k
theorem rg_i2c {x : Int32} (hd : decode (ax_code (mgT L xs) mi) pc = .ok (.i2c, 1)) (k : rp L xs d mi (pc + 1) (ls) (.int (x.toUInt32 % 65536).toInt32 :: st) s Q) : rp L xs d mi pc ls (.int x :: st) s Q := rp_st (fun h o _ k => ag_i2c hd k) k
theorem rg_iadd {a b : Int32} (hd : decode (ax_code (mgT L xs) mi) pc = .ok (.iadd, 1)) (k : rp L xs d mi (pc + 1) (ls) (.int (a + b) :: st) s Q) : rp L xs d mi pc ls (.int b :: .int a :: st) s Q := rp_st (fun h o _ k => ag_iadd hd k) k
theorem rg_isub {a b : Int32} (hd : decode (ax_code (mgT L xs) mi) pc = .ok (.isub, 1)) (k : rp L xs d mi (pc + 1) (ls) (.int (a - b) :: st) s Q) : rp L xs d mi pc ls (.int b :: .int a :: st) s Q := rp_st (fun h o _ k => ag_isub hd k) k
theorem rg_imul {a b : Int32} (hd : decode (ax_code (mgT L xs) mi) pc = .ok (.imul, 1)) (k : rp L xs d mi (pc + 1) (ls) (.int (a * b) :: st) s Q) : rp L xs d mi pc ls (.int b :: .int a :: st) s Q := rp_st (fun h o _ k => ag_imul hd k) k
theorem rg_iand {a b : Int32} (hd : decode (ax_code (mgT L xs) mi) pc = .ok (.iand, 1)) (k : rp L xs d mi (pc + 1) (ls) (.int (a &&& b) :: st) s Q) : rp L xs d mi pc ls (.int b :: .int a :: st) s Q := rp_st (fun h o _ k => ag_iand hd k) k
theorem rg_ior {a b : Int32} (hd : decode (ax_code (mgT L xs) mi) pc = .ok (.ior, 1)) (k : rp L xs d mi (pc + 1) (ls) (.int (a ||| b) :: st) s Q) : rp L xs d mi pc ls (.int b :: .int a :: st) s Q := rp_st (fun h o _ k => ag_ior hd k) k
theorem rg_ixor {a b : Int32} (hd : decode (ax_code (mgT L xs) mi) pc = .ok (.ixor, 1)) (k : rp L xs d mi (pc + 1) (ls) (.int (a ^^^ b) :: st) s Q) : rp L xs d mi pc ls (.int b :: .int a :: st) s Q := rp_st (fun h o _ k => ag_ixor hd k) k
theorem rg_ishl {a b : Int32} (hd : decode (ax_code (mgT L xs) mi) pc = .ok (.ishl, 1)) (k : rp L xs d mi (pc + 1) (ls) (.int (a <<< (b &&& 31)) :: st) s Q) : rp L xs d mi pc ls (.int b :: .int a :: st) s Q := rp_st (fun h o _ k => ag_ishl hd k) k
theorem rg_ishr {a b : Int32} (hd : decode (ax_code (mgT L xs) mi) pc = .ok (.ishr, 1)) (k : rp L xs d mi (pc + 1) (ls) (.int (a >>> (b &&& 31)) :: st) s Q) : rp L xs d mi pc ls (.int b :: .int a :: st) s Q := rp_st (fun h o _ k => ag_ishr hd k) k
theorem rg_iushr {a b : Int32} (hd : decode (ax_code (mgT L xs) mi) pc = .ok (.iushr, 1)) (k : rp L xs d mi (pc + 1) (ls) (.int ((a.toUInt32 >>> (b.toUInt32 &&& Int32.toUInt32 31)).toInt32) :: st) s Q) : rp L xs d mi pc ls (.int b :: .int a :: st) s Q := rp_st (fun h o _ k => ag_iushr hd k) k
theorem rg_idiv {a b : Int32} (hd : decode (ax_code (mgT L xs) mi) pc = .ok (.idiv, 1)) (hb : ¬ b = 0) (k : rp L xs d mi (pc + 1) (ls) (.int (a / b) :: st) s Q) : rp L xs d mi pc ls (.int b :: .int a :: st) s Q := rp_st (fun h o _ k => ag_idiv hd hb k) k
theorem rg_irem {a b : Int32} (hd : decode (ax_code (mgT L xs) mi) pc = .ok (.irem, 1)) (hb : ¬ b = 0) (k : rp L xs d mi (pc + 1) (ls) (.int (a - a / b * b) :: st) s Q) : rp L xs d mi pc ls (.int b :: .int a :: st) s Q := rp_st (fun h o _ k => ag_irem hd hb k) k
theorem rg_ladd {a b : Int64} (hd : decode (ax_code (mgT L xs) mi) pc = .ok (.ladd, 1)) (k : rp L xs d mi (pc + 1) (ls) (.long (a + b) :: st) s Q) : rp L xs d mi pc ls (.long b :: .long a :: st) s Q := rp_st (fun h o _ k => ag_ladd hd k) k
theorem rg_land {a b : Int64} (hd : decode (ax_code (mgT L xs) mi) pc = .ok (.land, 1)) (k : rp L xs d mi (pc + 1) (ls) (.long (a &&& b) :: st) s Q) : rp L xs d mi pc ls (.long b :: .long a :: st) s Q := rp_st (fun h o _ k => ag_land hd k) k
theorem rg_lor {a b : Int64} (hd : decode (ax_code (mgT L xs) mi) pc = .ok (.lor, 1)) (k : rp L xs d mi (pc + 1) (ls) (.long (a ||| b) :: st) s Q) : rp L xs d mi pc ls (.long b :: .long a :: st) s Q := rp_st (fun h o _ k => ag_lor hd k) k
theorem rg_lcmp {a b : Int64} (hd : decode (ax_code (mgT L xs) mi) pc = .ok (.lcmp, 1)) (k : rp L xs d mi (pc + 1) (ls) (.int (lg_cmp a b) :: st) s Q) : rp L xs d mi pc ls (.long b :: .long a :: st) s Q := rp_st (fun h o _ k => ag_lcmp hd k) k
theorem rg_lshl {a : Int64} {b : Int32} (hd : decode (ax_code (mgT L xs) mi) pc = .ok (.lshl, 1)) (k : rp L xs d mi (pc + 1) (ls) (.long (a <<< (b.toInt64 &&& 63)) :: st) s Q) : rp L xs d mi pc ls (.int b :: .long a :: st) s Q := rp_st (fun h o _ k => ag_lshl hd k) k
theorem rg_lshr {a : Int64} {b : Int32} (hd : decode (ax_code (mgT L xs) mi) pc = .ok (.lshr, 1)) (k : rp L xs d mi (pc + 1) (ls) (.long (a >>> (b.toInt64 &&& 63)) :: st) s Q) : rp L xs d mi pc ls (.int b :: .long a :: st) s Q := rp_st (fun h o _ k => ag_lshr hd k) k
theorem rg_lushr {a : Int64} {b : Int32} (hd : decode (ax_code (mgT L xs) mi) pc = .ok (.lushr, 1)) (k : rp L xs d mi (pc + 1) (ls) (.long ((a.toUInt64 >>> (b.toInt64.toUInt64 &&& Int64.toUInt64 63)).toInt64) :: st) s Q) : rp L xs d mi pc ls (.int b :: .long a :: st) s Q := rp_st (fun h o _ k => ag_lushr hd k) k
theorem rg_dup {a : Value} (hd : decode (ax_code (mgT L xs) mi) pc = .ok (.dup, 1)) (ha : a.category = 1) (k : rp L xs d mi (pc + 1) (ls) (a :: a :: st) s Q) : rp L xs d mi pc ls (a :: st) s Q := rp_st (fun h o _ k => ag_dup hd ha k) k
theorem rg_pop {a : Value} (hd : decode (ax_code (mgT L xs) mi) pc = .ok (.pop, 1)) (ha : a.category = 1) (k : rp L xs d mi (pc + 1) (ls) (st) s Q) : rp L xs d mi pc ls (a :: st) s Q := rp_st (fun h o _ k => ag_pop hd ha k) k
theorem rg_dup_x1 {a b : Value} (hd : decode (ax_code (mgT L xs) mi) pc = .ok (.dup_x1, 1)) (ha : a.category = 1) (hb : b.category = 1) (k : rp L xs d mi (pc + 1) (ls) (a :: b :: a :: st) s Q) : rp L xs d mi pc ls (a :: b :: st) s Q := rp_st (fun h o _ k => ag_dup_x1 hd ha hb k) k
theorem rg_dup2 {a b : Value} (hd : decode (ax_code (mgT L xs) mi) pc = .ok (.dup2, 1)) (ha : a.category = 1) (hb : b.category = 1) (k : rp L xs d mi (pc + 1) (ls) (a :: b :: a :: b :: st) s Q) : rp L xs d mi pc ls (a :: b :: st) s Q := rp_st (fun h o _ k => ag_dup2 hd ha hb k) k
theorem rg_ifnull {a : Nat} {off : Int} (hd : decode (ax_code (mgT L xs) mi) pc = .ok (.ifnull off, 3)) (k : rp L xs d mi (pc + 3) (ls) (st) s Q) : rp L xs d mi pc ls (.ref a :: st) s Q := rp_st (fun h o _ k => ag_ifnull hd k) k
theorem rg_ifnullN {off : Int} {t : Nat} (hd : decode (ax_code (mgT L xs) mi) pc = .ok (.ifnull off, 3)) (ht : ax_jmp pc off = some t) (k : rp L xs d mi (t) (ls) (st) s Q) : rp L xs d mi pc ls (.null :: st) s Q := rp_st (fun h o _ k => ag_ifnullN hd ht k) k
theorem rg_ifnonnull {a : Nat} {off : Int} {t : Nat} (hd : decode (ax_code (mgT L xs) mi) pc = .ok (.ifnonnull off, 3)) (ht : ax_jmp pc off = some t) (k : rp L xs d mi (t) (ls) (st) s Q) : rp L xs d mi pc ls (.ref a :: st) s Q := rp_st (fun h o _ k => ag_ifnonnull hd ht k) k
theorem rg_ifnonnullN {off : Int} (hd : decode (ax_code (mgT L xs) mi) pc = .ok (.ifnonnull off, 3)) (k : rp L xs d mi (pc + 3) (ls) (st) s Q) : rp L xs d mi pc ls (.null :: st) s Q := rp_st (fun h o _ k => ag_ifnonnullN hd k) k
theorem rg_if_eq {x : Int32} {off : Int} {t : Nat} (hd : decode (ax_code (mgT L xs) mi) pc = .ok (.ifCond .eq off, 3)) (ht : ax_jmp pc off = some t) (kt : x = 0 → rp L xs d mi t ls st s Q) (kf : ¬ (x = 0) → rp L xs d mi (pc + 3) ls st s Q) : rp L xs d mi pc ls (.int x :: st) s Q := by
  by_cases hc : x = 0
  · exact rp_st (fun h o _ k => ag_if_eq hd ht (fun _ => k) (fun q => absurd hc q)) (kt hc)
  · exact rp_st (fun h o _ k => ag_if_eq hd ht (fun q => absurd q hc) (fun _ => k)) (kf hc)
theorem rg_icmp_eq {x y : Int32} {off : Int} {t : Nat} (hd : decode (ax_code (mgT L xs) mi) pc = .ok (.if_icmp .eq off, 3)) (ht : ax_jmp pc off = some t) (kt : x = y → rp L xs d mi t ls st s Q) (kf : ¬ (x = y) → rp L xs d mi (pc + 3) ls st s Q) : rp L xs d mi pc ls (.int y :: .int x :: st) s Q := by
  by_cases hc : x = y
  · exact rp_st (fun h o _ k => ag_icmp_eq hd ht (fun _ => k) (fun q => absurd hc q)) (kt hc)
  · exact rp_st (fun h o _ k => ag_icmp_eq hd ht (fun q => absurd q hc) (fun _ => k)) (kf hc)
theorem rg_if_ne {x : Int32} {off : Int} {t : Nat} (hd : decode (ax_code (mgT L xs) mi) pc = .ok (.ifCond .ne off, 3)) (ht : ax_jmp pc off = some t) (kt : ¬ x = 0 → rp L xs d mi t ls st s Q) (kf : ¬ (¬ x = 0) → rp L xs d mi (pc + 3) ls st s Q) : rp L xs d mi pc ls (.int x :: st) s Q := by
  by_cases hc : ¬ x = 0
  · exact rp_st (fun h o _ k => ag_if_ne hd ht (fun _ => k) (fun q => absurd hc q)) (kt hc)
  · exact rp_st (fun h o _ k => ag_if_ne hd ht (fun q => absurd q hc) (fun _ => k)) (kf hc)
theorem rg_icmp_ne {x y : Int32} {off : Int} {t : Nat} (hd : decode (ax_code (mgT L xs) mi) pc = .ok (.if_icmp .ne off, 3)) (ht : ax_jmp pc off = some t) (kt : ¬ x = y → rp L xs d mi t ls st s Q) (kf : ¬ (¬ x = y) → rp L xs d mi (pc + 3) ls st s Q) : rp L xs d mi pc ls (.int y :: .int x :: st) s Q := by
  by_cases hc : ¬ x = y
  · exact rp_st (fun h o _ k => ag_icmp_ne hd ht (fun _ => k) (fun q => absurd hc q)) (kt hc)
  · exact rp_st (fun h o _ k => ag_icmp_ne hd ht (fun q => absurd q hc) (fun _ => k)) (kf hc)
theorem rg_if_lt {x : Int32} {off : Int} {t : Nat} (hd : decode (ax_code (mgT L xs) mi) pc = .ok (.ifCond .lt off, 3)) (ht : ax_jmp pc off = some t) (kt : x < 0 → rp L xs d mi t ls st s Q) (kf : ¬ (x < 0) → rp L xs d mi (pc + 3) ls st s Q) : rp L xs d mi pc ls (.int x :: st) s Q := by
  by_cases hc : x < 0
  · exact rp_st (fun h o _ k => ag_if_lt hd ht (fun _ => k) (fun q => absurd hc q)) (kt hc)
  · exact rp_st (fun h o _ k => ag_if_lt hd ht (fun q => absurd q hc) (fun _ => k)) (kf hc)
theorem rg_icmp_lt {x y : Int32} {off : Int} {t : Nat} (hd : decode (ax_code (mgT L xs) mi) pc = .ok (.if_icmp .lt off, 3)) (ht : ax_jmp pc off = some t) (kt : x < y → rp L xs d mi t ls st s Q) (kf : ¬ (x < y) → rp L xs d mi (pc + 3) ls st s Q) : rp L xs d mi pc ls (.int y :: .int x :: st) s Q := by
  by_cases hc : x < y
  · exact rp_st (fun h o _ k => ag_icmp_lt hd ht (fun _ => k) (fun q => absurd hc q)) (kt hc)
  · exact rp_st (fun h o _ k => ag_icmp_lt hd ht (fun q => absurd q hc) (fun _ => k)) (kf hc)
theorem rg_if_ge {x : Int32} {off : Int} {t : Nat} (hd : decode (ax_code (mgT L xs) mi) pc = .ok (.ifCond .ge off, 3)) (ht : ax_jmp pc off = some t) (kt : 0 ≤ x → rp L xs d mi t ls st s Q) (kf : ¬ (0 ≤ x) → rp L xs d mi (pc + 3) ls st s Q) : rp L xs d mi pc ls (.int x :: st) s Q := by
  by_cases hc : 0 ≤ x
  · exact rp_st (fun h o _ k => ag_if_ge hd ht (fun _ => k) (fun q => absurd hc q)) (kt hc)
  · exact rp_st (fun h o _ k => ag_if_ge hd ht (fun q => absurd q hc) (fun _ => k)) (kf hc)
theorem rg_icmp_ge {x y : Int32} {off : Int} {t : Nat} (hd : decode (ax_code (mgT L xs) mi) pc = .ok (.if_icmp .ge off, 3)) (ht : ax_jmp pc off = some t) (kt : y ≤ x → rp L xs d mi t ls st s Q) (kf : ¬ (y ≤ x) → rp L xs d mi (pc + 3) ls st s Q) : rp L xs d mi pc ls (.int y :: .int x :: st) s Q := by
  by_cases hc : y ≤ x
  · exact rp_st (fun h o _ k => ag_icmp_ge hd ht (fun _ => k) (fun q => absurd hc q)) (kt hc)
  · exact rp_st (fun h o _ k => ag_icmp_ge hd ht (fun q => absurd q hc) (fun _ => k)) (kf hc)
theorem rg_if_gt {x : Int32} {off : Int} {t : Nat} (hd : decode (ax_code (mgT L xs) mi) pc = .ok (.ifCond .gt off, 3)) (ht : ax_jmp pc off = some t) (kt : 0 < x → rp L xs d mi t ls st s Q) (kf : ¬ (0 < x) → rp L xs d mi (pc + 3) ls st s Q) : rp L xs d mi pc ls (.int x :: st) s Q := by
  by_cases hc : 0 < x
  · exact rp_st (fun h o _ k => ag_if_gt hd ht (fun _ => k) (fun q => absurd hc q)) (kt hc)
  · exact rp_st (fun h o _ k => ag_if_gt hd ht (fun q => absurd q hc) (fun _ => k)) (kf hc)
theorem rg_icmp_gt {x y : Int32} {off : Int} {t : Nat} (hd : decode (ax_code (mgT L xs) mi) pc = .ok (.if_icmp .gt off, 3)) (ht : ax_jmp pc off = some t) (kt : y < x → rp L xs d mi t ls st s Q) (kf : ¬ (y < x) → rp L xs d mi (pc + 3) ls st s Q) : rp L xs d mi pc ls (.int y :: .int x :: st) s Q := by
  by_cases hc : y < x
  · exact rp_st (fun h o _ k => ag_icmp_gt hd ht (fun _ => k) (fun q => absurd hc q)) (kt hc)
  · exact rp_st (fun h o _ k => ag_icmp_gt hd ht (fun q => absurd q hc) (fun _ => k)) (kf hc)
theorem rg_if_le {x : Int32} {off : Int} {t : Nat} (hd : decode (ax_code (mgT L xs) mi) pc = .ok (.ifCond .le off, 3)) (ht : ax_jmp pc off = some t) (kt : x ≤ 0 → rp L xs d mi t ls st s Q) (kf : ¬ (x ≤ 0) → rp L xs d mi (pc + 3) ls st s Q) : rp L xs d mi pc ls (.int x :: st) s Q := by
  by_cases hc : x ≤ 0
  · exact rp_st (fun h o _ k => ag_if_le hd ht (fun _ => k) (fun q => absurd hc q)) (kt hc)
  · exact rp_st (fun h o _ k => ag_if_le hd ht (fun q => absurd q hc) (fun _ => k)) (kf hc)
theorem rg_icmp_le {x y : Int32} {off : Int} {t : Nat} (hd : decode (ax_code (mgT L xs) mi) pc = .ok (.if_icmp .le off, 3)) (ht : ax_jmp pc off = some t) (kt : x ≤ y → rp L xs d mi t ls st s Q) (kf : ¬ (x ≤ y) → rp L xs d mi (pc + 3) ls st s Q) : rp L xs d mi pc ls (.int y :: .int x :: st) s Q := by
  by_cases hc : x ≤ y
  · exact rp_st (fun h o _ k => ag_icmp_le hd ht (fun _ => k) (fun q => absurd hc q)) (kt hc)
  · exact rp_st (fun h o _ k => ag_icmp_le hd ht (fun q => absurd q hc) (fun _ => k)) (kf hc)
theorem rg_sald {j x : Int32} (hd : decode (ax_code (mgT L xs) mi) pc = .ok (.iaload, 1)) (hj : vp_in j L) (hx : xs j.toNatClampNeg = x) (k : rp L xs d mi (pc + 1) ls (.int x :: st) s Q) : rp L xs d mi pc ls (.int j :: .ref ax_big :: st) s Q := rp_st (fun h o _ k => ag_sald rfl hd hj hx k) k
theorem rg_slen (hd : decode (ax_code (mgT L xs) mi) pc = .ok (.arraylength, 1)) (k : rp L xs d mi (pc + 1) ls (.int (Int32.ofNat L) :: st) s Q) : rp L xs d mi pc ls (.ref ax_big :: st) s Q := rp_st (fun h o _ k => ag_slen rfl hd k) k
theorem rg_ldc2 {idx v x3 : Nat} (hd : decode (ax_code (mgT L xs) mi) pc = .ok (.ldc2_w idx, 3)) (hpl : ax_pl (mgT L xs) mi idx = (11, v, x3)) (k : rp L xs d mi (pc + 3) ls (.long (Int64.ofNat v) :: st) s Q) : rp L xs d mi pc ls st s Q := rp_st (fun h o _ k => ag_ldc2 hd hpl k) k
theorem rg_oini {idx a x2 x3 : Nat} (hd : decode (ax_code (mgT L xs) mi) pc = .ok (.invokespecial idx, 3)) (hpl : ax_pl (mgT L xs) mi idx = (9, x2, x3)) (hr : (st.map (fun v => v.category)).sum ≤ 8) (k : rp L xs d mi (pc + 3) ls st s Q) : rp L xs d mi pc ls (.ref a :: st) s Q := rp_st (fun h o _ k => ag_oini hd hpl hr k) k
theorem rg_top {x y : Int32} (e : x = y) (k : rp L xs d mi pc ls (.int y :: st) s Q) : rp L xs d mi pc ls (.int x :: st) s Q := rp_st (fun h o _ k => ag_top e k) k
theorem rg_ref {a b : Nat} (e : a = b) (k : rp L xs d mi pc ls (.ref b :: st) s Q) : rp L xs d mi pc ls (.ref a :: st) s Q := rp_st (fun h o _ k => ag_ref e k) k
theorem rg_tswIn {x : Int32} {dflt lo hi of : Int} {offs : Array Int} {len t : Nat} (hd : decode (ax_code (mgT L xs) mi) pc = .ok (.tableswitch dflt lo hi offs, len)) (h1 : ¬ (x.toInt < lo ∨ hi < x.toInt)) (ho : offs[(x.toInt - lo).toNat]? = some of) (ht : ax_jmp pc of = some t) (k : rp L xs d mi t ls st s Q) : rp L xs d mi pc ls (.int x :: st) s Q := rp_st (fun h o _ k => ag_tswIn hd h1 ho ht k) k
theorem rg_tswOut {x : Int32} {dflt lo hi : Int} {offs : Array Int} {len t : Nat} (hd : decode (ax_code (mgT L xs) mi) pc = .ok (.tableswitch dflt lo hi offs, len)) (h1 : x.toInt < lo ∨ hi < x.toInt) (ht : ax_jmp pc dflt = some t) (k : rp L xs d mi t ls st s Q) : rp L xs d mi pc ls (.int x :: st) s Q := rp_st (fun h o _ k => ag_tswOut hd h1 ht k) k
theorem rg_get {idx a cj k0 kd : Nat} {fs : List Value} {v : Value} (hd : decode (ax_code (mgT L xs) mi) pc = .ok (.getfield idx, 3)) (hpl : ax_pl (mgT L xs) mi idx = (kd, cj, k0)) (hkd : kd = 1 ∨ kd = 2) (hl : a < 167) (ha : mg_c s a = .inr (cj, fs)) (hv : fs[k0]? = some v) (k : rp L xs d mi (pc + 3) ls (v :: st) s Q) : rp L xs d mi pc ls (.ref a :: st) s Q :=
  rp_st (fun h o S k => ag_get hd hpl hkd (by rw [S.1 a hl, ha]) hv k) k
theorem rg_alen {a t n : Nat} {y : (Nat → Int32) ⊕ (Nat → Int64) ⊕ (Nat → UInt32) ⊕ (Nat → UInt64) ⊕ (Nat → Option Nat)} (hd : decode (ax_code (mgT L xs) mi) pc = .ok (.arraylength, 1)) (hl : a < 167) (ha : mg_c s a = .inl (t, n, y)) (ht : t < 5) (k : rp L xs d mi (pc + 1) ls (.int (nI n) :: st) s Q) : rp L xs d mi pc ls (.ref a :: st) s Q :=
  rp_st (fun h o S k => ag_alen hd ((S.1 a hl).trans (congrArg some ha)) (by have : ax_big = 1048576 := rfl; omega) ht k) k
theorem rg_iald {a n : Nat} {f : Nat → Int32} {j : Int32} (hd : decode (ax_code (mgT L xs) mi) pc = .ok (.iaload, 1)) (hl : a < 167) (ha : mg_c s a = .inl (0, n, .inl f)) (hj : vp_in j n) (k : rp L xs d mi (pc + 1) ls (.int (f j.toNatClampNeg) :: st) s Q) : rp L xs d mi pc ls (.int j :: .ref a :: st) s Q :=
  rp_st (fun h o S k => ag_iald hd ((S.1 a hl).trans (congrArg some ha)) (by have : ax_big = 1048576 := rfl; omega) rfl hj rfl k) k
theorem rg_cald {a n : Nat} {f : Nat → Int32} {j : Int32} (hd : decode (ax_code (mgT L xs) mi) pc = .ok (.caload, 1)) (hl : a < 167) (ha : mg_c s a = .inl (1, n, .inl f)) (hj : vp_in j n) (k : rp L xs d mi (pc + 1) ls (.int (f j.toNatClampNeg) :: st) s Q) : rp L xs d mi pc ls (.int j :: .ref a :: st) s Q :=
  rp_st (fun h o S k => ag_cald hd ((S.1 a hl).trans (congrArg some ha)) (by have : ax_big = 1048576 := rfl; omega) rfl hj rfl k) k
theorem rg_aald {a t n : Nat} {f : Nat → Option Nat} {C : String} {j : Int32} {v : Value} (hd : decode (ax_code (mgT L xs) mi) pc = .ok (.aaload, 1)) (hl : a < 167) (ha : mg_c s a = .inl (t, n, .inr (.inr (.inr (.inr f))))) (ht : (ax_ty (mgT L xs))[t]? = some (.object C)) (hj : vp_in j n) (hx : va_rf (f j.toNatClampNeg) = v) (k : rp L xs d mi (pc + 1) ls (v :: st) s Q) : rp L xs d mi pc ls (.int j :: .ref a :: st) s Q :=
  rp_st (fun h o S k => ag_aald hd ((S.1 a hl).trans (congrArg some ha)) (by have : ax_big = 1048576 := rfl; omega) ht hj hx k) k
theorem rg_vret (hd : decode (ax_code (mgT L xs) mi) pc = .ok (.return_, 1)) (hr : ax_rt (mgT L xs) mi = none) (q : Q none s) : rp L xs d mi pc ls [] s Q := fun h S => ⟨none, ag_vret hd hr, q⟩
theorem rg_iret {x : Int32} {ty : FieldType} (hd : decode (ax_code (mgT L xs) mi) pc = .ok (.ireturn, 1)) (hr : ax_rt (mgT L xs) mi = some ty) (hn : narrow ty (.int x) = .int x) (q : Q (some (.int x)) s) : rp L xs d mi pc ls [.int x] s Q := fun h S => ⟨_, ag_iret hd hr hn, q⟩
theorem rg_lret {x : Int64} (hd : decode (ax_code (mgT L xs) mi) pc = .ok (.lreturn, 1)) (hr : ax_rt (mgT L xs) mi = some .long) (q : Q (some (.long x)) s) : rp L xs d mi pc ls [.long x] s Q := fun h S => ⟨_, ag_lret hd hr, q⟩
theorem rg_aret {x : Nat} {C : String} (hd : decode (ax_code (mgT L xs) mi) pc = .ok (.areturn, 1)) (hr : ax_rt (mgT L xs) mi = some (.object C)) (q : Q (some (.ref x)) s) : rp L xs d mi pc ls [.ref x] s Q := fun h S => ⟨_, ag_aret hd hr, q⟩
theorem rg_aretN {C : String} (hd : decode (ax_code (mgT L xs) mi) pc = .ok (.areturn, 1)) (hr : ax_rt (mgT L xs) mi = some (.object C)) (q : Q (some .null) s) : rp L xs d mi pc ls [.null] s Q := fun h S => ⟨_, ag_aretN hd hr, q⟩
theorem rg_call {av : List Value} (hl : (ax_sl av).length ≤ ax_mx (mgT L xs) mi) (k : rp L xs d mi 0 (ax_entry (mgT L xs) mi av) [] s Q) : rc L xs (d + 1) mi av s Q := by
  intro h S
  obtain ⟨v, g, q⟩ := k h S
  exact ⟨v, ag_call hl g, q⟩
theorem rg_invs {idx mj n kd : Nat} {st0 ys r : List Value} {Qc : Option Value → mg_s → Prop} (hd : decode (ax_code (mgT L xs) mi) pc = .ok (.invokestatic idx, 3)) (hpl : ax_pl (mgT L xs) mi idx = (kd, mj, n)) (hkd : kd = 6 ∨ kd = 16 ∨ kd = 26) (hst : st0 = ys ++ r) (hn : ys.length = n) (hr : (r.map (fun v => v.category)).sum ≤ 8) (hc : rc L xs d mj ys.reverse s Qc) (k : ∀ v s', Qc v s' → s' = s → rp L xs d mi (pc + 3) ls (v.toList ++ r) s' Q) : rp L xs d mi pc ls st0 s Q := by
  intro h S
  obtain ⟨v, g1, q1⟩ := hc h S
  obtain ⟨w, g2, q2⟩ := k v s q1 rfl h S
  exact ⟨w, ag_invs hd hpl hkd hst hn hr g1 g2, q2⟩
theorem rg_invv {idx mj n kd a ci : Nat} {st0 ys r fs : List Value} {Qc : Option Value → mg_s → Prop} (hd : decode (ax_code (mgT L xs) mi) pc = .ok (.invokevirtual idx, 3)) (hpl : ax_pl (mgT L xs) mi idx = (kd, mj, n)) (hkd : kd = 7 ∨ kd = 17) (hst : st0 = ys ++ .ref a :: r) (hn : ys.length = n) (hl : a < 167) (ha : mg_c s a = .inr (ci, fs)) (hC : ((ax_cl (mgT L xs))[ci]?).map (fun q => q.1) = some (ax_nm (mgT L xs) mj).cls) (hr : (r.map (fun v => v.category)).sum ≤ 8) (hc : rc L xs d mj (.ref a :: ys.reverse) s Qc) (k : ∀ v s', Qc v s' → s' = s → rp L xs d mi (pc + 3) ls (v.toList ++ r) s' Q) : rp L xs d mi pc ls st0 s Q := by
  intro h S
  obtain ⟨v, g1, q1⟩ := hc h S
  obtain ⟨w, g2, q2⟩ := k v s q1 rfl h S
  exact ⟨w, ag_invv hd hpl hkd hst hn ((S.1 a hl).trans (congrArg some ha)) hC hr g1 g2, q2⟩
end RP
section RN
variable {L : Nat} {xs : Nat → Int32} {d mi pc : Nat} {ls : ax_L} {st : List Value} {s : mg_s} {Q : Option Value → mg_s → Prop} {x y t : Nat} {off : Int}
theorem rn_icmp_lt (hd : decode (ax_code (mgT L xs) mi) pc = .ok (.if_icmp .lt off, 3)) (hx : x < 2 ^ 31) (hy : y < 2 ^ 31) (ht : ax_jmp pc off = some t) (kt : x < y → rp L xs d mi t ls st s Q) (kf : y ≤ x → rp L xs d mi (pc + 3) ls st s Q) : rp L xs d mi pc ls (.int (nI y) :: .int (nI x) :: st) s Q :=
  rg_icmp_lt hd ht (fun q => kt ((nI_ltI hx hy).mp q)) (fun q => kf (Nat.not_lt.mp (fun r => q ((nI_ltI hx hy).mpr r))))
theorem rn_icmp_ge (hd : decode (ax_code (mgT L xs) mi) pc = .ok (.if_icmp .ge off, 3)) (hx : x < 2 ^ 31) (hy : y < 2 ^ 31) (ht : ax_jmp pc off = some t) (kt : y ≤ x → rp L xs d mi t ls st s Q) (kf : x < y → rp L xs d mi (pc + 3) ls st s Q) : rp L xs d mi pc ls (.int (nI y) :: .int (nI x) :: st) s Q :=
  rg_icmp_ge hd ht (fun q => kt ((nI_leI hy hx).mp q)) (fun q => kf (Nat.not_le.mp (fun r => q ((nI_leI hy hx).mpr r))))
theorem rn_icmp_gt (hd : decode (ax_code (mgT L xs) mi) pc = .ok (.if_icmp .gt off, 3)) (hx : x < 2 ^ 31) (hy : y < 2 ^ 31) (ht : ax_jmp pc off = some t) (kt : y < x → rp L xs d mi t ls st s Q) (kf : x ≤ y → rp L xs d mi (pc + 3) ls st s Q) : rp L xs d mi pc ls (.int (nI y) :: .int (nI x) :: st) s Q :=
  rg_icmp_gt hd ht (fun q => kt ((nI_ltI hy hx).mp q)) (fun q => kf (Nat.not_lt.mp (fun r => q ((nI_ltI hy hx).mpr r))))
theorem rn_icmp_le (hd : decode (ax_code (mgT L xs) mi) pc = .ok (.if_icmp .le off, 3)) (hx : x < 2 ^ 31) (hy : y < 2 ^ 31) (ht : ax_jmp pc off = some t) (kt : x ≤ y → rp L xs d mi t ls st s Q) (kf : y < x → rp L xs d mi (pc + 3) ls st s Q) : rp L xs d mi pc ls (.int (nI y) :: .int (nI x) :: st) s Q :=
  rg_icmp_le hd ht (fun q => kt ((nI_leI hx hy).mp q)) (fun q => kf (Nat.not_le.mp (fun r => q ((nI_leI hx hy).mpr r))))
theorem rn_icmp_eq (hd : decode (ax_code (mgT L xs) mi) pc = .ok (.if_icmp .eq off, 3)) (hx : x < 2 ^ 31) (hy : y < 2 ^ 31) (ht : ax_jmp pc off = some t) (kt : x = y → rp L xs d mi t ls st s Q) (kf : ¬ x = y → rp L xs d mi (pc + 3) ls st s Q) : rp L xs d mi pc ls (.int (nI y) :: .int (nI x) :: st) s Q :=
  rg_icmp_eq hd ht (fun q => kt ((nI_eq hx hy).mp q)) (fun q => kf (fun r => q ((nI_eq hx hy).mpr r)))
theorem rn_icmp_ne (hd : decode (ax_code (mgT L xs) mi) pc = .ok (.if_icmp .ne off, 3)) (hx : x < 2 ^ 31) (hy : y < 2 ^ 31) (ht : ax_jmp pc off = some t) (kt : ¬ x = y → rp L xs d mi t ls st s Q) (kf : x = y → rp L xs d mi (pc + 3) ls st s Q) : rp L xs d mi pc ls (.int (nI y) :: .int (nI x) :: st) s Q :=
  rg_icmp_ne hd ht (fun q => kt (fun r => q ((nI_eq hx hy).mpr r))) (fun q => kf (Classical.byContradiction (fun r => q (fun r2 => r ((nI_eq hx hy).mp r2)))))
theorem rn_if_lt (hd : decode (ax_code (mgT L xs) mi) pc = .ok (.ifCond .lt off, 3)) (hx : x < 2 ^ 31) (ht : ax_jmp pc off = some t) (kt : x < 0 → rp L xs d mi t ls st s Q) (kf : 0 ≤ x → rp L xs d mi (pc + 3) ls st s Q) : rp L xs d mi pc ls (.int (nI x) :: st) s Q :=
  rg_if_lt hd ht (fun q => kt ((nI_ltI hx (by decide : 0 < 2 ^ 31)).mp q)) (fun q => kf (Nat.zero_le _))
theorem rn_if_ge (hd : decode (ax_code (mgT L xs) mi) pc = .ok (.ifCond .ge off, 3)) (hx : x < 2 ^ 31) (ht : ax_jmp pc off = some t) (kt : 0 ≤ x → rp L xs d mi t ls st s Q) (kf : x < 0 → rp L xs d mi (pc + 3) ls st s Q) : rp L xs d mi pc ls (.int (nI x) :: st) s Q :=
  rg_if_ge hd ht (fun q => kt (Nat.zero_le _)) (fun q => kf (absurd ((nI_leI (by decide : 0 < 2 ^ 31) hx).mpr (Nat.zero_le _)) q))
theorem rn_if_gt (hd : decode (ax_code (mgT L xs) mi) pc = .ok (.ifCond .gt off, 3)) (hx : x < 2 ^ 31) (ht : ax_jmp pc off = some t) (kt : 0 < x → rp L xs d mi t ls st s Q) (kf : x = 0 → rp L xs d mi (pc + 3) ls st s Q) : rp L xs d mi pc ls (.int (nI x) :: st) s Q :=
  rg_if_gt hd ht (fun q => kt ((nI_ltI (by decide : 0 < 2 ^ 31) hx).mp q)) (fun q => kf (Nat.eq_zero_of_not_pos (fun r => q ((nI_ltI (by decide : 0 < 2 ^ 31) hx).mpr r))))
theorem rn_if_le (hd : decode (ax_code (mgT L xs) mi) pc = .ok (.ifCond .le off, 3)) (hx : x < 2 ^ 31) (ht : ax_jmp pc off = some t) (kt : x = 0 → rp L xs d mi t ls st s Q) (kf : 0 < x → rp L xs d mi (pc + 3) ls st s Q) : rp L xs d mi pc ls (.int (nI x) :: st) s Q :=
  rg_if_le hd ht (fun q => kt (Nat.le_zero.mp ((nI_leI hx (by decide : 0 < 2 ^ 31)).mp q))) (fun q => kf (Nat.pos_of_ne_zero (fun r => q ((nI_leI hx (by decide : 0 < 2 ^ 31)).mpr (by omega)))))
theorem rn_if_eq (hd : decode (ax_code (mgT L xs) mi) pc = .ok (.ifCond .eq off, 3)) (hx : x < 2 ^ 31) (ht : ax_jmp pc off = some t) (kt : x = 0 → rp L xs d mi t ls st s Q) (kf : ¬ x = 0 → rp L xs d mi (pc + 3) ls st s Q) : rp L xs d mi pc ls (.int (nI x) :: st) s Q :=
  rg_if_eq hd ht (fun q => kt ((nI_eq hx (by decide : 0 < 2 ^ 31)).mp q)) (fun q => kf (fun r => q ((nI_eq hx (by decide : 0 < 2 ^ 31)).mpr r)))
theorem rn_if_ne (hd : decode (ax_code (mgT L xs) mi) pc = .ok (.ifCond .ne off, 3)) (hx : x < 2 ^ 31) (ht : ax_jmp pc off = some t) (kt : ¬ x = 0 → rp L xs d mi t ls st s Q) (kf : x = 0 → rp L xs d mi (pc + 3) ls st s Q) : rp L xs d mi pc ls (.int (nI x) :: st) s Q :=
  rg_if_ne hd ht (fun q => kt (fun r => q ((nI_eq hx (by decide : 0 < 2 ^ 31)).mpr r))) (fun q => kf (Classical.byContradiction (fun r => q (fun r2 => r ((nI_eq hx (by decide : 0 < 2 ^ 31)).mp r2)))))
end RN
section RT
variable {L : Nat} {xs : Nat → Int32} {d : Nat} {s : mg_s} {a n : Nat} {l : List Nat}
theorem rtx_size (H : isT a) (hn : isTx s a n) : rc L xs (d + 1) 15 [.ref a] s (fun v s' => v = some (.int (nI n)) ∧ s = s') := by
  refine rg_call (Nat.le_of_ble_eq_true rfl) ?_
  show rp L xs d 15 0 [some (.ref a)] [] s _
  refine rg_aload_n (d15_0 L xs) rfl ?_
  refine rg_get (d15_1 L xs) (kd := 1) (cj := 1) (k0 := 1) rfl (Or.inl rfl) H.1 (tx_c H) rfl ?_
  refine rg_top (y := (nI n)) hn.1 ?_
  exact rg_iret (d15_4 L xs) rfl rfl ⟨rfl, rfl⟩
theorem rtx_at {i : Nat} (H : isT a) (hn : isTx s a n) (hi : i < 2 ^ 31) : rc L xs (d + 1) 31 [.ref a, .int (nI i)] s (fun v s' => v = some (.int (nI (t_at s a n i))) ∧ s = s') := by
  refine rg_call (Nat.le_of_ble_eq_true rfl) ?_
  have hlim := tx_m H
  have hn2 := hn.2
  refine rp_ch (fun hch => ?_)
  show rp L xs d 31 0 [some (.ref a), some (.int (nI i))] [] s _
  refine rg_iload_n (d31_0 L xs) rfl ?_
  refine rn_if_lt (d31_1 L xs) (x := i) (by omega) (t := 21) (by decide) (fun h1 => by omega) (fun h1 => ?_)
  refine rg_iload_n (d31_4 L xs) rfl ?_
  refine rg_aload_n (d31_5 L xs) rfl ?_
  refine rg_get (d31_6 L xs) (kd := 1) (cj := 1) (k0 := 1) rfl (Or.inl rfl) H.1 (tx_c H) rfl ?_
  refine rg_top (y := (nI n)) hn.1 ?_
  refine rn_icmp_ge (d31_9 L xs) (x := i) (y := n) (by omega) (by omega) (t := 21) (by decide) (fun h2 => ?_) (fun h2 => ?_)
  · refine rg_iconst (d31_21 L xs) (x := 0) (by decide) ?_
    exact rg_iret (d31_22 L xs) rfl rfl ⟨by rw [t_at, if_neg (by omega)]; rfl, rfl⟩
  · refine rg_aload_n (d31_12 L xs) rfl ?_
    refine rg_get (d31_13 L xs) (kd := 1) (cj := 1) (k0 := 0) rfl (Or.inl rfl) H.1 (tx_c H) rfl ?_
    refine rg_iload_n (d31_16 L xs) rfl ?_
    refine rg_cald (d31_17 L xs) (tx_l H) (tx_d H) (vp_in_nI (n := i) (by omega) (by omega)) ?_
    refine rg_top (y := s.2.1 (a + 1) i) (by rw [nI_nat (by omega)]) ?_
    refine rg_goto (d31_18 L xs) (t := 22) (by decide) ?_
    exact rg_iret (d31_22 L xs) rfl (nar_eq (hch (a + 1) (tx_l H) (tx_all a H.1 H.2).2.1 i (show i < tlim a by omega))) ⟨by rw [t_at, if_pos (by omega), (nar_nat (hch (a + 1) (tx_l H) (tx_all a H.1 H.2).2.1 i (show i < tlim a by omega))).1], rfl⟩
theorem rtx_lab {c : Nat} (hc : c < 65536) : rc L xs (d + 1) 39 [.int (nI c)] s (fun v s' => v = some (.int (nI (bI (c_lab c)))) ∧ s = s') := by
  refine rg_call (Nat.le_of_ble_eq_true rfl) ?_
  show rp L xs d 39 0 [some (.int (nI c))] [] s _
  refine rg_iload_n (d39_0 L xs) rfl ?_
  refine rg_bipush (d39_1 L xs) (x := 97) (by decide) ?_
  refine rn_icmp_lt (d39_3 L xs) (x := c) (y := 97) (by omega) (by omega) (t := 12) (by decide) (fun h1 => ?_) (fun h1 => ?_)
  · refine rg_iload_n (d39_12 L xs) rfl ?_
    refine rg_bipush (d39_13 L xs) (x := 48) (by decide) ?_
    refine rn_icmp_lt (d39_15 L xs) (x := c) (y := 48) (by omega) (by omega) (t := 24) (by decide) (fun h2 => ?_) (fun h2 => ?_)
    · refine rg_iload_n (d39_24 L xs) rfl ?_
      refine rg_bipush (d39_25 L xs) (x := 45) (by decide) ?_
      refine rn_icmp_eq (d39_27 L xs) (x := c) (y := 45) (by omega) (by omega) (t := 36) (by decide) (fun h3 => ?_) (fun h3 => ?_)
      · refine rg_iconst (d39_36 L xs) (x := 1) (by decide) ?_
        refine rg_goto (d39_37 L xs) (t := 41) (by decide) ?_
        exact rg_iret (d39_41 L xs) rfl rfl ⟨by rw [show c_lab c = true by simp [c_lab]; omega]; rfl, rfl⟩
      · refine rg_iload_n (d39_30 L xs) rfl ?_
        refine rg_bipush (d39_31 L xs) (x := 95) (by decide) ?_
        refine rn_icmp_ne (d39_33 L xs) (x := c) (y := 95) (by omega) (by omega) (t := 40) (by decide) (fun h4 => ?_) (fun h4 => ?_)
        · refine rg_iconst (d39_40 L xs) (x := 0) (by decide) ?_
          exact rg_iret (d39_41 L xs) rfl rfl ⟨by rw [show c_lab c = false by simp [c_lab]; omega]; rfl, rfl⟩
        · refine rg_iconst (d39_36 L xs) (x := 1) (by decide) ?_
          refine rg_goto (d39_37 L xs) (t := 41) (by decide) ?_
          exact rg_iret (d39_41 L xs) rfl rfl ⟨by rw [show c_lab c = true by simp [c_lab]; omega]; rfl, rfl⟩
    · refine rg_iload_n (d39_18 L xs) rfl ?_
      refine rg_bipush (d39_19 L xs) (x := 57) (by decide) ?_
      refine rn_icmp_le (d39_21 L xs) (x := c) (y := 57) (by omega) (by omega) (t := 36) (by decide) (fun h5 => ?_) (fun h5 => ?_)
      · refine rg_iconst (d39_36 L xs) (x := 1) (by decide) ?_
        refine rg_goto (d39_37 L xs) (t := 41) (by decide) ?_
        exact rg_iret (d39_41 L xs) rfl rfl ⟨by rw [show c_lab c = true by simp [c_lab]; omega]; rfl, rfl⟩
      · refine rg_iload_n (d39_24 L xs) rfl ?_
        refine rg_bipush (d39_25 L xs) (x := 45) (by decide) ?_
        refine rn_icmp_eq (d39_27 L xs) (x := c) (y := 45) (by omega) (by omega) (t := 36) (by decide) (fun h6 => ?_) (fun h6 => ?_)
        · refine rg_iconst (d39_36 L xs) (x := 1) (by decide) ?_
          refine rg_goto (d39_37 L xs) (t := 41) (by decide) ?_
          exact rg_iret (d39_41 L xs) rfl rfl ⟨by rw [show c_lab c = true by simp [c_lab]; omega]; rfl, rfl⟩
        · refine rg_iload_n (d39_30 L xs) rfl ?_
          refine rg_bipush (d39_31 L xs) (x := 95) (by decide) ?_
          refine rn_icmp_ne (d39_33 L xs) (x := c) (y := 95) (by omega) (by omega) (t := 40) (by decide) (fun h7 => ?_) (fun h7 => ?_)
          · refine rg_iconst (d39_40 L xs) (x := 0) (by decide) ?_
            exact rg_iret (d39_41 L xs) rfl rfl ⟨by rw [show c_lab c = false by simp [c_lab]; omega]; rfl, rfl⟩
          · refine rg_iconst (d39_36 L xs) (x := 1) (by decide) ?_
            refine rg_goto (d39_37 L xs) (t := 41) (by decide) ?_
            exact rg_iret (d39_41 L xs) rfl rfl ⟨by rw [show c_lab c = true by simp [c_lab]; omega]; rfl, rfl⟩
  · refine rg_iload_n (d39_6 L xs) rfl ?_
    refine rg_bipush (d39_7 L xs) (x := 122) (by decide) ?_
    refine rn_icmp_le (d39_9 L xs) (x := c) (y := 122) (by omega) (by omega) (t := 36) (by decide) (fun h8 => ?_) (fun h8 => ?_)
    · refine rg_iconst (d39_36 L xs) (x := 1) (by decide) ?_
      refine rg_goto (d39_37 L xs) (t := 41) (by decide) ?_
      exact rg_iret (d39_41 L xs) rfl rfl ⟨by rw [show c_lab c = true by simp [c_lab]; omega]; rfl, rfl⟩
    · refine rg_iload_n (d39_12 L xs) rfl ?_
      refine rg_bipush (d39_13 L xs) (x := 48) (by decide) ?_
      refine rn_icmp_lt (d39_15 L xs) (x := c) (y := 48) (by omega) (by omega) (t := 24) (by decide) (fun h9 => ?_) (fun h9 => ?_)
      · refine rg_iload_n (d39_24 L xs) rfl ?_
        refine rg_bipush (d39_25 L xs) (x := 45) (by decide) ?_
        refine rn_icmp_eq (d39_27 L xs) (x := c) (y := 45) (by omega) (by omega) (t := 36) (by decide) (fun h10 => ?_) (fun h10 => ?_)
        · refine rg_iconst (d39_36 L xs) (x := 1) (by decide) ?_
          refine rg_goto (d39_37 L xs) (t := 41) (by decide) ?_
          exact rg_iret (d39_41 L xs) rfl rfl ⟨by rw [show c_lab c = true by simp [c_lab]; omega]; rfl, rfl⟩
        · refine rg_iload_n (d39_30 L xs) rfl ?_
          refine rg_bipush (d39_31 L xs) (x := 95) (by decide) ?_
          refine rn_icmp_ne (d39_33 L xs) (x := c) (y := 95) (by omega) (by omega) (t := 40) (by decide) (fun h11 => ?_) (fun h11 => ?_)
          · refine rg_iconst (d39_40 L xs) (x := 0) (by decide) ?_
            exact rg_iret (d39_41 L xs) rfl rfl ⟨by rw [show c_lab c = false by simp [c_lab]; omega]; rfl, rfl⟩
          · refine rg_iconst (d39_36 L xs) (x := 1) (by decide) ?_
            refine rg_goto (d39_37 L xs) (t := 41) (by decide) ?_
            exact rg_iret (d39_41 L xs) rfl rfl ⟨by rw [show c_lab c = true by simp [c_lab]; omega]; rfl, rfl⟩
      · refine rg_iload_n (d39_18 L xs) rfl ?_
        refine rg_bipush (d39_19 L xs) (x := 57) (by decide) ?_
        refine rn_icmp_le (d39_21 L xs) (x := c) (y := 57) (by omega) (by omega) (t := 36) (by decide) (fun h12 => ?_) (fun h12 => ?_)
        · refine rg_iconst (d39_36 L xs) (x := 1) (by decide) ?_
          refine rg_goto (d39_37 L xs) (t := 41) (by decide) ?_
          exact rg_iret (d39_41 L xs) rfl rfl ⟨by rw [show c_lab c = true by simp [c_lab]; omega]; rfl, rfl⟩
        · refine rg_iload_n (d39_24 L xs) rfl ?_
          refine rg_bipush (d39_25 L xs) (x := 45) (by decide) ?_
          refine rn_icmp_eq (d39_27 L xs) (x := c) (y := 45) (by omega) (by omega) (t := 36) (by decide) (fun h13 => ?_) (fun h13 => ?_)
          · refine rg_iconst (d39_36 L xs) (x := 1) (by decide) ?_
            refine rg_goto (d39_37 L xs) (t := 41) (by decide) ?_
            exact rg_iret (d39_41 L xs) rfl rfl ⟨by rw [show c_lab c = true by simp [c_lab]; omega]; rfl, rfl⟩
          · refine rg_iload_n (d39_30 L xs) rfl ?_
            refine rg_bipush (d39_31 L xs) (x := 95) (by decide) ?_
            refine rn_icmp_ne (d39_33 L xs) (x := c) (y := 95) (by omega) (by omega) (t := 40) (by decide) (fun h14 => ?_) (fun h14 => ?_)
            · refine rg_iconst (d39_40 L xs) (x := 0) (by decide) ?_
              exact rg_iret (d39_41 L xs) rfl rfl ⟨by rw [show c_lab c = false by simp [c_lab]; omega]; rfl, rfl⟩
            · refine rg_iconst (d39_36 L xs) (x := 1) (by decide) ?_
              refine rg_goto (d39_37 L xs) (t := 41) (by decide) ?_
              exact rg_iret (d39_41 L xs) rfl rfl ⟨by rw [show c_lab c = true by simp [c_lab]; omega]; rfl, rfl⟩
theorem rtx_find_l {c fr to : Nat} (H : isT a) (hn : isTx s a n) (hc : c < 65536) (hto : to < 2 ^ 30) : ∀ (m i : Nat), i + m = to → rp L xs (d + 1) 37 3 [some (.ref a), some (.int (nI c)), some (.int (nI fr)), some (.int (nI to)), some (.int (nI i))] [] s (fun v s' => v = some (.int (nI (f_find (t_at s a n) c i m))) ∧ s = s') := by
  have hlim := tx_m H
  have hn2 := hn.2
  intro m
  induction m with
  | zero =>
    intro i hi
    refine rg_iload (d37_3 L xs) rfl ?_
    refine rg_iload_n (d37_5 L xs) rfl ?_
    refine rn_icmp_ge (d37_6 L xs) (x := i) (y := to) (by omega) (by omega) (t := 28) (by decide) (fun h1 => ?_) (fun h1 => by omega)
    refine rg_iload_n (d37_28 L xs) rfl ?_
    exact rg_iret (d37_29 L xs) rfl rfl ⟨by rw [f_find, show to = i by omega], rfl⟩
  | succ m ih =>
    intro i hi
    refine rp_ch (fun hch => ?_)
    have hg : ∀ j, t_at s a n j < 65536 := fun j => t_at_lt H hn hch
    have hg0 := hg i
    refine rg_iload (d37_3 L xs) rfl ?_
    refine rg_iload_n (d37_5 L xs) rfl ?_
    refine rn_icmp_ge (d37_6 L xs) (x := i) (y := to) (by omega) (by omega) (t := 28) (by decide) (fun h1 => by omega) (fun h1 => ?_)
    refine rg_aload_n (d37_9 L xs) rfl ?_
    refine rg_iload (d37_10 L xs) rfl ?_
    refine rg_invv (d37_12 L xs) (kd := 7) (mj := 31) (n := 1) rfl (Or.inl rfl) (ys := [.int (nI i)]) (r := []) rfl rfl H.1 (tx_c H) rfl (Nat.le_of_ble_eq_true rfl) (rtx_at (i := i) H hn (by omega)) ?_
    rintro _ _ ⟨rfl, rfl⟩ -
    refine rg_iload_n (d37_15 L xs) rfl ?_
    refine rn_icmp_ne (d37_16 L xs) (x := t_at s a n i) (y := c) (by omega) (by omega) (t := 22) (by decide) (fun h2 => ?_) (fun h2 => ?_)
    · refine rg_iinc (d37_22 L xs) (y := (nI (i + 1))) (ls' := [some (.ref a), some (.int (nI c)), some (.int (nI fr)), some (.int (nI to)), some (.int (nI (i + 1)))]) rfl (nI_add i 1) rfl ?_
      refine rg_goto (d37_25 L xs) (t := 3) (by decide) ?_
      rw [show f_find (t_at s a n) c i (m + 1) = f_find (t_at s a n) c (i + 1) m from if_neg (by omega)]; exact ih (i + 1) (by omega)
    · refine rg_iload (d37_19 L xs) rfl ?_
      exact rg_iret (d37_21 L xs) rfl rfl ⟨by rw [f_find, if_pos (by omega)], rfl⟩
theorem rtx_find {c fr to : Nat} (H : isT a) (hn : isTx s a n) (hc : c < 65536) (hto : to < 2 ^ 30) (hf : fr ≤ to) : rc L xs (d + 2) 37 [.ref a, .int (nI c), .int (nI fr), .int (nI to)] s (fun v s' => v = some (.int (nI (f_find (t_at s a n) c fr (to - fr)))) ∧ s = s') := by
  refine rg_call (Nat.le_of_ble_eq_true rfl) ?_
  have hlim := tx_m H
  have hn2 := hn.2
  show rp L xs (d + 1) 37 0 [some (.ref a), some (.int (nI c)), some (.int (nI fr)), some (.int (nI to)), none] [] s _
  refine rg_iload_n (d37_0 L xs) rfl ?_
  refine rg_istore (d37_1 L xs) (ls' := [some (.ref a), some (.int (nI c)), some (.int (nI fr)), some (.int (nI to)), some (.int (nI fr))]) (Nat.le_of_ble_eq_true rfl) rfl ?_
  exact rtx_find_l H hn hc hto (to - fr) fr (by omega)
theorem rtx_name_l {fr to : Nat} (H : isT a) (hn : isTx s a n) (hto : to < 2 ^ 30) : ∀ (m i run : Nat) (c5 : Option Value), i + m = to → run ≤ 16 → rp L xs (d + 1) 38 15 [some (.ref a), some (.int (nI fr)), some (.int (nI to)), some (.int (nI run)), some (.int (nI i)), c5] [] s (fun v s' => v = some (.int (nI (bI (f_run (t_at s a n) run i m)))) ∧ s = s') := by
  have hlim := tx_m H
  have hn2 := hn.2
  intro m
  induction m with
  | zero =>
    intro i run c5 hi hr
    refine rg_iload (d38_15 L xs) rfl ?_
    refine rg_iload_n (d38_17 L xs) rfl ?_
    refine rn_icmp_ge (d38_18 L xs) (x := i) (y := to) (by omega) (by omega) (t := 72) (by decide) (fun h1 => ?_) (fun h1 => by omega)
    refine rg_iload_n (d38_72 L xs) rfl ?_
    refine rn_if_le (d38_73 L xs) (x := run) (by omega) (t := 80) (by decide) (fun h2 => ?_) (fun h2 => ?_)
    · refine rg_iconst (d38_80 L xs) (x := 0) (by decide) ?_
      exact rg_iret (d38_81 L xs) rfl rfl ⟨by rw [f_run, show decide (0 < run) = false by simp; omega]; rfl, rfl⟩
    · refine rg_iconst (d38_76 L xs) (x := 1) (by decide) ?_
      refine rg_goto (d38_77 L xs) (t := 81) (by decide) ?_
      exact rg_iret (d38_81 L xs) rfl rfl ⟨by rw [f_run, show decide (0 < run) = true by simp; omega]; rfl, rfl⟩
  | succ m ih =>
    intro i run c5 hi hr
    refine rp_ch (fun hch => ?_)
    have hg : ∀ j, t_at s a n j < 65536 := fun j => t_at_lt H hn hch
    have hg0 := hg i
    have hb0 := bI_lt (c_lab (t_at s a n i))
    refine rg_iload (d38_15 L xs) rfl ?_
    refine rg_iload_n (d38_17 L xs) rfl ?_
    refine rn_icmp_ge (d38_18 L xs) (x := i) (y := to) (by omega) (by omega) (t := 72) (by decide) (fun h1 => by omega) (fun h1 => ?_)
    refine rg_aload_n (d38_21 L xs) rfl ?_
    refine rg_iload (d38_22 L xs) rfl ?_
    refine rg_invv (d38_24 L xs) (kd := 7) (mj := 31) (n := 1) rfl (Or.inl rfl) (ys := [.int (nI i)]) (r := []) rfl rfl H.1 (tx_c H) rfl (Nat.le_of_ble_eq_true rfl) (rtx_at (i := i) H hn (by omega)) ?_
    rintro _ _ ⟨rfl, rfl⟩ -
    refine rg_istore (d38_27 L xs) (ls' := [some (.ref a), some (.int (nI fr)), some (.int (nI to)), some (.int (nI run)), some (.int (nI i)), some (.int (nI (t_at s a n i)))]) (Nat.le_of_ble_eq_true rfl) rfl ?_
    refine rg_iload (d38_29 L xs) rfl ?_
    refine rg_bipush (d38_31 L xs) (x := 46) (by decide) ?_
    refine rn_icmp_ne (d38_33 L xs) (x := t_at s a n i) (y := 46) (by omega) (by omega) (t := 47) (by decide) (fun h2 => ?_) (fun h2 => ?_)
    · refine rg_iinc (d38_47 L xs) (y := (nI (run + 1))) (ls' := [some (.ref a), some (.int (nI fr)), some (.int (nI to)), some (.int (nI (run + 1))), some (.int (nI i)), some (.int (nI (t_at s a n i)))]) rfl (nI_add run 1) rfl ?_
      refine rg_iload_n (d38_50 L xs) rfl ?_
      refine rg_bipush (d38_51 L xs) (x := 16) (by decide) ?_
      refine rn_icmp_gt (d38_53 L xs) (x := run + 1) (y := 16) (by omega) (by omega) (t := 64) (by decide) (fun h3 => ?_) (fun h3 => ?_)
      · refine rg_iconst (d38_64 L xs) (x := 0) (by decide) ?_
        exact rg_iret (d38_65 L xs) rfl rfl ⟨by rw [f_run, if_neg (by omega), decide_eq_false (by omega), Bool.false_and]; rfl, rfl⟩
      · refine rg_iload (d38_56 L xs) rfl ?_
        refine rg_invs (d38_58 L xs) (kd := 6) (mj := 39) (n := 1) rfl (Or.inl rfl) (ys := [.int (nI (t_at s a n i))]) (r := []) rfl rfl (Nat.le_of_ble_eq_true rfl) (rtx_lab (by omega)) ?_
        rintro _ _ ⟨rfl, rfl⟩ -
        refine rn_if_ne (d38_61 L xs) (x := bI (c_lab (t_at s a n i))) (by omega) (t := 66) (by decide) (fun h4 => ?_) (fun h4 => ?_)
        · refine rg_iinc (d38_66 L xs) (y := (nI (i + 1))) (ls' := [some (.ref a), some (.int (nI fr)), some (.int (nI to)), some (.int (nI (run + 1))), some (.int (nI (i + 1))), some (.int (nI (t_at s a n i)))]) rfl (nI_add i 1) rfl ?_
          refine rg_goto (d38_69 L xs) (t := 15) (by decide) ?_
          rw [show f_run (t_at s a n) run i (m + 1) = f_run (t_at s a n) (run + 1) (i + 1) m by rw [f_run, if_neg (by omega), decide_eq_true (by omega), Bool.true_and, show c_lab (t_at s a n i) = true from bI_t (by omega), Bool.true_and]]; exact ih (i + 1) (run + 1) _ (by omega) (by omega)
        · refine rg_iconst (d38_64 L xs) (x := 0) (by decide) ?_
          exact rg_iret (d38_65 L xs) rfl rfl ⟨by rw [f_run, if_neg (by omega), show c_lab (t_at s a n i) = false from bI_f (by omega), Bool.false_and, Bool.and_false]; rfl, rfl⟩
    · refine rg_iload_n (d38_36 L xs) rfl ?_
      refine rn_if_ne (d38_37 L xs) (x := run) (by omega) (t := 42) (by decide) (fun h5 => ?_) (fun h5 => ?_)
      · refine rg_iconst (d38_42 L xs) (x := 0) (by decide) ?_
        refine rg_istore_n (d38_43 L xs) (ls' := [some (.ref a), some (.int (nI fr)), some (.int (nI to)), some (.int 0), some (.int (nI i)), some (.int (nI (t_at s a n i)))]) (Nat.le_of_ble_eq_true rfl) rfl ?_
        refine rg_goto (d38_44 L xs) (t := 66) (by decide) ?_
        refine rg_iinc (d38_66 L xs) (y := (nI (i + 1))) (ls' := [some (.ref a), some (.int (nI fr)), some (.int (nI to)), some (.int 0), some (.int (nI (i + 1))), some (.int (nI (t_at s a n i)))]) rfl (nI_add i 1) rfl ?_
        refine rg_goto (d38_69 L xs) (t := 15) (by decide) ?_
        rw [show f_run (t_at s a n) run i (m + 1) = f_run (t_at s a n) 0 (i + 1) m by rw [f_run, if_pos (by omega), decide_eq_true (by omega), Bool.true_and]]; exact ih (i + 1) 0 _ (by omega) (by omega)
      · refine rg_iconst (d38_40 L xs) (x := 0) (by decide) ?_
        exact rg_iret (d38_41 L xs) rfl rfl ⟨by rw [f_run, if_pos (by omega), decide_eq_false (by omega), Bool.false_and]; rfl, rfl⟩
theorem rtx_isName {fr to : Nat} (H : isT a) (hn : isTx s a n) (hto : to < 2 ^ 30) (hf : fr ≤ to) : rc L xs (d + 2) 38 [.ref a, .int (nI fr), .int (nI to)] s (fun v s' => v = some (.int (nI (bI (t_name (t_at s a n) fr to)))) ∧ s = s') := by
  refine rg_call (Nat.le_of_ble_eq_true rfl) ?_
  have hlim := tx_m H
  have hn2 := hn.2
  show rp L xs (d + 1) 38 0 [some (.ref a), some (.int (nI fr)), some (.int (nI to)), none, none, none] [] s _
  refine rg_iload_n (d38_0 L xs) rfl ?_
  refine rg_iload_n (d38_1 L xs) rfl ?_
  refine rg_isub (d38_2 L xs) ?_
  refine rg_top (y := (nI (to - fr))) (pk_sub (a := to) (b := fr) (by omega)) ?_
  refine rg_bipush (d38_3 L xs) (x := 48) (by decide) ?_
  refine rn_icmp_le (d38_5 L xs) (x := to - fr) (y := 48) (by omega) (by omega) (t := 10) (by decide) (fun h1 => ?_) (fun h1 => ?_)
  · refine rg_iconst (d38_10 L xs) (x := 0) (by decide) ?_
    refine rg_istore_n (d38_11 L xs) (ls' := [some (.ref a), some (.int (nI fr)), some (.int (nI to)), some (.int 0), none, none]) (Nat.le_of_ble_eq_true rfl) rfl ?_
    refine rg_iload_n (d38_12 L xs) rfl ?_
    refine rg_istore (d38_13 L xs) (ls' := [some (.ref a), some (.int (nI fr)), some (.int (nI to)), some (.int 0), some (.int (nI fr)), none]) (Nat.le_of_ble_eq_true rfl) rfl ?_
    have key := rtx_name_l (fr := fr) H hn hto (d := d) (L := L) (xs := xs) (to - fr) fr 0 none (by omega) (by omega)
    rw [show t_name (t_at s a n) fr to = f_run (t_at s a n) 0 fr (to - fr) by rw [t_name, decide_eq_true (by omega), Bool.true_and]]
    exact key
  · refine rg_iconst (d38_8 L xs) (x := 0) (by decide) ?_
    exact rg_iret (d38_9 L xs) rfl rfl ⟨by rw [t_name, decide_eq_false (by omega), Bool.false_and]; rfl, rfl⟩
theorem rtx_isName0 (H : isT a) (hn : isTx s a n) : rc L xs (d + 3) 46 [.ref a] s (fun v s' => v = some (.int (nI (bI (t_name (t_at s a n) 0 n)))) ∧ s = s') := by
  refine rg_call (Nat.le_of_ble_eq_true rfl) ?_
  have hlim := tx_m H
  have hn2 := hn.2
  show rp L xs (d + 2) 46 0 [some (.ref a)] [] s _
  refine rg_aload_n (d46_0 L xs) rfl ?_
  refine rg_iconst (d46_1 L xs) (x := 0) (by decide) ?_
  refine rg_aload_n (d46_2 L xs) rfl ?_
  refine rg_get (d46_3 L xs) (kd := 1) (cj := 1) (k0 := 1) rfl (Or.inl rfl) H.1 (tx_c H) rfl ?_
  refine rg_top (y := (nI n)) hn.1 ?_
  refine rg_invv (d46_6 L xs) (kd := 7) (mj := 38) (n := 2) rfl (Or.inl rfl) (ys := [.int (nI n), .int 0]) (r := []) rfl rfl H.1 (tx_c H) rfl (Nat.le_of_ble_eq_true rfl) (rtx_isName (fr := 0) (to := n) H hn (by omega) (by omega)) ?_
  rintro _ _ ⟨rfl, rfl⟩ -
  exact rg_iret (d46_9 L xs) rfl (nar_b _) ⟨rfl, rfl⟩
theorem rtx_num_l {fr to most dg : Nat} (H : isT a) (hn : isTx s a n) (hto : to < 2 ^ 30) (hmo : most < 2 ^ 30) : ∀ (m i v : Nat) (c5 : Option Value), i + m = to → m ≤ 3 → (m = 0 → v < 1000) → (m = 1 → v < 100) → (m = 2 → v < 10) → (m = 3 → v < 1) → rp L xs (d + 1) 41 41 [some (.ref a), some (.int (nI fr)), some (.int (nI to)), some (.int (nI most)), some (.int (nI dg)), some (.int (nI v)), some (.int (nI i)), c5] [] s (fun v2 s' => v2 = some (.int (oI (f_num (t_at s a n) most v i m))) ∧ s = s') := by
  have hlim := tx_m H
  have hn2 := hn.2
  intro m
  induction m with
  | zero =>
    intro i v c5 hi h30 h31 h32 h33 h34
    refine rg_iload (d41_41 L xs) rfl ?_
    refine rg_iload_n (d41_43 L xs) rfl ?_
    refine rn_icmp_ge (d41_44 L xs) (x := i) (y := to) (by omega) (by omega) (t := 90) (by decide) (fun h1 => ?_) (fun h1 => by omega)
    refine rg_iload (d41_90 L xs) rfl ?_
    refine rg_iload_n (d41_92 L xs) rfl ?_
    refine rn_icmp_gt (d41_93 L xs) (x := v) (y := most) (by omega) (by omega) (t := 101) (by decide) (fun h2 => ?_) (fun h2 => ?_)
    · refine rg_iconst (d41_101 L xs) (x := (-1)) (by decide) ?_
      exact rg_iret (d41_102 L xs) rfl rfl ⟨by rw [f_num, if_neg (by omega)]; rfl, rfl⟩
    · refine rg_iload (d41_96 L xs) rfl ?_
      refine rg_goto (d41_98 L xs) (t := 102) (by decide) ?_
      exact rg_iret (d41_102 L xs) rfl rfl ⟨by rw [f_num, if_pos (by omega)]; rfl, rfl⟩
  | succ m ih =>
    intro i v c5 hi h30 h31 h32 h33 h34
    refine rp_ch (fun hch => ?_)
    have hg : ∀ j, t_at s a n j < 65536 := fun j => t_at_lt H hn hch
    have hg0 := hg i
    refine rg_iload (d41_41 L xs) rfl ?_
    refine rg_iload_n (d41_43 L xs) rfl ?_
    refine rn_icmp_ge (d41_44 L xs) (x := i) (y := to) (by omega) (by omega) (t := 90) (by decide) (fun h1 => by omega) (fun h1 => ?_)
    refine rg_aload_n (d41_47 L xs) rfl ?_
    refine rg_iload (d41_48 L xs) rfl ?_
    refine rg_invv (d41_50 L xs) (kd := 7) (mj := 31) (n := 1) rfl (Or.inl rfl) (ys := [.int (nI i)]) (r := []) rfl rfl H.1 (tx_c H) rfl (Nat.le_of_ble_eq_true rfl) (rtx_at (i := i) H hn (by omega)) ?_
    rintro _ _ ⟨rfl, rfl⟩ -
    refine rg_istore (d41_53 L xs) (ls' := [some (.ref a), some (.int (nI fr)), some (.int (nI to)), some (.int (nI most)), some (.int (nI dg)), some (.int (nI v)), some (.int (nI i)), some (.int (nI (t_at s a n i)))]) (Nat.le_of_ble_eq_true rfl) rfl ?_
    refine rg_iload (d41_55 L xs) rfl ?_
    refine rg_bipush (d41_57 L xs) (x := 48) (by decide) ?_
    refine rn_icmp_lt (d41_59 L xs) (x := t_at s a n i) (y := 48) (by omega) (by omega) (t := 69) (by decide) (fun h2 => ?_) (fun h2 => ?_)
    · refine rg_iconst (d41_69 L xs) (x := (-1)) (by decide) ?_
      exact rg_iret (d41_70 L xs) rfl rfl ⟨by rw [f_num, if_neg (by omega)]; rfl, rfl⟩
    · refine rg_iload (d41_62 L xs) rfl ?_
      refine rg_bipush (d41_64 L xs) (x := 57) (by decide) ?_
      refine rn_icmp_le (d41_66 L xs) (x := t_at s a n i) (y := 57) (by omega) (by omega) (t := 71) (by decide) (fun h3 => ?_) (fun h3 => ?_)
      · refine rg_iload (d41_71 L xs) rfl ?_
        refine rg_bipush (d41_73 L xs) (x := 10) (by decide) ?_
        refine rg_imul (d41_75 L xs) ?_
        refine rg_top (y := (nI (v * 10))) (pk_mul v 10) ?_
        refine rg_iload (d41_76 L xs) rfl ?_
        refine rg_bipush (d41_78 L xs) (x := 48) (by decide) ?_
        refine rg_isub (d41_80 L xs) ?_
        refine rg_top (y := (nI ((t_at s a n i) - 48))) (pk_sub (a := t_at s a n i) (b := 48) (by omega)) ?_
        refine rg_iadd (d41_81 L xs) ?_
        refine rg_top (y := (nI ((v * 10) + ((t_at s a n i) - 48)))) (nI_add (v * 10) ((t_at s a n i) - 48)) ?_
        refine rg_istore (d41_82 L xs) (ls' := [some (.ref a), some (.int (nI fr)), some (.int (nI to)), some (.int (nI most)), some (.int (nI dg)), some (.int (nI ((v * 10) + ((t_at s a n i) - 48)))), some (.int (nI i)), some (.int (nI (t_at s a n i)))]) (Nat.le_of_ble_eq_true rfl) rfl ?_
        refine rg_iinc (d41_84 L xs) (y := (nI (i + 1))) (ls' := [some (.ref a), some (.int (nI fr)), some (.int (nI to)), some (.int (nI most)), some (.int (nI dg)), some (.int (nI ((v * 10) + ((t_at s a n i) - 48)))), some (.int (nI (i + 1))), some (.int (nI (t_at s a n i)))]) rfl (nI_add i 1) rfl ?_
        refine rg_goto (d41_87 L xs) (t := 41) (by decide) ?_
        rw [show f_num (t_at s a n) most v i (m + 1) = f_num (t_at s a n) most (v * 10 + (t_at s a n i - 48)) (i + 1) m from if_pos ⟨by omega, by omega⟩]; exact ih (i + 1) _ _ (by omega) (by omega) (by omega) (by omega) (by omega) (by omega)
      · refine rg_iconst (d41_69 L xs) (x := (-1)) (by decide) ?_
        exact rg_iret (d41_70 L xs) rfl rfl ⟨by rw [f_num, if_neg (by omega)]; rfl, rfl⟩
theorem rtx_number {fr to most : Nat} (H : isT a) (hn : isTx s a n) (hto : to < 2 ^ 30) (hmo : most < 2 ^ 30) (hf : fr ≤ to) : rc L xs (d + 2) 41 [.ref a, .int (nI fr), .int (nI to), .int (nI most)] s (fun v s' => v = some (.int (oI (t_num (t_at s a n) fr to most))) ∧ s = s') := by
  refine rg_call (Nat.le_of_ble_eq_true rfl) ?_
  have hlim := tx_m H
  have hn2 := hn.2
  refine rp_ch (fun hch => ?_)
  have hg : ∀ j, t_at s a n j < 65536 := fun j => t_at_lt H hn hch
  have hg0 := hg fr
  show rp L xs (d + 1) 41 0 [some (.ref a), some (.int (nI fr)), some (.int (nI to)), some (.int (nI most)), none, none, none, none] [] s _
  refine rg_iload_n (d41_0 L xs) rfl ?_
  refine rg_iload_n (d41_1 L xs) rfl ?_
  refine rg_isub (d41_2 L xs) ?_
  refine rg_top (y := (nI (to - fr))) (pk_sub (a := to) (b := fr) (by omega)) ?_
  refine rg_istore (d41_3 L xs) (ls' := [some (.ref a), some (.int (nI fr)), some (.int (nI to)), some (.int (nI most)), some (.int (nI (to - fr))), none, none, none]) (Nat.le_of_ble_eq_true rfl) rfl ?_
  refine rg_iload (d41_5 L xs) rfl ?_
  refine rg_iconst (d41_7 L xs) (x := 1) (by decide) ?_
  refine rn_icmp_lt (d41_8 L xs) (x := to - fr) (y := 1) (by omega) (by omega) (t := 33) (by decide) (fun h1 => ?_) (fun h1 => ?_)
  · refine rg_iconst (d41_33 L xs) (x := (-1)) (by decide) ?_
    exact rg_iret (d41_34 L xs) rfl rfl ⟨by rw [t_num, if_pos (by omega)]; rfl, rfl⟩
  · refine rg_iload (d41_11 L xs) rfl ?_
    refine rg_iconst (d41_13 L xs) (x := 3) (by decide) ?_
    refine rn_icmp_gt (d41_14 L xs) (x := to - fr) (y := 3) (by omega) (by omega) (t := 33) (by decide) (fun h2 => ?_) (fun h2 => ?_)
    · refine rg_iconst (d41_33 L xs) (x := (-1)) (by decide) ?_
      exact rg_iret (d41_34 L xs) rfl rfl ⟨by rw [t_num, if_pos (by omega)]; rfl, rfl⟩
    · refine rg_iload (d41_17 L xs) rfl ?_
      refine rg_iconst (d41_19 L xs) (x := 1) (by decide) ?_
      refine rn_icmp_le (d41_20 L xs) (x := to - fr) (y := 1) (by omega) (by omega) (t := 35) (by decide) (fun h3 => ?_) (fun h3 => ?_)
      · refine rg_iconst (d41_35 L xs) (x := 0) (by decide) ?_
        refine rg_istore (d41_36 L xs) (ls' := [some (.ref a), some (.int (nI fr)), some (.int (nI to)), some (.int (nI most)), some (.int (nI (to - fr))), some (.int 0), none, none]) (Nat.le_of_ble_eq_true rfl) rfl ?_
        refine rg_iload_n (d41_38 L xs) rfl ?_
        refine rg_istore (d41_39 L xs) (ls' := [some (.ref a), some (.int (nI fr)), some (.int (nI to)), some (.int (nI most)), some (.int (nI (to - fr))), some (.int 0), some (.int (nI fr)), none]) (Nat.le_of_ble_eq_true rfl) rfl ?_
        rw [show t_num (t_at s a n) fr to most = f_num (t_at s a n) most 0 fr (to - fr) from if_neg (by omega)]; exact rtx_num_l H hn hto hmo (to - fr) fr 0 none (by omega) (by omega) (by omega) (by omega) (by omega) (by omega)
      · refine rg_aload_n (d41_23 L xs) rfl ?_
        refine rg_iload_n (d41_24 L xs) rfl ?_
        refine rg_invv (d41_25 L xs) (kd := 7) (mj := 31) (n := 1) rfl (Or.inl rfl) (ys := [.int (nI fr)]) (r := []) rfl rfl H.1 (tx_c H) rfl (Nat.le_of_ble_eq_true rfl) (rtx_at (i := fr) H hn (by omega)) ?_
        rintro _ _ ⟨rfl, rfl⟩ -
        refine rg_bipush (d41_28 L xs) (x := 48) (by decide) ?_
        refine rn_icmp_ne (d41_30 L xs) (x := t_at s a n fr) (y := 48) (by omega) (by omega) (t := 35) (by decide) (fun h4 => ?_) (fun h4 => ?_)
        · refine rg_iconst (d41_35 L xs) (x := 0) (by decide) ?_
          refine rg_istore (d41_36 L xs) (ls' := [some (.ref a), some (.int (nI fr)), some (.int (nI to)), some (.int (nI most)), some (.int (nI (to - fr))), some (.int 0), none, none]) (Nat.le_of_ble_eq_true rfl) rfl ?_
          refine rg_iload_n (d41_38 L xs) rfl ?_
          refine rg_istore (d41_39 L xs) (ls' := [some (.ref a), some (.int (nI fr)), some (.int (nI to)), some (.int (nI most)), some (.int (nI (to - fr))), some (.int 0), some (.int (nI fr)), none]) (Nat.le_of_ble_eq_true rfl) rfl ?_
          rw [show t_num (t_at s a n) fr to most = f_num (t_at s a n) most 0 fr (to - fr) from if_neg (by omega)]; exact rtx_num_l H hn hto hmo (to - fr) fr 0 none (by omega) (by omega) (by omega) (by omega) (by omega) (by omega)
        · refine rg_iconst (d41_33 L xs) (x := (-1)) (by decide) ?_
          exact rg_iret (d41_34 L xs) rfl rfl ⟨by rw [t_num, if_pos (by omega)]; rfl, rfl⟩
theorem rg_topl {mi pc : Nat} {ls : ax_L} {st : List Value} {Q : Option Value → mg_s → Prop} {x y : Int64} (e : x = y) (k : rp L xs d mi pc ls (.long y :: st) s Q) : rp L xs d mi pc ls (.long x :: st) s Q := e ▸ k
theorem rtx_numN {fr to most : Nat} (H : isT a) (hn : isTx s a n) (hto : to < 2 ^ 30) (hmo : most < 2 ^ 30) (hf : fr ≤ to) (hq : t_num (t_at s a n) fr to most = none) : rc L xs (d + 2) 41 [.ref a, .int (nI fr), .int (nI to), .int (nI most)] s (fun v s' => v = some (.int (-1)) ∧ s = s') := by
  have := rtx_number (L := L) (xs := xs) (d := d) H hn hto hmo hf
  rw [hq] at this; exact this
theorem rtx_numS {fr to most b : Nat} (H : isT a) (hn : isTx s a n) (hto : to < 2 ^ 30) (hmo : most < 2 ^ 30) (hf : fr ≤ to) (hq : t_num (t_at s a n) fr to most = some b) : rc L xs (d + 2) 41 [.ref a, .int (nI fr), .int (nI to), .int (nI most)] s (fun v s' => v = some (.int (nI b)) ∧ s = s') := by
  have := rtx_number (L := L) (xs := xs) (d := d) H hn hto hmo hf
  rw [hq] at this; exact this
theorem rtx_addr_l {fr to : Nat} (H : isT a) (hn : isTx s a n) (hto : to < 2 ^ 29) : ∀ (m acc cnt st i : Nat) (c5 : Option Value), i + m = to + 1 → st ≤ i → cnt ≤ 4 → (cnt = 0 → acc < 1) → (cnt = 1 → acc < 256) → (cnt = 2 → acc < 65536) → (cnt = 3 → acc < 16777216) → rp L xs (d + 2) 40 11 [some (.ref a), some (.int (nI fr)), some (.int (nI to)), some (.long (Int64.ofNat acc)), none, some (.int (nI cnt)), some (.int (nI st)), some (.int (nI i)), c5] [] s (fun v s' => v = some (.long (oL (f_addr (t_at s a n) to m acc cnt st i))) ∧ s = s') := by
  have hlim := tx_m H
  have hn2 := hn.2
  intro m
  induction m with
  | zero =>
    intro acc cnt st i c5 hi hst hc4 b0 b1 b2 b3
    refine rg_iload (d40_11 L xs) rfl ?_
    refine rg_iload_n (d40_13 L xs) rfl ?_
    refine rn_icmp_gt (d40_14 L xs) (x := i) (y := to) (by omega) (by omega) (t := 87) (by decide) (fun h1 => ?_) (fun h1 => by omega)
    refine rg_iload (d40_87 L xs) rfl ?_
    refine rg_iconst (d40_89 L xs) (x := 4) (by decide) ?_
    refine rn_icmp_ne (d40_90 L xs) (x := cnt) (y := 4) (by omega) (by omega) (t := 97) (by decide) (fun h2 => ?_) (fun h2 => ?_)
    · refine rg_ldc2 (d40_97 L xs) (v := 18446744073709551615) rfl ?_
      exact rg_lret (d40_100 L xs) rfl ⟨by rw [f_addr, if_neg (by omega)]; rfl, rfl⟩
    · refine rg_lload_n (d40_93 L xs) rfl ?_
      refine rg_goto (d40_94 L xs) (t := 100) (by decide) ?_
      exact rg_lret (d40_100 L xs) rfl ⟨by rw [f_addr, if_pos (by omega)]; rfl, rfl⟩
  | succ m ih =>
    intro acc cnt st i c5 hi hst hc4 b0 b1 b2 b3
    refine rp_ch (fun hch => ?_)
    have hg0 : t_at s a n i < 65536 := t_at_lt H hn hch
    cases hq : t_num (t_at s a n) st i 255 with
    | none =>
      refine rg_iload (d40_11 L xs) rfl ?_
      refine rg_iload_n (d40_13 L xs) rfl ?_
      refine rn_icmp_gt (d40_14 L xs) (x := i) (y := to) (by omega) (by omega) (t := 87) (by decide) (fun h1 => by omega) (fun h1 => ?_)
      refine rg_iload (d40_17 L xs) rfl ?_
      refine rg_iload_n (d40_19 L xs) rfl ?_
      refine rn_icmp_eq (d40_20 L xs) (x := i) (y := to) (by omega) (by omega) (t := 34) (by decide) (fun h2 => ?_) (fun h2 => ?_)
      · refine rg_aload_n (d40_34 L xs) rfl ?_
        refine rg_iload (d40_35 L xs) rfl ?_
        refine rg_iload (d40_37 L xs) rfl ?_
        refine rg_sipush (d40_39 L xs) (x := 255) (by decide) ?_
        refine rg_invv (d40_42 L xs) (kd := 7) (mj := 41) (n := 3) rfl (Or.inl rfl) (ys := [.int 255, .int (nI i), .int (nI st)]) (r := []) rfl rfl H.1 (tx_c H) rfl (Nat.le_of_ble_eq_true rfl) (rtx_numN (fr := st) (to := i) (most := 255) H hn (by omega) (by omega) (by omega) hq) ?_
        rintro _ _ ⟨rfl, rfl⟩ -
        refine rg_istore (d40_45 L xs) (ls' := [some (.ref a), some (.int (nI fr)), some (.int (nI to)), some (.long (Int64.ofNat acc)), none, some (.int (nI cnt)), some (.int (nI st)), some (.int (nI i)), some (.int (-1))]) (Nat.le_of_ble_eq_true rfl) rfl ?_
        refine rg_iload (d40_47 L xs) rfl ?_
        refine rg_iconst (d40_49 L xs) (x := (-1)) (by decide) ?_
        refine rg_icmp_eq (d40_50 L xs) (t := 59) (by decide) (fun _ => ?_) (fun hn => absurd (by decide) hn)
        refine rg_ldc2 (d40_59 L xs) (v := 18446744073709551615) rfl ?_
        exact rg_lret (d40_62 L xs) rfl ⟨by rw [f_addr, if_pos (by omega), hq]; rfl, rfl⟩
      · refine rg_aload_n (d40_23 L xs) rfl ?_
        refine rg_iload (d40_24 L xs) rfl ?_
        refine rg_invv (d40_26 L xs) (kd := 7) (mj := 31) (n := 1) rfl (Or.inl rfl) (ys := [.int (nI i)]) (r := []) rfl rfl H.1 (tx_c H) rfl (Nat.le_of_ble_eq_true rfl) (rtx_at (d := d + 1) (i := i) H hn (by omega)) ?_
        rintro _ _ ⟨rfl, rfl⟩ -
        refine rg_bipush (d40_29 L xs) (x := 46) (by decide) ?_
        refine rn_icmp_ne (d40_31 L xs) (x := t_at s a n i) (y := 46) (by omega) (by omega) (t := 81) (by decide) (fun h4 => ?_) (fun h4 => ?_)
        · refine rg_iinc (d40_81 L xs) (y := (nI (i + 1))) (ls' := [some (.ref a), some (.int (nI fr)), some (.int (nI to)), some (.long (Int64.ofNat acc)), none, some (.int (nI cnt)), some (.int (nI st)), some (.int (nI (i + 1))), c5]) rfl (nI_add i 1) rfl ?_
          refine rg_goto (d40_84 L xs) (t := 11) (by decide) ?_
          rw [show f_addr (t_at s a n) to (m + 1) acc cnt st i = f_addr (t_at s a n) to m acc cnt st (i + 1) from if_neg (by omega)]; exact ih acc cnt st (i + 1) _ (by omega) (by omega) hc4 b0 b1 b2 b3
        · refine rg_aload_n (d40_34 L xs) rfl ?_
          refine rg_iload (d40_35 L xs) rfl ?_
          refine rg_iload (d40_37 L xs) rfl ?_
          refine rg_sipush (d40_39 L xs) (x := 255) (by decide) ?_
          refine rg_invv (d40_42 L xs) (kd := 7) (mj := 41) (n := 3) rfl (Or.inl rfl) (ys := [.int 255, .int (nI i), .int (nI st)]) (r := []) rfl rfl H.1 (tx_c H) rfl (Nat.le_of_ble_eq_true rfl) (rtx_numN (fr := st) (to := i) (most := 255) H hn (by omega) (by omega) (by omega) hq) ?_
          rintro _ _ ⟨rfl, rfl⟩ -
          refine rg_istore (d40_45 L xs) (ls' := [some (.ref a), some (.int (nI fr)), some (.int (nI to)), some (.long (Int64.ofNat acc)), none, some (.int (nI cnt)), some (.int (nI st)), some (.int (nI i)), some (.int (-1))]) (Nat.le_of_ble_eq_true rfl) rfl ?_
          refine rg_iload (d40_47 L xs) rfl ?_
          refine rg_iconst (d40_49 L xs) (x := (-1)) (by decide) ?_
          refine rg_icmp_eq (d40_50 L xs) (t := 59) (by decide) (fun _ => ?_) (fun hn => absurd (by decide) hn)
          refine rg_ldc2 (d40_59 L xs) (v := 18446744073709551615) rfl ?_
          exact rg_lret (d40_62 L xs) rfl ⟨by rw [f_addr, if_pos (by omega), hq]; rfl, rfl⟩
    | some b =>
      have hb := t_num_le hq
      refine rg_iload (d40_11 L xs) rfl ?_
      refine rg_iload_n (d40_13 L xs) rfl ?_
      refine rn_icmp_gt (d40_14 L xs) (x := i) (y := to) (by omega) (by omega) (t := 87) (by decide) (fun h1 => by omega) (fun h1 => ?_)
      refine rg_iload (d40_17 L xs) rfl ?_
      refine rg_iload_n (d40_19 L xs) rfl ?_
      refine rn_icmp_eq (d40_20 L xs) (x := i) (y := to) (by omega) (by omega) (t := 34) (by decide) (fun h2 => ?_) (fun h2 => ?_)
      · refine rg_aload_n (d40_34 L xs) rfl ?_
        refine rg_iload (d40_35 L xs) rfl ?_
        refine rg_iload (d40_37 L xs) rfl ?_
        refine rg_sipush (d40_39 L xs) (x := 255) (by decide) ?_
        refine rg_invv (d40_42 L xs) (kd := 7) (mj := 41) (n := 3) rfl (Or.inl rfl) (ys := [.int 255, .int (nI i), .int (nI st)]) (r := []) rfl rfl H.1 (tx_c H) rfl (Nat.le_of_ble_eq_true rfl) (rtx_numS (fr := st) (to := i) (most := 255) H hn (by omega) (by omega) (by omega) hq) ?_
        rintro _ _ ⟨rfl, rfl⟩ -
        refine rg_istore (d40_45 L xs) (ls' := [some (.ref a), some (.int (nI fr)), some (.int (nI to)), some (.long (Int64.ofNat acc)), none, some (.int (nI cnt)), some (.int (nI st)), some (.int (nI i)), some (.int (nI b))]) (Nat.le_of_ble_eq_true rfl) rfl ?_
        refine rg_iload (d40_47 L xs) rfl ?_
        refine rg_iconst (d40_49 L xs) (x := (-1)) (by decide) ?_
        refine rg_icmp_eq (d40_50 L xs) (t := 59) (by decide) (fun h3 => absurd h3 (nI_neg1 (by omega))) (fun h3 => ?_)
        refine rg_iload (d40_53 L xs) rfl ?_
        refine rg_iconst (d40_55 L xs) (x := 4) (by decide) ?_
        refine rn_icmp_ne (d40_56 L xs) (x := cnt) (y := 4) (by omega) (by omega) (t := 63) (by decide) (fun h4 => ?_) (fun h4 => ?_)
        · refine rg_lload_n (d40_63 L xs) rfl ?_
          refine rg_bipush (d40_64 L xs) (x := 8) (by decide) ?_
          refine rg_lshl (d40_66 L xs) ?_
          refine rg_iload (d40_67 L xs) rfl ?_
          refine rg_i2l (d40_69 L xs) ?_
          refine rg_lor (d40_70 L xs) ?_
          refine rg_topl (y := Int64.ofNat (acc * 256 + b)) (ad_l (by omega) (by omega)) ?_
          refine rg_lstore_n (d40_71 L xs) (ls' := [some (.ref a), some (.int (nI fr)), some (.int (nI to)), some (.long (Int64.ofNat (acc * 256 + b))), none, some (.int (nI cnt)), some (.int (nI st)), some (.int (nI i)), some (.int (nI b))]) (Nat.le_of_ble_eq_true rfl) rfl ?_
          refine rg_iinc (d40_72 L xs) (y := (nI (cnt + 1))) (ls' := [some (.ref a), some (.int (nI fr)), some (.int (nI to)), some (.long (Int64.ofNat (acc * 256 + b))), none, some (.int (nI (cnt + 1))), some (.int (nI st)), some (.int (nI i)), some (.int (nI b))]) rfl (nI_add cnt 1) rfl ?_
          refine rg_iload (d40_75 L xs) rfl ?_
          refine rg_iconst (d40_77 L xs) (x := 1) (by decide) ?_
          refine rg_iadd (d40_78 L xs) ?_
          refine rg_top (y := (nI (i + 1))) (nI_add i 1) ?_
          refine rg_istore (d40_79 L xs) (ls' := [some (.ref a), some (.int (nI fr)), some (.int (nI to)), some (.long (Int64.ofNat (acc * 256 + b))), none, some (.int (nI (cnt + 1))), some (.int (nI (i + 1))), some (.int (nI i)), some (.int (nI b))]) (Nat.le_of_ble_eq_true rfl) rfl ?_
          refine rg_iinc (d40_81 L xs) (y := (nI (i + 1))) (ls' := [some (.ref a), some (.int (nI fr)), some (.int (nI to)), some (.long (Int64.ofNat (acc * 256 + b))), none, some (.int (nI (cnt + 1))), some (.int (nI (i + 1))), some (.int (nI (i + 1))), some (.int (nI b))]) rfl (nI_add i 1) rfl ?_
          refine rg_goto (d40_84 L xs) (t := 11) (by decide) ?_
          rw [show f_addr (t_at s a n) to (m + 1) acc cnt st i = f_addr (t_at s a n) to m (acc * 256 + b) (cnt + 1) (i + 1) (i + 1) by rw [f_addr, if_pos (by omega), hq]; exact if_neg (by omega)]; exact ih _ (cnt + 1) (i + 1) (i + 1) _ (by omega) (by omega) (by omega) (by omega) (by omega) (by omega) (by omega)
        · refine rg_ldc2 (d40_59 L xs) (v := 18446744073709551615) rfl ?_
          exact rg_lret (d40_62 L xs) rfl ⟨by rw [f_addr, if_pos (by omega), hq]; show _ = some (Value.long (oL (if cnt = 4 then none else _))); rw [if_pos (by omega)]; rfl, rfl⟩
      · refine rg_aload_n (d40_23 L xs) rfl ?_
        refine rg_iload (d40_24 L xs) rfl ?_
        refine rg_invv (d40_26 L xs) (kd := 7) (mj := 31) (n := 1) rfl (Or.inl rfl) (ys := [.int (nI i)]) (r := []) rfl rfl H.1 (tx_c H) rfl (Nat.le_of_ble_eq_true rfl) (rtx_at (d := d + 1) (i := i) H hn (by omega)) ?_
        rintro _ _ ⟨rfl, rfl⟩ -
        refine rg_bipush (d40_29 L xs) (x := 46) (by decide) ?_
        refine rn_icmp_ne (d40_31 L xs) (x := t_at s a n i) (y := 46) (by omega) (by omega) (t := 81) (by decide) (fun h5 => ?_) (fun h5 => ?_)
        · refine rg_iinc (d40_81 L xs) (y := (nI (i + 1))) (ls' := [some (.ref a), some (.int (nI fr)), some (.int (nI to)), some (.long (Int64.ofNat acc)), none, some (.int (nI cnt)), some (.int (nI st)), some (.int (nI (i + 1))), c5]) rfl (nI_add i 1) rfl ?_
          refine rg_goto (d40_84 L xs) (t := 11) (by decide) ?_
          rw [show f_addr (t_at s a n) to (m + 1) acc cnt st i = f_addr (t_at s a n) to m acc cnt st (i + 1) from if_neg (by omega)]; exact ih acc cnt st (i + 1) _ (by omega) (by omega) hc4 b0 b1 b2 b3
        · refine rg_aload_n (d40_34 L xs) rfl ?_
          refine rg_iload (d40_35 L xs) rfl ?_
          refine rg_iload (d40_37 L xs) rfl ?_
          refine rg_sipush (d40_39 L xs) (x := 255) (by decide) ?_
          refine rg_invv (d40_42 L xs) (kd := 7) (mj := 41) (n := 3) rfl (Or.inl rfl) (ys := [.int 255, .int (nI i), .int (nI st)]) (r := []) rfl rfl H.1 (tx_c H) rfl (Nat.le_of_ble_eq_true rfl) (rtx_numS (fr := st) (to := i) (most := 255) H hn (by omega) (by omega) (by omega) hq) ?_
          rintro _ _ ⟨rfl, rfl⟩ -
          refine rg_istore (d40_45 L xs) (ls' := [some (.ref a), some (.int (nI fr)), some (.int (nI to)), some (.long (Int64.ofNat acc)), none, some (.int (nI cnt)), some (.int (nI st)), some (.int (nI i)), some (.int (nI b))]) (Nat.le_of_ble_eq_true rfl) rfl ?_
          refine rg_iload (d40_47 L xs) rfl ?_
          refine rg_iconst (d40_49 L xs) (x := (-1)) (by decide) ?_
          refine rg_icmp_eq (d40_50 L xs) (t := 59) (by decide) (fun h6 => absurd h6 (nI_neg1 (by omega))) (fun h6 => ?_)
          refine rg_iload (d40_53 L xs) rfl ?_
          refine rg_iconst (d40_55 L xs) (x := 4) (by decide) ?_
          refine rn_icmp_ne (d40_56 L xs) (x := cnt) (y := 4) (by omega) (by omega) (t := 63) (by decide) (fun h7 => ?_) (fun h7 => ?_)
          · refine rg_lload_n (d40_63 L xs) rfl ?_
            refine rg_bipush (d40_64 L xs) (x := 8) (by decide) ?_
            refine rg_lshl (d40_66 L xs) ?_
            refine rg_iload (d40_67 L xs) rfl ?_
            refine rg_i2l (d40_69 L xs) ?_
            refine rg_lor (d40_70 L xs) ?_
            refine rg_topl (y := Int64.ofNat (acc * 256 + b)) (ad_l (by omega) (by omega)) ?_
            refine rg_lstore_n (d40_71 L xs) (ls' := [some (.ref a), some (.int (nI fr)), some (.int (nI to)), some (.long (Int64.ofNat (acc * 256 + b))), none, some (.int (nI cnt)), some (.int (nI st)), some (.int (nI i)), some (.int (nI b))]) (Nat.le_of_ble_eq_true rfl) rfl ?_
            refine rg_iinc (d40_72 L xs) (y := (nI (cnt + 1))) (ls' := [some (.ref a), some (.int (nI fr)), some (.int (nI to)), some (.long (Int64.ofNat (acc * 256 + b))), none, some (.int (nI (cnt + 1))), some (.int (nI st)), some (.int (nI i)), some (.int (nI b))]) rfl (nI_add cnt 1) rfl ?_
            refine rg_iload (d40_75 L xs) rfl ?_
            refine rg_iconst (d40_77 L xs) (x := 1) (by decide) ?_
            refine rg_iadd (d40_78 L xs) ?_
            refine rg_top (y := (nI (i + 1))) (nI_add i 1) ?_
            refine rg_istore (d40_79 L xs) (ls' := [some (.ref a), some (.int (nI fr)), some (.int (nI to)), some (.long (Int64.ofNat (acc * 256 + b))), none, some (.int (nI (cnt + 1))), some (.int (nI (i + 1))), some (.int (nI i)), some (.int (nI b))]) (Nat.le_of_ble_eq_true rfl) rfl ?_
            refine rg_iinc (d40_81 L xs) (y := (nI (i + 1))) (ls' := [some (.ref a), some (.int (nI fr)), some (.int (nI to)), some (.long (Int64.ofNat (acc * 256 + b))), none, some (.int (nI (cnt + 1))), some (.int (nI (i + 1))), some (.int (nI (i + 1))), some (.int (nI b))]) rfl (nI_add i 1) rfl ?_
            refine rg_goto (d40_84 L xs) (t := 11) (by decide) ?_
            rw [show f_addr (t_at s a n) to (m + 1) acc cnt st i = f_addr (t_at s a n) to m (acc * 256 + b) (cnt + 1) (i + 1) (i + 1) by rw [f_addr, if_pos (by omega), hq]; exact if_neg (by omega)]; exact ih _ (cnt + 1) (i + 1) (i + 1) _ (by omega) (by omega) (by omega) (by omega) (by omega) (by omega) (by omega)
          · refine rg_ldc2 (d40_59 L xs) (v := 18446744073709551615) rfl ?_
            exact rg_lret (d40_62 L xs) rfl ⟨by rw [f_addr, if_pos (by omega), hq]; show _ = some (Value.long (oL (if cnt = 4 then none else _))); rw [if_pos (by omega)]; rfl, rfl⟩
theorem rtx_address {fr to : Nat} (H : isT a) (hn : isTx s a n) (hto : to < 2 ^ 29) (hf : fr ≤ to + 1) : rc L xs (d + 3) 40 [.ref a, .int (nI fr), .int (nI to)] s (fun v s' => v = some (.long (oL (f_addr (t_at s a n) to (to + 1 - fr) 0 0 fr fr))) ∧ s = s') := by
  refine rg_call (Nat.le_of_ble_eq_true rfl) ?_
  show rp L xs (d + 2) 40 0 [some (.ref a), some (.int (nI fr)), some (.int (nI to)), none, none, none, none, none, none] [] s _
  refine rg_lconst (d40_0 L xs) (x := Int64.ofNat 0) (by decide) ?_
  refine rg_lstore_n (d40_1 L xs) (ls' := [some (.ref a), some (.int (nI fr)), some (.int (nI to)), some (.long (Int64.ofNat 0)), none, none, none, none, none]) (Nat.le_of_ble_eq_true rfl) rfl ?_
  refine rg_iconst (d40_2 L xs) (x := 0) (by decide) ?_
  refine rg_istore (d40_3 L xs) (ls' := [some (.ref a), some (.int (nI fr)), some (.int (nI to)), some (.long (Int64.ofNat 0)), none, some (.int 0), none, none, none]) (Nat.le_of_ble_eq_true rfl) rfl ?_
  refine rg_iload_n (d40_5 L xs) rfl ?_
  refine rg_istore (d40_6 L xs) (ls' := [some (.ref a), some (.int (nI fr)), some (.int (nI to)), some (.long (Int64.ofNat 0)), none, some (.int 0), some (.int (nI fr)), none, none]) (Nat.le_of_ble_eq_true rfl) rfl ?_
  refine rg_iload_n (d40_8 L xs) rfl ?_
  refine rg_istore (d40_9 L xs) (ls' := [some (.ref a), some (.int (nI fr)), some (.int (nI to)), some (.long (Int64.ofNat 0)), none, some (.int 0), some (.int (nI fr)), some (.int (nI fr)), none]) (Nat.le_of_ble_eq_true rfl) rfl ?_
  exact rtx_addr_l H hn hto (to + 1 - fr) 0 0 fr fr none (by omega) (by omega) (by omega) (by omega) (by omega) (by omega) (by omega)
theorem rck_has  : rc L xs (d + 1) 23 [.ref 87] s (fun v s' => v = some (.int (nI (bI (decide (¬ s.1 87 5 = -1))))) ∧ s = s') := by
  refine rg_call (Nat.le_of_ble_eq_true rfl) ?_
  show rp L xs d 23 0 [some (.ref 87)] [] s _
  refine rg_aload_n (d23_0 L xs) rfl ?_
  refine rg_get (d23_1 L xs) (kd := 1) (cj := 6) (k0 := 5) rfl (Or.inl rfl) (by decide) rfl rfl ?_
  refine rg_iconst (d23_4 L xs) (x := (-1)) (by decide) ?_
  refine rg_icmp_eq (d23_5 L xs) (t := 12) (by decide) (fun h1 => ?_) (fun h1 => ?_)
  · refine rg_iconst (d23_12 L xs) (x := 0) (by decide) ?_
    exact rg_iret (d23_13 L xs) rfl rfl ⟨by rw [decide_eq_false (by simpa using (by assumption))]; rfl, rfl⟩
  · refine rg_iconst (d23_8 L xs) (x := 1) (by decide) ?_
    refine rg_goto (d23_9 L xs) (t := 13) (by decide) ?_
    exact rg_iret (d23_13 L xs) rfl rfl ⟨by rw [decide_eq_true (by assumption)]; rfl, rfl⟩
theorem rtb_count  : rc L xs (d + 1) 33 [.ref 3] s (fun v s' => v = some (.int (s.1 3 1)) ∧ s = s') := by
  refine rg_call (Nat.le_of_ble_eq_true rfl) ?_
  show rp L xs d 33 0 [some (.ref 3)] [] s _
  refine rg_aload_n (d33_0 L xs) rfl ?_
  refine rg_get (d33_1 L xs) (kd := 1) (cj := 3) (k0 := 1) rfl (Or.inl rfl) (by decide) rfl rfl ?_
  exact rg_iret (d33_4 L xs) rfl rfl ⟨rfl, rfl⟩
theorem rts_size (H : isT a) (hl : hold s a l) : rc L xs (d + 1) 15 [.ref a] s (fun v s' => v = some (.int (nI l.length)) ∧ s = s') := rtx_size H hl.1
theorem rts_find {c fr to e : Nat} (H : isT a) (hl : hold s a l) (hc : c < 65536) (hto : to < 2 ^ 30) (hf : fr ≤ to) (he : f_find (gl l) c fr (to - fr) = e) : rc L xs (d + 2) 37 [.ref a, .int (nI c), .int (nI fr), .int (nI to)] s (fun v s' => v = some (.int (nI e)) ∧ s = s') := by
  have h := rtx_find (L := L) (xs := xs) (d := d) H hl.1 hc hto hf
  rw [hold_at hl, he] at h
  exact h
theorem rts_addr {fr to : Nat} (H : isT a) (hl : hold s a l) (hto : to < 2 ^ 29) (hf : fr ≤ to + 1) : rc L xs (d + 3) 40 [.ref a, .int (nI fr), .int (nI to)] s (fun v s' => v = some (.long (oL (f_addr (gl l) to (to + 1 - fr) 0 0 fr fr))) ∧ s = s') := by
  have h := rtx_address (L := L) (xs := xs) (d := d) H hl.1 hto hf
  rw [hold_at hl] at h
  exact h
theorem rts_name {fr to : Nat} (H : isT a) (hl : hold s a l) (hto : to < 2 ^ 30) (hf : fr ≤ to) : rc L xs (d + 2) 38 [.ref a, .int (nI fr), .int (nI to)] s (fun v s' => v = some (.int (nI (bI (t_name (gl l) fr to)))) ∧ s = s') := by
  have h := rtx_isName (L := L) (xs := xs) (d := d) H hl.1 hto hf
  rw [hold_at hl] at h
  exact h
theorem rtx_nameX {to : Nat} (H : isT a) (hto : to < 2 ^ 30) : rc L xs (d + 1) 38 [.ref a, .int (nI (to + 1)), .int (nI to)] s (fun v s' => v = some (.int 0) ∧ s = s') := by
  refine rg_call (Nat.le_of_ble_eq_true rfl) ?_
  show rp L xs d 38 0 [some (.ref a), some (.int (nI (to + 1))), some (.int (nI to)), none, none, none] [] s _
  refine rg_iload_n (d38_0 L xs) rfl ?_
  refine rg_iload_n (d38_1 L xs) rfl ?_
  refine rg_isub (d38_2 L xs) ?_
  refine rg_top (y := (-1)) (nI_m1 to) ?_
  refine rg_bipush (d38_3 L xs) (x := 48) (by decide) ?_
  refine rg_icmp_le (d38_5 L xs) (t := 10) (by decide) (fun _ => ?_) (fun hn => absurd (by decide) hn)
  refine rg_iconst (d38_10 L xs) (x := 0) (by decide) ?_
  refine rg_istore_n (d38_11 L xs) (ls' := [some (.ref a), some (.int (nI (to + 1))), some (.int (nI to)), some (.int 0), none, none]) (Nat.le_of_ble_eq_true rfl) rfl ?_
  refine rg_iload_n (d38_12 L xs) rfl ?_
  refine rg_istore (d38_13 L xs) (ls' := [some (.ref a), some (.int (nI (to + 1))), some (.int (nI to)), some (.int 0), some (.int (nI (to + 1))), none]) (Nat.le_of_ble_eq_true rfl) rfl ?_
  refine rg_iload (d38_15 L xs) rfl ?_
  refine rg_iload_n (d38_17 L xs) rfl ?_
  refine rn_icmp_ge (d38_18 L xs) (x := to + 1) (y := to) (by omega) (by omega) (t := 72) (by decide) (fun h2 => ?_) (fun h2 => by omega)
  refine rg_iload_n (d38_72 L xs) rfl ?_
  refine rg_if_le (d38_73 L xs) (t := 80) (by decide) (fun _ => ?_) (fun hn => absurd (by decide) hn)
  refine rg_iconst (d38_80 L xs) (x := 0) (by decide) ?_
  exact rg_iret (d38_81 L xs) rfl rfl ⟨rfl, rfl⟩
theorem rtx_nameY {fr to : Nat} (H : isT a) (hto : to < 2 ^ 30) (hf : fr = to + 1) : rc L xs (d + 1) 38 [.ref a, .int (nI fr), .int (nI to)] s (fun v s' => v = some (.int 0) ∧ s = s') := by
  subst hf
  exact rtx_nameX H hto
theorem rgd_tir0n {e : Nat} (hl : hold s 1 l) (he : f_find (gl l) 32 0 (l.length - 0) = e) (ha : f_addr (gl l) l.length (l.length + 1 - (e + 1)) 0 0 (e + 1) (e + 1) = none) : rc L xs (d + 4) 36 [.ref 0, .int 0] s (fun v s' => v = some (.int (nI (bI (t_name (gl l) 0 e && false)))) ∧ s = s') := by
  refine rg_call (Nat.le_of_ble_eq_true rfl) ?_
  have h100 := hl.1.2
  have h99 := isT_all.2.2.2.2.2.1
  have hel : e ≤ l.length := by have := (f_find_s (g := gl l) (c := 32) (l.length - 0) 0).2.1; omega
  have hbn := bI_lt (t_name (gl l) 0 e)
  show rp L xs (d + 3) 36 0 [some (.ref 0), some (.int 0), none, none] [] s _
  refine rg_aload_n (d36_0 L xs) rfl ?_
  refine rg_get (d36_1 L xs) (kd := 1) (cj := 0) (k0 := 0) rfl (Or.inl rfl) (by decide) rfl rfl ?_
  refine rg_bipush (d36_4 L xs) (x := 32) (by decide) ?_
  refine rg_iconst (d36_6 L xs) (x := 0) (by decide) ?_
  refine rg_aload_n (d36_7 L xs) rfl ?_
  refine rg_get (d36_8 L xs) (kd := 1) (cj := 0) (k0 := 0) rfl (Or.inl rfl) (by decide) rfl rfl ?_
  refine rg_invv (d36_11 L xs) (kd := 7) (mj := 15) (n := 0) rfl (Or.inl rfl) (ys := []) (r := [.int 0, .int 32, .ref 1]) rfl rfl (by decide) rfl rfl (Nat.le_of_ble_eq_true rfl) (rts_size isT_all.1 hl) ?_
  rintro _ _ ⟨rfl, rfl⟩ -
  refine rg_invv (d36_14 L xs) (kd := 7) (mj := 37) (n := 3) rfl (Or.inl rfl) (ys := [.int (nI l.length), .int 0, .int 32]) (r := []) rfl rfl (by decide) rfl rfl (Nat.le_of_ble_eq_true rfl) (rts_find (c := 32) (fr := 0) isT_all.1 hl (by decide) (by omega) (Nat.zero_le _) he) ?_
  rintro _ _ ⟨rfl, rfl⟩ -
  refine rg_istore_n (d36_17 L xs) (ls' := [some (.ref 0), some (.int 0), some (.int (nI e)), none]) (Nat.le_of_ble_eq_true rfl) rfl ?_
  refine rg_aload_n (d36_18 L xs) rfl ?_
  refine rg_get (d36_19 L xs) (kd := 1) (cj := 0) (k0 := 0) rfl (Or.inl rfl) (by decide) rfl rfl ?_
  refine rg_iconst (d36_22 L xs) (x := 0) (by decide) ?_
  refine rg_iload_n (d36_23 L xs) rfl ?_
  refine rg_invv (d36_24 L xs) (kd := 7) (mj := 38) (n := 2) rfl (Or.inl rfl) (ys := [.int (nI e), .int 0]) (r := []) rfl rfl (by decide) rfl rfl (Nat.le_of_ble_eq_true rfl) (rts_name (fr := 0) isT_all.1 hl (by omega) (Nat.zero_le _)) ?_
  rintro _ _ ⟨rfl, rfl⟩ -
  refine rn_if_ne (d36_27 L xs) (x := bI (t_name (gl l) 0 e)) (by omega) (t := 32) (by decide) (fun h1 => ?_) (fun h1 => ?_)
  · refine rg_iload_n (d36_32 L xs) rfl ?_
    refine rg_iconst (d36_33 L xs) (x := 1) (by decide) ?_
    refine rg_iadd (d36_34 L xs) ?_
    refine rg_top (y := (nI (e + 1))) (nI_add e 1) ?_
    refine rg_istore_n (d36_35 L xs) (ls' := [some (.ref 0), some (.int 0), some (.int (nI e)), some (.int (nI (e + 1)))]) (Nat.le_of_ble_eq_true rfl) rfl ?_
    refine rg_iload_n (d36_36 L xs) rfl ?_
    refine rg_tswIn (d36_37 L xs) (of := 35) (t := 72) (by decide) (by decide) (by decide) ?_
    refine rg_aload_n (d36_72 L xs) rfl ?_
    refine rg_get (d36_73 L xs) (kd := 1) (cj := 0) (k0 := 0) rfl (Or.inl rfl) (by decide) rfl rfl ?_
    refine rg_iload_n (d36_76 L xs) rfl ?_
    refine rg_aload_n (d36_77 L xs) rfl ?_
    refine rg_get (d36_78 L xs) (kd := 1) (cj := 0) (k0 := 0) rfl (Or.inl rfl) (by decide) rfl rfl ?_
    refine rg_invv (d36_81 L xs) (kd := 7) (mj := 15) (n := 0) rfl (Or.inl rfl) (ys := []) (r := [.int (nI (e + 1)), .ref 1]) rfl rfl (by decide) rfl rfl (Nat.le_of_ble_eq_true rfl) (rts_size isT_all.1 hl) ?_
    rintro _ _ ⟨rfl, rfl⟩ -
    refine rg_invv (d36_84 L xs) (kd := 7) (mj := 40) (n := 2) rfl (Or.inl rfl) (ys := [.int (nI l.length), .int (nI (e + 1))]) (r := []) rfl rfl (by decide) rfl rfl (Nat.le_of_ble_eq_true rfl) (rts_addr isT_all.1 hl (by omega) (by omega)) ?_
    rintro _ _ ⟨rfl, rfl⟩ -
    refine rg_ldc2 (d36_87 L xs) (v := 18446744073709551615) rfl ?_
    refine rg_lcmp (d36_90 L xs) ?_
    refine rg_top (y := 0) (by rw [ha]; exact lc_none) ?_
    refine rg_if_eq (d36_91 L xs) (t := 98) (by decide) (fun _ => ?_) (fun hn => absurd (by decide) hn)
    refine rg_iconst (d36_98 L xs) (x := 0) (by decide) ?_
    exact rg_iret (d36_99 L xs) rfl rfl ⟨by rw [Bool.and_false]; rfl, rfl⟩
  · refine rg_iconst (d36_30 L xs) (x := 0) (by decide) ?_
    exact rg_iret (d36_31 L xs) rfl rfl ⟨by rw [Bool.and_false]; rfl, rfl⟩
theorem rgd_tir0s {e : Nat} (hl : hold s 1 l) (he : f_find (gl l) 32 0 (l.length - 0) = e) {v : Nat} (ha : f_addr (gl l) l.length (l.length + 1 - (e + 1)) 0 0 (e + 1) (e + 1) = some v) : rc L xs (d + 4) 36 [.ref 0, .int 0] s (fun v s' => v = some (.int (nI (bI (t_name (gl l) 0 e && true)))) ∧ s = s') := by
  refine rg_call (Nat.le_of_ble_eq_true rfl) ?_
  have h100 := hl.1.2
  have h99 := isT_all.2.2.2.2.2.1
  have hel : e ≤ l.length := by have := (f_find_s (g := gl l) (c := 32) (l.length - 0) 0).2.1; omega
  have hbn := bI_lt (t_name (gl l) 0 e)
  show rp L xs (d + 3) 36 0 [some (.ref 0), some (.int 0), none, none] [] s _
  refine rg_aload_n (d36_0 L xs) rfl ?_
  refine rg_get (d36_1 L xs) (kd := 1) (cj := 0) (k0 := 0) rfl (Or.inl rfl) (by decide) rfl rfl ?_
  refine rg_bipush (d36_4 L xs) (x := 32) (by decide) ?_
  refine rg_iconst (d36_6 L xs) (x := 0) (by decide) ?_
  refine rg_aload_n (d36_7 L xs) rfl ?_
  refine rg_get (d36_8 L xs) (kd := 1) (cj := 0) (k0 := 0) rfl (Or.inl rfl) (by decide) rfl rfl ?_
  refine rg_invv (d36_11 L xs) (kd := 7) (mj := 15) (n := 0) rfl (Or.inl rfl) (ys := []) (r := [.int 0, .int 32, .ref 1]) rfl rfl (by decide) rfl rfl (Nat.le_of_ble_eq_true rfl) (rts_size isT_all.1 hl) ?_
  rintro _ _ ⟨rfl, rfl⟩ -
  refine rg_invv (d36_14 L xs) (kd := 7) (mj := 37) (n := 3) rfl (Or.inl rfl) (ys := [.int (nI l.length), .int 0, .int 32]) (r := []) rfl rfl (by decide) rfl rfl (Nat.le_of_ble_eq_true rfl) (rts_find (c := 32) (fr := 0) isT_all.1 hl (by decide) (by omega) (Nat.zero_le _) he) ?_
  rintro _ _ ⟨rfl, rfl⟩ -
  refine rg_istore_n (d36_17 L xs) (ls' := [some (.ref 0), some (.int 0), some (.int (nI e)), none]) (Nat.le_of_ble_eq_true rfl) rfl ?_
  refine rg_aload_n (d36_18 L xs) rfl ?_
  refine rg_get (d36_19 L xs) (kd := 1) (cj := 0) (k0 := 0) rfl (Or.inl rfl) (by decide) rfl rfl ?_
  refine rg_iconst (d36_22 L xs) (x := 0) (by decide) ?_
  refine rg_iload_n (d36_23 L xs) rfl ?_
  refine rg_invv (d36_24 L xs) (kd := 7) (mj := 38) (n := 2) rfl (Or.inl rfl) (ys := [.int (nI e), .int 0]) (r := []) rfl rfl (by decide) rfl rfl (Nat.le_of_ble_eq_true rfl) (rts_name (fr := 0) isT_all.1 hl (by omega) (Nat.zero_le _)) ?_
  rintro _ _ ⟨rfl, rfl⟩ -
  refine rn_if_ne (d36_27 L xs) (x := bI (t_name (gl l) 0 e)) (by omega) (t := 32) (by decide) (fun h1 => ?_) (fun h1 => ?_)
  · refine rg_iload_n (d36_32 L xs) rfl ?_
    refine rg_iconst (d36_33 L xs) (x := 1) (by decide) ?_
    refine rg_iadd (d36_34 L xs) ?_
    refine rg_top (y := (nI (e + 1))) (nI_add e 1) ?_
    refine rg_istore_n (d36_35 L xs) (ls' := [some (.ref 0), some (.int 0), some (.int (nI e)), some (.int (nI (e + 1)))]) (Nat.le_of_ble_eq_true rfl) rfl ?_
    refine rg_iload_n (d36_36 L xs) rfl ?_
    refine rg_tswIn (d36_37 L xs) (of := 35) (t := 72) (by decide) (by decide) (by decide) ?_
    refine rg_aload_n (d36_72 L xs) rfl ?_
    refine rg_get (d36_73 L xs) (kd := 1) (cj := 0) (k0 := 0) rfl (Or.inl rfl) (by decide) rfl rfl ?_
    refine rg_iload_n (d36_76 L xs) rfl ?_
    refine rg_aload_n (d36_77 L xs) rfl ?_
    refine rg_get (d36_78 L xs) (kd := 1) (cj := 0) (k0 := 0) rfl (Or.inl rfl) (by decide) rfl rfl ?_
    refine rg_invv (d36_81 L xs) (kd := 7) (mj := 15) (n := 0) rfl (Or.inl rfl) (ys := []) (r := [.int (nI (e + 1)), .ref 1]) rfl rfl (by decide) rfl rfl (Nat.le_of_ble_eq_true rfl) (rts_size isT_all.1 hl) ?_
    rintro _ _ ⟨rfl, rfl⟩ -
    refine rg_invv (d36_84 L xs) (kd := 7) (mj := 40) (n := 2) rfl (Or.inl rfl) (ys := [.int (nI l.length), .int (nI (e + 1))]) (r := []) rfl rfl (by decide) rfl rfl (Nat.le_of_ble_eq_true rfl) (rts_addr isT_all.1 hl (by omega) (by omega)) ?_
    rintro _ _ ⟨rfl, rfl⟩ -
    refine rg_ldc2 (d36_87 L xs) (v := 18446744073709551615) rfl ?_
    refine rg_lcmp (d36_90 L xs) ?_
    refine rg_top (y := 1) (by rw [ha]; exact lc_some (f_addr_lt _ _ _ _ _ _ ha (by decide) (by decide))) ?_
    refine rg_if_eq (d36_91 L xs) (t := 98) (by decide) (fun hp => absurd hp (by decide)) (fun _ => ?_)
    refine rg_iconst (d36_94 L xs) (x := 1) (by decide) ?_
    refine rg_goto (d36_95 L xs) (t := 99) (by decide) ?_
    exact rg_iret (d36_99 L xs) rfl rfl ⟨by rw [bI_t (b := t_name (gl l) 0 e) (by omega), Bool.true_and]; rfl, rfl⟩
  · refine rg_iconst (d36_30 L xs) (x := 0) (by decide) ?_
    exact rg_iret (d36_31 L xs) rfl rfl ⟨by rw [bI_f (b := t_name (gl l) 0 e) (by omega)]; rfl, rfl⟩
theorem rgd_tir1a {e : Nat} (hl : hold s 1 l) (he : f_find (gl l) 32 0 (l.length - 0) = e) (hlt : e < l.length) : rc L xs (d + 4) 36 [.ref 0, .int 1] s (fun v s' => v = some (.int (nI (bI (t_name (gl l) 0 e && t_name (gl l) (e + 1) l.length)))) ∧ s = s') := by
  refine rg_call (Nat.le_of_ble_eq_true rfl) ?_
  have h100 := hl.1.2
  have h99 := isT_all.2.2.2.2.2.1
  have hel : e ≤ l.length := by have := (f_find_s (g := gl l) (c := 32) (l.length - 0) 0).2.1; omega
  have hbn := bI_lt (t_name (gl l) 0 e)
  show rp L xs (d + 3) 36 0 [some (.ref 0), some (.int 1), none, none] [] s _
  refine rg_aload_n (d36_0 L xs) rfl ?_
  refine rg_get (d36_1 L xs) (kd := 1) (cj := 0) (k0 := 0) rfl (Or.inl rfl) (by decide) rfl rfl ?_
  refine rg_bipush (d36_4 L xs) (x := 32) (by decide) ?_
  refine rg_iconst (d36_6 L xs) (x := 0) (by decide) ?_
  refine rg_aload_n (d36_7 L xs) rfl ?_
  refine rg_get (d36_8 L xs) (kd := 1) (cj := 0) (k0 := 0) rfl (Or.inl rfl) (by decide) rfl rfl ?_
  refine rg_invv (d36_11 L xs) (kd := 7) (mj := 15) (n := 0) rfl (Or.inl rfl) (ys := []) (r := [.int 0, .int 32, .ref 1]) rfl rfl (by decide) rfl rfl (Nat.le_of_ble_eq_true rfl) (rts_size isT_all.1 hl) ?_
  rintro _ _ ⟨rfl, rfl⟩ -
  refine rg_invv (d36_14 L xs) (kd := 7) (mj := 37) (n := 3) rfl (Or.inl rfl) (ys := [.int (nI l.length), .int 0, .int 32]) (r := []) rfl rfl (by decide) rfl rfl (Nat.le_of_ble_eq_true rfl) (rts_find (c := 32) (fr := 0) isT_all.1 hl (by decide) (by omega) (Nat.zero_le _) he) ?_
  rintro _ _ ⟨rfl, rfl⟩ -
  refine rg_istore_n (d36_17 L xs) (ls' := [some (.ref 0), some (.int 1), some (.int (nI e)), none]) (Nat.le_of_ble_eq_true rfl) rfl ?_
  refine rg_aload_n (d36_18 L xs) rfl ?_
  refine rg_get (d36_19 L xs) (kd := 1) (cj := 0) (k0 := 0) rfl (Or.inl rfl) (by decide) rfl rfl ?_
  refine rg_iconst (d36_22 L xs) (x := 0) (by decide) ?_
  refine rg_iload_n (d36_23 L xs) rfl ?_
  refine rg_invv (d36_24 L xs) (kd := 7) (mj := 38) (n := 2) rfl (Or.inl rfl) (ys := [.int (nI e), .int 0]) (r := []) rfl rfl (by decide) rfl rfl (Nat.le_of_ble_eq_true rfl) (rts_name (fr := 0) isT_all.1 hl (by omega) (Nat.zero_le _)) ?_
  rintro _ _ ⟨rfl, rfl⟩ -
  refine rn_if_ne (d36_27 L xs) (x := bI (t_name (gl l) 0 e)) (by omega) (t := 32) (by decide) (fun h1 => ?_) (fun h1 => ?_)
  · refine rg_iload_n (d36_32 L xs) rfl ?_
    refine rg_iconst (d36_33 L xs) (x := 1) (by decide) ?_
    refine rg_iadd (d36_34 L xs) ?_
    refine rg_top (y := (nI (e + 1))) (nI_add e 1) ?_
    refine rg_istore_n (d36_35 L xs) (ls' := [some (.ref 0), some (.int 1), some (.int (nI e)), some (.int (nI (e + 1)))]) (Nat.le_of_ble_eq_true rfl) rfl ?_
    refine rg_iload_n (d36_36 L xs) rfl ?_
    refine rg_tswIn (d36_37 L xs) (of := 63) (t := 100) (by decide) (by decide) (by decide) ?_
    refine rg_aload_n (d36_100 L xs) rfl ?_
    refine rg_get (d36_101 L xs) (kd := 1) (cj := 0) (k0 := 0) rfl (Or.inl rfl) (by decide) rfl rfl ?_
    refine rg_iload_n (d36_104 L xs) rfl ?_
    refine rg_aload_n (d36_105 L xs) rfl ?_
    refine rg_get (d36_106 L xs) (kd := 1) (cj := 0) (k0 := 0) rfl (Or.inl rfl) (by decide) rfl rfl ?_
    refine rg_invv (d36_109 L xs) (kd := 7) (mj := 15) (n := 0) rfl (Or.inl rfl) (ys := []) (r := [.int (nI (e + 1)), .ref 1]) rfl rfl (by decide) rfl rfl (Nat.le_of_ble_eq_true rfl) (rts_size isT_all.1 hl) ?_
    rintro _ _ ⟨rfl, rfl⟩ -
    refine rg_invv (d36_112 L xs) (kd := 7) (mj := 38) (n := 2) rfl (Or.inl rfl) (ys := [.int (nI l.length), .int (nI (e + 1))]) (r := []) rfl rfl (by decide) rfl rfl (Nat.le_of_ble_eq_true rfl) (rts_name (fr := e + 1) isT_all.1 hl (by omega) (by omega)) ?_
    rintro _ _ ⟨rfl, rfl⟩ -
    exact rg_iret (d36_115 L xs) rfl (nar_b _) ⟨by rw [bI_t (b := t_name (gl l) 0 e) (by omega), Bool.true_and], rfl⟩
  · refine rg_iconst (d36_30 L xs) (x := 0) (by decide) ?_
    exact rg_iret (d36_31 L xs) rfl rfl ⟨by rw [bI_f (b := t_name (gl l) 0 e) (by omega)]; rfl, rfl⟩
theorem rgd_tir1b {e : Nat} (hl : hold s 1 l) (he : f_find (gl l) 32 0 (l.length - 0) = e) (heq : l.length = e) : rc L xs (d + 4) 36 [.ref 0, .int 1] s (fun v s' => v = some (.int (nI (bI (t_name (gl l) 0 e && false)))) ∧ s = s') := by
  refine rg_call (Nat.le_of_ble_eq_true rfl) ?_
  have h100 := hl.1.2
  have h99 := isT_all.2.2.2.2.2.1
  have hel : e ≤ l.length := by have := (f_find_s (g := gl l) (c := 32) (l.length - 0) 0).2.1; omega
  have hbn := bI_lt (t_name (gl l) 0 e)
  show rp L xs (d + 3) 36 0 [some (.ref 0), some (.int 1), none, none] [] s _
  refine rg_aload_n (d36_0 L xs) rfl ?_
  refine rg_get (d36_1 L xs) (kd := 1) (cj := 0) (k0 := 0) rfl (Or.inl rfl) (by decide) rfl rfl ?_
  refine rg_bipush (d36_4 L xs) (x := 32) (by decide) ?_
  refine rg_iconst (d36_6 L xs) (x := 0) (by decide) ?_
  refine rg_aload_n (d36_7 L xs) rfl ?_
  refine rg_get (d36_8 L xs) (kd := 1) (cj := 0) (k0 := 0) rfl (Or.inl rfl) (by decide) rfl rfl ?_
  refine rg_invv (d36_11 L xs) (kd := 7) (mj := 15) (n := 0) rfl (Or.inl rfl) (ys := []) (r := [.int 0, .int 32, .ref 1]) rfl rfl (by decide) rfl rfl (Nat.le_of_ble_eq_true rfl) (rts_size isT_all.1 hl) ?_
  rintro _ _ ⟨rfl, rfl⟩ -
  refine rg_invv (d36_14 L xs) (kd := 7) (mj := 37) (n := 3) rfl (Or.inl rfl) (ys := [.int (nI l.length), .int 0, .int 32]) (r := []) rfl rfl (by decide) rfl rfl (Nat.le_of_ble_eq_true rfl) (rts_find (c := 32) (fr := 0) isT_all.1 hl (by decide) (by omega) (Nat.zero_le _) he) ?_
  rintro _ _ ⟨rfl, rfl⟩ -
  refine rg_istore_n (d36_17 L xs) (ls' := [some (.ref 0), some (.int 1), some (.int (nI e)), none]) (Nat.le_of_ble_eq_true rfl) rfl ?_
  refine rg_aload_n (d36_18 L xs) rfl ?_
  refine rg_get (d36_19 L xs) (kd := 1) (cj := 0) (k0 := 0) rfl (Or.inl rfl) (by decide) rfl rfl ?_
  refine rg_iconst (d36_22 L xs) (x := 0) (by decide) ?_
  refine rg_iload_n (d36_23 L xs) rfl ?_
  refine rg_invv (d36_24 L xs) (kd := 7) (mj := 38) (n := 2) rfl (Or.inl rfl) (ys := [.int (nI e), .int 0]) (r := []) rfl rfl (by decide) rfl rfl (Nat.le_of_ble_eq_true rfl) (rts_name (fr := 0) isT_all.1 hl (by omega) (Nat.zero_le _)) ?_
  rintro _ _ ⟨rfl, rfl⟩ -
  refine rn_if_ne (d36_27 L xs) (x := bI (t_name (gl l) 0 e)) (by omega) (t := 32) (by decide) (fun h1 => ?_) (fun h1 => ?_)
  · refine rg_iload_n (d36_32 L xs) rfl ?_
    refine rg_iconst (d36_33 L xs) (x := 1) (by decide) ?_
    refine rg_iadd (d36_34 L xs) ?_
    refine rg_top (y := (nI (e + 1))) (nI_add e 1) ?_
    refine rg_istore_n (d36_35 L xs) (ls' := [some (.ref 0), some (.int 1), some (.int (nI e)), some (.int (nI (e + 1)))]) (Nat.le_of_ble_eq_true rfl) rfl ?_
    refine rg_iload_n (d36_36 L xs) rfl ?_
    refine rg_tswIn (d36_37 L xs) (of := 63) (t := 100) (by decide) (by decide) (by decide) ?_
    refine rg_aload_n (d36_100 L xs) rfl ?_
    refine rg_get (d36_101 L xs) (kd := 1) (cj := 0) (k0 := 0) rfl (Or.inl rfl) (by decide) rfl rfl ?_
    refine rg_iload_n (d36_104 L xs) rfl ?_
    refine rg_aload_n (d36_105 L xs) rfl ?_
    refine rg_get (d36_106 L xs) (kd := 1) (cj := 0) (k0 := 0) rfl (Or.inl rfl) (by decide) rfl rfl ?_
    refine rg_invv (d36_109 L xs) (kd := 7) (mj := 15) (n := 0) rfl (Or.inl rfl) (ys := []) (r := [.int (nI (e + 1)), .ref 1]) rfl rfl (by decide) rfl rfl (Nat.le_of_ble_eq_true rfl) (rts_size isT_all.1 hl) ?_
    rintro _ _ ⟨rfl, rfl⟩ -
    refine rg_invv (d36_112 L xs) (kd := 7) (mj := 38) (n := 2) rfl (Or.inl rfl) (ys := [.int (nI l.length), .int (nI (e + 1))]) (r := []) rfl rfl (by decide) rfl rfl (Nat.le_of_ble_eq_true rfl) (rc_deep (Nat.le_add_left 1 _) (rtx_nameY (d := 0) (fr := e + 1) (to := l.length) isT_all.1 (by omega) (by omega))) ?_
    rintro _ _ ⟨rfl, rfl⟩ -
    exact rg_iret (d36_115 L xs) rfl rfl ⟨by rw [Bool.and_false]; rfl, rfl⟩
  · refine rg_iconst (d36_30 L xs) (x := 0) (by decide) ?_
    exact rg_iret (d36_31 L xs) rfl rfl ⟨by rw [Bool.and_false]; rfl, rfl⟩
theorem rgd_tir2 {e : Nat} (hl : hold s 1 l) (he : f_find (gl l) 32 0 (l.length - 0) = e) : rc L xs (d + 4) 36 [.ref 0, .int 2] s (fun v s' => v = some (.int (nI (bI (t_name (gl l) 0 e && decide (e + 1 < l.length))))) ∧ s = s') := by
  refine rg_call (Nat.le_of_ble_eq_true rfl) ?_
  have h100 := hl.1.2
  have h99 := isT_all.2.2.2.2.2.1
  have hel : e ≤ l.length := by have := (f_find_s (g := gl l) (c := 32) (l.length - 0) 0).2.1; omega
  have hbn := bI_lt (t_name (gl l) 0 e)
  show rp L xs (d + 3) 36 0 [some (.ref 0), some (.int 2), none, none] [] s _
  refine rg_aload_n (d36_0 L xs) rfl ?_
  refine rg_get (d36_1 L xs) (kd := 1) (cj := 0) (k0 := 0) rfl (Or.inl rfl) (by decide) rfl rfl ?_
  refine rg_bipush (d36_4 L xs) (x := 32) (by decide) ?_
  refine rg_iconst (d36_6 L xs) (x := 0) (by decide) ?_
  refine rg_aload_n (d36_7 L xs) rfl ?_
  refine rg_get (d36_8 L xs) (kd := 1) (cj := 0) (k0 := 0) rfl (Or.inl rfl) (by decide) rfl rfl ?_
  refine rg_invv (d36_11 L xs) (kd := 7) (mj := 15) (n := 0) rfl (Or.inl rfl) (ys := []) (r := [.int 0, .int 32, .ref 1]) rfl rfl (by decide) rfl rfl (Nat.le_of_ble_eq_true rfl) (rts_size isT_all.1 hl) ?_
  rintro _ _ ⟨rfl, rfl⟩ -
  refine rg_invv (d36_14 L xs) (kd := 7) (mj := 37) (n := 3) rfl (Or.inl rfl) (ys := [.int (nI l.length), .int 0, .int 32]) (r := []) rfl rfl (by decide) rfl rfl (Nat.le_of_ble_eq_true rfl) (rts_find (c := 32) (fr := 0) isT_all.1 hl (by decide) (by omega) (Nat.zero_le _) he) ?_
  rintro _ _ ⟨rfl, rfl⟩ -
  refine rg_istore_n (d36_17 L xs) (ls' := [some (.ref 0), some (.int 2), some (.int (nI e)), none]) (Nat.le_of_ble_eq_true rfl) rfl ?_
  refine rg_aload_n (d36_18 L xs) rfl ?_
  refine rg_get (d36_19 L xs) (kd := 1) (cj := 0) (k0 := 0) rfl (Or.inl rfl) (by decide) rfl rfl ?_
  refine rg_iconst (d36_22 L xs) (x := 0) (by decide) ?_
  refine rg_iload_n (d36_23 L xs) rfl ?_
  refine rg_invv (d36_24 L xs) (kd := 7) (mj := 38) (n := 2) rfl (Or.inl rfl) (ys := [.int (nI e), .int 0]) (r := []) rfl rfl (by decide) rfl rfl (Nat.le_of_ble_eq_true rfl) (rts_name (fr := 0) isT_all.1 hl (by omega) (Nat.zero_le _)) ?_
  rintro _ _ ⟨rfl, rfl⟩ -
  refine rn_if_ne (d36_27 L xs) (x := bI (t_name (gl l) 0 e)) (by omega) (t := 32) (by decide) (fun h1 => ?_) (fun h1 => ?_)
  · refine rg_iload_n (d36_32 L xs) rfl ?_
    refine rg_iconst (d36_33 L xs) (x := 1) (by decide) ?_
    refine rg_iadd (d36_34 L xs) ?_
    refine rg_top (y := (nI (e + 1))) (nI_add e 1) ?_
    refine rg_istore_n (d36_35 L xs) (ls' := [some (.ref 0), some (.int 2), some (.int (nI e)), some (.int (nI (e + 1)))]) (Nat.le_of_ble_eq_true rfl) rfl ?_
    refine rg_iload_n (d36_36 L xs) rfl ?_
    refine rg_tswIn (d36_37 L xs) (of := 79) (t := 116) (by decide) (by decide) (by decide) ?_
    refine rg_iload_n (d36_116 L xs) rfl ?_
    refine rg_aload_n (d36_117 L xs) rfl ?_
    refine rg_get (d36_118 L xs) (kd := 1) (cj := 0) (k0 := 0) rfl (Or.inl rfl) (by decide) rfl rfl ?_
    refine rg_invv (d36_121 L xs) (kd := 7) (mj := 15) (n := 0) rfl (Or.inl rfl) (ys := []) (r := [.int (nI (e + 1))]) rfl rfl (by decide) rfl rfl (Nat.le_of_ble_eq_true rfl) (rts_size isT_all.1 hl) ?_
    rintro _ _ ⟨rfl, rfl⟩ -
    refine rn_icmp_ge (d36_124 L xs) (x := e + 1) (y := l.length) (by omega) (by omega) (t := 131) (by decide) (fun h2 => ?_) (fun h2 => ?_)
    · refine rg_iconst (d36_131 L xs) (x := 0) (by decide) ?_
      exact rg_iret (d36_132 L xs) rfl rfl ⟨by rw [bI_t (b := t_name (gl l) 0 e) (by omega), Bool.true_and, decide_eq_false (show ¬ e + 1 < l.length by omega)]; rfl, rfl⟩
    · refine rg_iconst (d36_127 L xs) (x := 1) (by decide) ?_
      refine rg_goto (d36_128 L xs) (t := 132) (by decide) ?_
      exact rg_iret (d36_132 L xs) rfl rfl ⟨by rw [bI_t (b := t_name (gl l) 0 e) (by omega), Bool.true_and, decide_eq_true (show e + 1 < l.length by omega)]; rfl, rfl⟩
  · refine rg_iconst (d36_30 L xs) (x := 0) (by decide) ?_
    exact rg_iret (d36_31 L xs) rfl rfl ⟨by rw [bI_f (b := t_name (gl l) 0 e) (by omega)]; rfl, rfl⟩
theorem rgd_tir3 {e : Nat} (hl : hold s 1 l) (he : f_find (gl l) 32 0 (l.length - 0) = e) : rc L xs (d + 4) 36 [.ref 0, .int 3] s (fun v s' => v = some (.int (nI (bI (t_name (gl l) 0 e && decide (e = l.length))))) ∧ s = s') := by
  refine rg_call (Nat.le_of_ble_eq_true rfl) ?_
  have h100 := hl.1.2
  have h99 := isT_all.2.2.2.2.2.1
  have hel : e ≤ l.length := by have := (f_find_s (g := gl l) (c := 32) (l.length - 0) 0).2.1; omega
  have hbn := bI_lt (t_name (gl l) 0 e)
  show rp L xs (d + 3) 36 0 [some (.ref 0), some (.int 3), none, none] [] s _
  refine rg_aload_n (d36_0 L xs) rfl ?_
  refine rg_get (d36_1 L xs) (kd := 1) (cj := 0) (k0 := 0) rfl (Or.inl rfl) (by decide) rfl rfl ?_
  refine rg_bipush (d36_4 L xs) (x := 32) (by decide) ?_
  refine rg_iconst (d36_6 L xs) (x := 0) (by decide) ?_
  refine rg_aload_n (d36_7 L xs) rfl ?_
  refine rg_get (d36_8 L xs) (kd := 1) (cj := 0) (k0 := 0) rfl (Or.inl rfl) (by decide) rfl rfl ?_
  refine rg_invv (d36_11 L xs) (kd := 7) (mj := 15) (n := 0) rfl (Or.inl rfl) (ys := []) (r := [.int 0, .int 32, .ref 1]) rfl rfl (by decide) rfl rfl (Nat.le_of_ble_eq_true rfl) (rts_size isT_all.1 hl) ?_
  rintro _ _ ⟨rfl, rfl⟩ -
  refine rg_invv (d36_14 L xs) (kd := 7) (mj := 37) (n := 3) rfl (Or.inl rfl) (ys := [.int (nI l.length), .int 0, .int 32]) (r := []) rfl rfl (by decide) rfl rfl (Nat.le_of_ble_eq_true rfl) (rts_find (c := 32) (fr := 0) isT_all.1 hl (by decide) (by omega) (Nat.zero_le _) he) ?_
  rintro _ _ ⟨rfl, rfl⟩ -
  refine rg_istore_n (d36_17 L xs) (ls' := [some (.ref 0), some (.int 3), some (.int (nI e)), none]) (Nat.le_of_ble_eq_true rfl) rfl ?_
  refine rg_aload_n (d36_18 L xs) rfl ?_
  refine rg_get (d36_19 L xs) (kd := 1) (cj := 0) (k0 := 0) rfl (Or.inl rfl) (by decide) rfl rfl ?_
  refine rg_iconst (d36_22 L xs) (x := 0) (by decide) ?_
  refine rg_iload_n (d36_23 L xs) rfl ?_
  refine rg_invv (d36_24 L xs) (kd := 7) (mj := 38) (n := 2) rfl (Or.inl rfl) (ys := [.int (nI e), .int 0]) (r := []) rfl rfl (by decide) rfl rfl (Nat.le_of_ble_eq_true rfl) (rts_name (fr := 0) isT_all.1 hl (by omega) (Nat.zero_le _)) ?_
  rintro _ _ ⟨rfl, rfl⟩ -
  refine rn_if_ne (d36_27 L xs) (x := bI (t_name (gl l) 0 e)) (by omega) (t := 32) (by decide) (fun h1 => ?_) (fun h1 => ?_)
  · refine rg_iload_n (d36_32 L xs) rfl ?_
    refine rg_iconst (d36_33 L xs) (x := 1) (by decide) ?_
    refine rg_iadd (d36_34 L xs) ?_
    refine rg_top (y := (nI (e + 1))) (nI_add e 1) ?_
    refine rg_istore_n (d36_35 L xs) (ls' := [some (.ref 0), some (.int 3), some (.int (nI e)), some (.int (nI (e + 1)))]) (Nat.le_of_ble_eq_true rfl) rfl ?_
    refine rg_iload_n (d36_36 L xs) rfl ?_
    refine rg_tswIn (d36_37 L xs) (of := 96) (t := 133) (by decide) (by decide) (by decide) ?_
    refine rg_iload_n (d36_133 L xs) rfl ?_
    refine rg_aload_n (d36_134 L xs) rfl ?_
    refine rg_get (d36_135 L xs) (kd := 1) (cj := 0) (k0 := 0) rfl (Or.inl rfl) (by decide) rfl rfl ?_
    refine rg_invv (d36_138 L xs) (kd := 7) (mj := 15) (n := 0) rfl (Or.inl rfl) (ys := []) (r := [.int (nI e)]) rfl rfl (by decide) rfl rfl (Nat.le_of_ble_eq_true rfl) (rts_size isT_all.1 hl) ?_
    rintro _ _ ⟨rfl, rfl⟩ -
    refine rn_icmp_ne (d36_141 L xs) (x := e) (y := l.length) (by omega) (by omega) (t := 148) (by decide) (fun h2 => ?_) (fun h2 => ?_)
    · refine rg_iconst (d36_148 L xs) (x := 0) (by decide) ?_
      exact rg_iret (d36_149 L xs) rfl rfl ⟨by rw [bI_t (b := t_name (gl l) 0 e) (by omega), Bool.true_and, decide_eq_false (show ¬ e = l.length by omega)]; rfl, rfl⟩
    · refine rg_iconst (d36_144 L xs) (x := 1) (by decide) ?_
      refine rg_goto (d36_145 L xs) (t := 149) (by decide) ?_
      exact rg_iret (d36_149 L xs) rfl rfl ⟨by rw [bI_t (b := t_name (gl l) 0 e) (by omega), Bool.true_and, decide_eq_true (show e = l.length by omega)]; rfl, rfl⟩
  · refine rg_iconst (d36_30 L xs) (x := 0) (by decide) ?_
    exact rg_iret (d36_31 L xs) rfl rfl ⟨by rw [bI_f (b := t_name (gl l) 0 e) (by omega)]; rfl, rfl⟩
theorem rgd_tir4 {e : Nat} (hl : hold s 1 l) (he : f_find (gl l) 32 0 (l.length - 0) = e) : rc L xs (d + 4) 36 [.ref 0, .int 4] s (fun v s' => v = some (.int (nI (bI (t_name (gl l) 0 e && decide (e = l.length))))) ∧ s = s') := by
  refine rg_call (Nat.le_of_ble_eq_true rfl) ?_
  have h100 := hl.1.2
  have h99 := isT_all.2.2.2.2.2.1
  have hel : e ≤ l.length := by have := (f_find_s (g := gl l) (c := 32) (l.length - 0) 0).2.1; omega
  have hbn := bI_lt (t_name (gl l) 0 e)
  show rp L xs (d + 3) 36 0 [some (.ref 0), some (.int 4), none, none] [] s _
  refine rg_aload_n (d36_0 L xs) rfl ?_
  refine rg_get (d36_1 L xs) (kd := 1) (cj := 0) (k0 := 0) rfl (Or.inl rfl) (by decide) rfl rfl ?_
  refine rg_bipush (d36_4 L xs) (x := 32) (by decide) ?_
  refine rg_iconst (d36_6 L xs) (x := 0) (by decide) ?_
  refine rg_aload_n (d36_7 L xs) rfl ?_
  refine rg_get (d36_8 L xs) (kd := 1) (cj := 0) (k0 := 0) rfl (Or.inl rfl) (by decide) rfl rfl ?_
  refine rg_invv (d36_11 L xs) (kd := 7) (mj := 15) (n := 0) rfl (Or.inl rfl) (ys := []) (r := [.int 0, .int 32, .ref 1]) rfl rfl (by decide) rfl rfl (Nat.le_of_ble_eq_true rfl) (rts_size isT_all.1 hl) ?_
  rintro _ _ ⟨rfl, rfl⟩ -
  refine rg_invv (d36_14 L xs) (kd := 7) (mj := 37) (n := 3) rfl (Or.inl rfl) (ys := [.int (nI l.length), .int 0, .int 32]) (r := []) rfl rfl (by decide) rfl rfl (Nat.le_of_ble_eq_true rfl) (rts_find (c := 32) (fr := 0) isT_all.1 hl (by decide) (by omega) (Nat.zero_le _) he) ?_
  rintro _ _ ⟨rfl, rfl⟩ -
  refine rg_istore_n (d36_17 L xs) (ls' := [some (.ref 0), some (.int 4), some (.int (nI e)), none]) (Nat.le_of_ble_eq_true rfl) rfl ?_
  refine rg_aload_n (d36_18 L xs) rfl ?_
  refine rg_get (d36_19 L xs) (kd := 1) (cj := 0) (k0 := 0) rfl (Or.inl rfl) (by decide) rfl rfl ?_
  refine rg_iconst (d36_22 L xs) (x := 0) (by decide) ?_
  refine rg_iload_n (d36_23 L xs) rfl ?_
  refine rg_invv (d36_24 L xs) (kd := 7) (mj := 38) (n := 2) rfl (Or.inl rfl) (ys := [.int (nI e), .int 0]) (r := []) rfl rfl (by decide) rfl rfl (Nat.le_of_ble_eq_true rfl) (rts_name (fr := 0) isT_all.1 hl (by omega) (Nat.zero_le _)) ?_
  rintro _ _ ⟨rfl, rfl⟩ -
  refine rn_if_ne (d36_27 L xs) (x := bI (t_name (gl l) 0 e)) (by omega) (t := 32) (by decide) (fun h1 => ?_) (fun h1 => ?_)
  · refine rg_iload_n (d36_32 L xs) rfl ?_
    refine rg_iconst (d36_33 L xs) (x := 1) (by decide) ?_
    refine rg_iadd (d36_34 L xs) ?_
    refine rg_top (y := (nI (e + 1))) (nI_add e 1) ?_
    refine rg_istore_n (d36_35 L xs) (ls' := [some (.ref 0), some (.int 4), some (.int (nI e)), some (.int (nI (e + 1)))]) (Nat.le_of_ble_eq_true rfl) rfl ?_
    refine rg_iload_n (d36_36 L xs) rfl ?_
    refine rg_tswIn (d36_37 L xs) (of := 96) (t := 133) (by decide) (by decide) (by decide) ?_
    refine rg_iload_n (d36_133 L xs) rfl ?_
    refine rg_aload_n (d36_134 L xs) rfl ?_
    refine rg_get (d36_135 L xs) (kd := 1) (cj := 0) (k0 := 0) rfl (Or.inl rfl) (by decide) rfl rfl ?_
    refine rg_invv (d36_138 L xs) (kd := 7) (mj := 15) (n := 0) rfl (Or.inl rfl) (ys := []) (r := [.int (nI e)]) rfl rfl (by decide) rfl rfl (Nat.le_of_ble_eq_true rfl) (rts_size isT_all.1 hl) ?_
    rintro _ _ ⟨rfl, rfl⟩ -
    refine rn_icmp_ne (d36_141 L xs) (x := e) (y := l.length) (by omega) (by omega) (t := 148) (by decide) (fun h2 => ?_) (fun h2 => ?_)
    · refine rg_iconst (d36_148 L xs) (x := 0) (by decide) ?_
      exact rg_iret (d36_149 L xs) rfl rfl ⟨by rw [bI_t (b := t_name (gl l) 0 e) (by omega), Bool.true_and, decide_eq_false (show ¬ e = l.length by omega)]; rfl, rfl⟩
    · refine rg_iconst (d36_144 L xs) (x := 1) (by decide) ?_
      refine rg_goto (d36_145 L xs) (t := 149) (by decide) ?_
      exact rg_iret (d36_149 L xs) rfl rfl ⟨by rw [bI_t (b := t_name (gl l) 0 e) (by omega), Bool.true_and, decide_eq_true (show e = l.length by omega)]; rfl, rfl⟩
  · refine rg_iconst (d36_30 L xs) (x := 0) (by decide) ?_
    exact rg_iret (d36_31 L xs) rfl rfl ⟨by rw [bI_f (b := t_name (gl l) 0 e) (by omega)]; rfl, rfl⟩
theorem rgd_tiro {e : Nat} (hl : hold s 1 l) (he : f_find (gl l) 32 0 (l.length - 0) = e) {x : Int32} (hx : x.toInt < 0 ∨ 4 < x.toInt) : rc L xs (d + 4) 36 [.ref 0, .int x] s (fun v s' => v = some (.int (nI (bI (t_name (gl l) 0 e && false)))) ∧ s = s') := by
  refine rg_call (Nat.le_of_ble_eq_true rfl) ?_
  have h100 := hl.1.2
  have h99 := isT_all.2.2.2.2.2.1
  have hel : e ≤ l.length := by have := (f_find_s (g := gl l) (c := 32) (l.length - 0) 0).2.1; omega
  have hbn := bI_lt (t_name (gl l) 0 e)
  show rp L xs (d + 3) 36 0 [some (.ref 0), some (.int x), none, none] [] s _
  refine rg_aload_n (d36_0 L xs) rfl ?_
  refine rg_get (d36_1 L xs) (kd := 1) (cj := 0) (k0 := 0) rfl (Or.inl rfl) (by decide) rfl rfl ?_
  refine rg_bipush (d36_4 L xs) (x := 32) (by decide) ?_
  refine rg_iconst (d36_6 L xs) (x := 0) (by decide) ?_
  refine rg_aload_n (d36_7 L xs) rfl ?_
  refine rg_get (d36_8 L xs) (kd := 1) (cj := 0) (k0 := 0) rfl (Or.inl rfl) (by decide) rfl rfl ?_
  refine rg_invv (d36_11 L xs) (kd := 7) (mj := 15) (n := 0) rfl (Or.inl rfl) (ys := []) (r := [.int 0, .int 32, .ref 1]) rfl rfl (by decide) rfl rfl (Nat.le_of_ble_eq_true rfl) (rts_size isT_all.1 hl) ?_
  rintro _ _ ⟨rfl, rfl⟩ -
  refine rg_invv (d36_14 L xs) (kd := 7) (mj := 37) (n := 3) rfl (Or.inl rfl) (ys := [.int (nI l.length), .int 0, .int 32]) (r := []) rfl rfl (by decide) rfl rfl (Nat.le_of_ble_eq_true rfl) (rts_find (c := 32) (fr := 0) isT_all.1 hl (by decide) (by omega) (Nat.zero_le _) he) ?_
  rintro _ _ ⟨rfl, rfl⟩ -
  refine rg_istore_n (d36_17 L xs) (ls' := [some (.ref 0), some (.int x), some (.int (nI e)), none]) (Nat.le_of_ble_eq_true rfl) rfl ?_
  refine rg_aload_n (d36_18 L xs) rfl ?_
  refine rg_get (d36_19 L xs) (kd := 1) (cj := 0) (k0 := 0) rfl (Or.inl rfl) (by decide) rfl rfl ?_
  refine rg_iconst (d36_22 L xs) (x := 0) (by decide) ?_
  refine rg_iload_n (d36_23 L xs) rfl ?_
  refine rg_invv (d36_24 L xs) (kd := 7) (mj := 38) (n := 2) rfl (Or.inl rfl) (ys := [.int (nI e), .int 0]) (r := []) rfl rfl (by decide) rfl rfl (Nat.le_of_ble_eq_true rfl) (rts_name (fr := 0) isT_all.1 hl (by omega) (Nat.zero_le _)) ?_
  rintro _ _ ⟨rfl, rfl⟩ -
  refine rn_if_ne (d36_27 L xs) (x := bI (t_name (gl l) 0 e)) (by omega) (t := 32) (by decide) (fun h1 => ?_) (fun h1 => ?_)
  · refine rg_iload_n (d36_32 L xs) rfl ?_
    refine rg_iconst (d36_33 L xs) (x := 1) (by decide) ?_
    refine rg_iadd (d36_34 L xs) ?_
    refine rg_top (y := (nI (e + 1))) (nI_add e 1) ?_
    refine rg_istore_n (d36_35 L xs) (ls' := [some (.ref 0), some (.int x), some (.int (nI e)), some (.int (nI (e + 1)))]) (Nat.le_of_ble_eq_true rfl) rfl ?_
    refine rg_iload_n (d36_36 L xs) rfl ?_
    refine rg_tswOut (d36_37 L xs) (t := 150) hx (by decide) ?_
    refine rg_iconst (d36_150 L xs) (x := 0) (by decide) ?_
    exact rg_iret (d36_151 L xs) rfl rfl ⟨by rw [Bool.and_false]; rfl, rfl⟩
  · refine rg_iconst (d36_30 L xs) (x := 0) (by decide) ?_
    exact rg_iret (d36_31 L xs) rfl rfl ⟨by rw [Bool.and_false]; rfl, rfl⟩
theorem rgd_tir {kd : Nat} (hl : hold s 1 l) (hk : kd ≤ 4) : rc L xs (d + 4) 36 [.ref 0, .int (nI kd)] s (fun v s' => v = some (.int (nI (bI (t_ok l kd)))) ∧ s = s') := by
  have hel : t_end l ≤ l.length := by have := (f_find_s (g := gl l) (c := 32) (l.length - 0) 0).2.1; unfold t_end; omega
  match kd, hk with
  | 0, _ =>
    unfold t_ok
    rw [if_pos rfl]
    cases ha : f_addr (gl l) l.length (l.length + 1 - (t_end l + 1)) 0 0 (t_end l + 1) (t_end l + 1) with
    | none => exact rgd_tir0n hl rfl ha
    | some v => exact rgd_tir0s hl rfl ha
  | 1, _ =>
    unfold t_ok
    rw [if_neg (by decide), if_pos rfl]
    by_cases e : t_end l < l.length
    · exact rgd_tir1a hl rfl e
    · have e2 : l.length = t_end l := by omega
      have hx : t_name (gl l) (t_end l + 1) l.length = false := by rw [show t_end l + 1 = l.length + 1 by omega]; exact t_name_X _ _
      rw [hx]
      exact rgd_tir1b hl rfl e2
  | 2, _ => exact rgd_tir2 hl rfl
  | 3, _ => exact rgd_tir3 hl rfl
  | 4, _ => exact rgd_tir4 hl rfl
end RT
