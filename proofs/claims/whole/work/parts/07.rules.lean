/-! The rules by which a run is shown: a run from here comes to o; a call comes to o. -/
def ax_Go (T : ax_T) (d mi pc : Nat) (ls : ax_L) (st : List Value) (h : ax_H) (o : ax_O) : Prop := ∃ n, ∀ n', n ≤ n' → ∀ k, n ≤ k → ax_loop T (ax_call T d k) mi n' pc ls st h = some o
def ax_Ca (T : ax_T) (d mi : Nat) (av : List Value) (h : ax_H) (o : ax_O) : Prop := ∃ n, ∀ n', n ≤ n' → ax_call T d n' mi av h = some o
section AX5
variable {T : ax_T} {d mi pc : Nat} {ls : ax_L} {st : List Value} {h : ax_H} {o : ax_O}
theorem ag_pure {i : Instr} {len pc' : Nat} {ls' : ax_L} {st' : List Value} (hd : decode (ax_code T mi) pc = .ok (i, len)) (hp : ax_pure i len pc ls st = some (pc', ls', st')) (k : ax_Go T d mi pc' ls' st' h o) : ax_Go T d mi pc ls st h o := by
  obtain ⟨n, hn⟩ := k
  refine ⟨n + 1, fun n' h1 k h2 => ?_⟩
  obtain ⟨q, rfl⟩ : ∃ q, n' = q + 1 := ⟨n' - 1, by omega⟩
  rw [ax_loop, hd]
  simp only [hp]
  exact hn q (by omega) k (by omega)
theorem ag_mem {i : Instr} {pc' : Nat} {ls' : ax_L} {st' : List Value} {h' : ax_H} (hd : decode (ax_code T mi) pc = .ok (i, ax_ml i)) (hn : ax_pure i (ax_ml i) pc ls st = none) (hp : ax_mem T mi i pc ls st h = some (pc', ls', st', h')) (k : ax_Go T d mi pc' ls' st' h' o) : ax_Go T d mi pc ls st h o := by
  obtain ⟨n, hk⟩ := k
  refine ⟨n + 1, fun n' h1 k h2 => ?_⟩
  obtain ⟨q, rfl⟩ : ∃ q, n' = q + 1 := ⟨n' - 1, by omega⟩
  rw [ax_loop, hd]
  simp only [hn, hp, if_true]
  exact hk q (by omega) k (by omega)
theorem ag_inv {i : Instr} {mj : Nat} {av r : List Value} {v : Option Value} {h' : ax_H} (hd : decode (ax_code T mi) pc = .ok (i, ax_ml i)) (hn : ax_pure i (ax_ml i) pc ls st = none) (hm : ax_mem T mi i pc ls st h = none) (hi : ax_inv T mi i st h = some (mj, av, r)) (hc : ax_Ca T d mj av h (.inl v, h')) (k : ax_Go T d mi (pc + 3) ls (v.toList ++ r) h' o) : ax_Go T d mi pc ls st h o := by
  obtain ⟨n, hk⟩ := k
  obtain ⟨n2, hc⟩ := hc
  refine ⟨n + n2 + 1, fun n' h1 k h2 => ?_⟩
  obtain ⟨q, rfl⟩ : ∃ q, n' = q + 1 := ⟨n' - 1, by omega⟩
  rw [ax_loop, hd]
  simp only [hn, hm, hi, hc k (by omega), if_true]
  exact hk q (by omega) k (by omega)
theorem ag_ret {i : Instr} {v : Option Value} (hd : decode (ax_code T mi) pc = .ok (i, ax_ml i)) (hn : ax_pure i (ax_ml i) pc ls st = none) (hm : ax_mem T mi i pc ls st h = none) (hi : ax_inv T mi i st h = none) (hq : ax_pri T mi i pc st = none) (ht : ax_thr T mi i pc st h = none) (hr : ax_ret (ax_rt T mi) i st = some v) : ax_Go T d mi pc ls st h (.inl v, h) := by
  refine ⟨1, fun n' h1 k h2 => ?_⟩
  obtain ⟨q, rfl⟩ : ∃ q, n' = q + 1 := ⟨n' - 1, by omega⟩
  rw [ax_loop, hd]
  simp only [hn, hm, hi, hq, ht, hr, if_true, Option.map_some]
theorem ag_pri {i : Instr} {pc' : Nat} {st' : List Value} (hd : decode (ax_code T mi) pc = .ok (i, ax_ml i)) (hn : ax_pure i (ax_ml i) pc ls st = none) (hm : ax_mem T mi i pc ls st h = none) (hi : ax_inv T mi i st h = none) (hp : ax_pri T mi i pc st = some (pc', st')) (k : ax_Go T d mi pc' ls st' h o) : ax_Go T d mi pc ls st h o := by
  obtain ⟨n, hk⟩ := k
  refine ⟨n + 1, fun n' h1 k h2 => ?_⟩
  obtain ⟨q, rfl⟩ : ∃ q, n' = q + 1 := ⟨n' - 1, by omega⟩
  rw [ax_loop, hd]
  simp only [hn, hm, hi, hp, if_true]
  exact hk q (by omega) k (by omega)
theorem ag_ldcs {idx k0 x3 : Nat} (hd : decode (ax_code T mi) pc = .ok (.ldc idx, 2)) (hpl : ax_pl T mi idx = (13, k0, x3)) (k : ax_Go T d mi (pc + 2) ls (.ref (ax_big + 1 + k0) :: st) h o) : ax_Go T d mi pc ls st h o :=
  ag_pri hd rfl rfl rfl (by simp [ax_pri, hpl]) k
theorem ag_stl {idx k0 n x2 x3 : Nat} {q : String × Nat × String × List Nat} (hd : decode (ax_code T mi) pc = .ok (.invokevirtual idx, 3)) (hpl : ax_pl T mi idx = (14, x2, x3)) (hq : ax_str[k0]? = some q) (hn : q.2.2.2.length = n) (hr : (st.map (fun v => v.category)).sum ≤ 8) (k : ax_Go T d mi (pc + 3) ls (.int (Int32.ofNat n) :: st) h o) : ax_Go T d mi pc ls (.ref (ax_big + 1 + k0) :: st) h o := by
  have e : ax_big + 1 + k0 - ax_big - 1 = k0 := by omega
  refine ag_pri hd rfl rfl ?_ ?_ k
  · simp only [ax_inv, hpl]
    split
    · rename_i a r hdr
      split
      · rw [if_neg (by simp)]
      · rfl
    · rfl
  · simp only [ax_pri, hpl, e, hq, Option.map_some, hn]
    rw [if_pos ⟨trivial, by omega, hr⟩]
theorem ag_scat {idx k0 x j x2 x3 : Nat} {q : String × Nat × String × List Nat} (hd : decode (ax_code T mi) pc = .ok (.invokevirtual idx, 3)) (hpl : ax_pl T mi idx = (15, x2, x3)) (hq : ax_str[k0]? = some q) (hj : j < 2 ^ 31) (hn : q.2.2.2[j]? = some x) (hr : (st.map (fun v => v.category)).sum ≤ 8) (k : ax_Go T d mi (pc + 3) ls (.int (Int32.ofNat x) :: st) h o) : ax_Go T d mi pc ls (.int (Int32.ofNat j) :: .ref (ax_big + 1 + k0) :: st) h o := by
  have e : ax_big + 1 + k0 - ax_big - 1 = k0 := by omega
  refine ag_pri hd rfl rfl ?_ ?_ k
  · simp only [ax_inv, hpl]
    split
    · rename_i a r hdr
      split
      · rw [if_neg (by simp)]
      · rfl
    · rfl
  · simp only [ax_pri, hpl, e, hq, Option.bind_some, show (Int32.ofNat j).toNatClampNeg = j from nI_clamp hj, hn, Option.map_some]
    rw [if_pos ⟨trivial, by omega, hr, nI_pos hj⟩]
theorem ag_mmin {idx x2 x3 : Nat} {x y : Int32} (hd : decode (ax_code T mi) pc = .ok (.invokestatic idx, 3)) (hpl : ax_pl T mi idx = (19, x2, x3)) (hr : (st.map (fun v => v.category)).sum ≤ 8) (k : ax_Go T d mi (pc + 3) ls (.int (if y < x then y else x) :: st) h o) : ax_Go T d mi pc ls (.int y :: .int x :: st) h o :=
  ag_pri hd rfl rfl (by simp [ax_inv, hpl]) (by simp only [ax_pri, hpl]; rw [if_pos hr, if_pos trivial]) k
theorem ag_mmax {idx x2 x3 : Nat} {x y : Int32} (hd : decode (ax_code T mi) pc = .ok (.invokestatic idx, 3)) (hpl : ax_pl T mi idx = (20, x2, x3)) (hr : (st.map (fun v => v.category)).sum ≤ 8) (k : ax_Go T d mi (pc + 3) ls (.int (if x < y then y else x) :: st) h o) : ax_Go T d mi pc ls (.int y :: .int x :: st) h o :=
  ag_pri hd rfl rfl (by simp [ax_inv, hpl]) (by simp only [ax_pri, hpl]; rw [if_pos hr, if_neg (by decide), if_pos trivial]) k
theorem ag_call {av : List Value} {v : Option Value} {h1 : ax_H} (hl : (ax_sl av).length ≤ ax_mx T mi) (k : ax_Go T d mi 0 (ax_entry T mi av) [] h (.inl v, h1)) : ax_Ca T (d + 1) mi av h (.inl v, h1) := by
  obtain ⟨n, hk⟩ := k
  refine ⟨n, fun n' h1 => ?_⟩
  rw [ax_call, if_pos hl, hk n' h1 n' h1]
  rfl
theorem ag_callT {av : List Value} {x : Nat} (hl : (ax_sl av).length ≤ ax_mx T mi) (k : ax_Go T d mi 0 (ax_entry T mi av) [] h (.inr x, ax_one h)) : ax_Ca T (d + 1) mi av h (.inr x, ax_one h) := by
  obtain ⟨n, hk⟩ := k
  refine ⟨n, fun n' h1 => ?_⟩
  rw [ax_call, if_pos hl, hk n' h1 n' h1]
  simp [Option.filter, ax_fit1, ax_one]
theorem ag_thr {idx ic x : Nat} (hd : decode (ax_code T mi) pc = .ok (.new idx, 3)) (hpl : ax_pl T mi idx = (10, x, ic)) (hd1 : decode (ax_code T mi) (pc + 3) = .ok (.dup, 1)) (hd2 : decode (ax_code T mi) (pc + 4) = .ok (.invokespecial ic, 3)) (hd3 : decode (ax_code T mi) (pc + 7) = .ok (.athrow, 1)) (hb : h.2.1 < ax_big) (hw : (st.map (fun v => v.category)).sum ≤ 8) (hh : ax_hs T mi = []) : ax_Go T d mi pc ls st h (.inr x, ax_one h) := by
  refine ⟨1, fun n' h1 k h2 => ?_⟩
  obtain ⟨q, rfl⟩ : ∃ q, n' = q + 1 := ⟨n' - 1, by omega⟩
  rw [ax_loop, hd]
  have e1 : ax_pure (.new idx) 3 pc ls st = none := rfl
  have e2 : ax_mem T mi (.new idx) pc ls st h = none := by simp [ax_mem, ax_new, hpl]
  have e3 : ax_inv T mi (.new idx) st h = none := rfl
  have e5 : ax_pri T mi (.new idx) pc st = none := rfl
  have e4 : ax_thr T mi (.new idx) pc st h = some (.inr x, ax_one h) := by simp [ax_thr, hd1, hd2, hd3, hpl, hb, hw, hh]
  simp only [e1, e2, e3, e4, e5, ax_ml, if_true]
/-- a call that throws, caught -/
theorem ag_invc {idx mj n a ci x pc' : Nat} {st0 xs r fs : List Value} {h' : ax_H} (hd : decode (ax_code T mi) pc = .ok (.invokevirtual idx, 3)) (hpl : ax_pl T mi idx = (7, mj, n)) (hst : st0 = xs ++ .ref a :: r) (hn : xs.length = n) (ha : h.1 a = some (.inr (ci, fs))) (hC : ((ax_cl T)[ci]?).map (fun q => q.1) = some (ax_nm T mj).cls) (hr : (r.map (fun v => v.category)).sum ≤ 8) (hc : ax_Ca T d mj (.ref a :: xs.reverse) h (.inr x, h')) (hh : ax_hd T mi pc x = some pc') (k : ax_Go T d mi pc' ls [.ref (h'.2.1 - 1)] h' o) : ax_Go T d mi pc ls st0 h o := by
  subst hst; subst hn
  obtain ⟨n, hk⟩ := k
  obtain ⟨n2, hc⟩ := hc
  refine ⟨n + n2 + 1, fun n' h1 k h2 => ?_⟩
  obtain ⟨q, rfl⟩ : ∃ q, n' = q + 1 := ⟨n' - 1, by omega⟩
  rw [ax_loop, hd]
  have e1 : ax_pure (.invokevirtual idx) 3 pc ls (xs ++ .ref a :: r) = none := rfl
  have e2 : ax_mem T mi (.invokevirtual idx) pc ls (xs ++ .ref a :: r) h = none := rfl
  have e3 : ax_inv T mi (.invokevirtual idx) (xs ++ .ref a :: r) h = some (mj, .ref a :: xs.reverse, r) := by
    simp only [ax_inv, hpl, List.drop_left, ha, List.take_left, hC, hr, and_self, if_true, true_or]
  have e4 : ax_cv T mi (.invokevirtual idx) = true := by simp [ax_cv, hpl]
  simp only [e1, e2, e3, e4, hc k (by omega), hh, ax_ml, if_true]
  exact hk q (by omega) k (by omega)
theorem ag_iconst {n : Int} {x : Int32} (hd : decode (ax_code T mi) pc = .ok (.iconst n, 1)) (hx : Int32.ofInt n = x) (k : ax_Go T d mi (pc + 1) (ls) (.int x :: st) h o) : ax_Go T d mi pc ls (st) h o :=
  ag_pure hd (by subst hx; rfl) k
theorem ag_bipush {n : Int} {x : Int32} (hd : decode (ax_code T mi) pc = .ok (.bipush n, 2)) (hx : (Int8.ofInt n).toInt32 = x) (k : ax_Go T d mi (pc + 2) (ls) (.int x :: st) h o) : ax_Go T d mi pc ls (st) h o :=
  ag_pure hd (by subst hx; rfl) k
theorem ag_sipush {n : Int} {x : Int32} (hd : decode (ax_code T mi) pc = .ok (.sipush n, 3)) (hx : (Int16.ofInt n).toInt32 = x) (k : ax_Go T d mi (pc + 3) (ls) (.int x :: st) h o) : ax_Go T d mi pc ls (st) h o :=
  ag_pure hd (by subst hx; rfl) k
theorem ag_lconst {n : Fin 2} {x : Int64} (hd : decode (ax_code T mi) pc = .ok (.lconst n, 1)) (hx : Int64.ofNat (n : Nat) = x) (k : ax_Go T d mi (pc + 1) (ls) (.long x :: st) h o) : ax_Go T d mi pc ls (st) h o :=
  ag_pure hd (by subst hx; rfl) k
theorem ag_null (hd : decode (ax_code T mi) pc = .ok (.aconst_null, 1)) (k : ax_Go T d mi (pc + 1) (ls) (.null :: st) h o) : ax_Go T d mi pc ls (st) h o :=
  ag_pure hd (rfl) k
theorem ag_iload {n : Nat} {x : Int32} (hd : decode (ax_code T mi) pc = .ok (.iload n, 2)) (hx : ax_ld ls n = some (.int x)) (k : ax_Go T d mi (pc + 2) (ls) (.int x :: st) h o) : ax_Go T d mi pc ls (st) h o :=
  ag_pure hd (by simp [ax_pure, ax_load, hx]) k
theorem ag_iload_n {n : Fin 4} {x : Int32} (hd : decode (ax_code T mi) pc = .ok (.iload_n n, 1)) (hx : ax_ld ls n = some (.int x)) (k : ax_Go T d mi (pc + 1) (ls) (.int x :: st) h o) : ax_Go T d mi pc ls (st) h o :=
  ag_pure hd (by simp [ax_pure, ax_load, hx]) k
theorem ag_lload {n : Nat} {x : Int64} (hd : decode (ax_code T mi) pc = .ok (.lload n, 2)) (hx : ax_ld ls n = some (.long x)) (k : ax_Go T d mi (pc + 2) (ls) (.long x :: st) h o) : ax_Go T d mi pc ls (st) h o :=
  ag_pure hd (by simp [ax_pure, ax_load, hx]) k
theorem ag_lload_n {n : Fin 4} {x : Int64} (hd : decode (ax_code T mi) pc = .ok (.lload_n n, 1)) (hx : ax_ld ls n = some (.long x)) (k : ax_Go T d mi (pc + 1) (ls) (.long x :: st) h o) : ax_Go T d mi pc ls (st) h o :=
  ag_pure hd (by simp [ax_pure, ax_load, hx]) k
theorem ag_aload {n : Nat} {x : Nat} (hd : decode (ax_code T mi) pc = .ok (.aload n, 2)) (hx : ax_ld ls n = some (.ref x)) (k : ax_Go T d mi (pc + 2) (ls) (.ref x :: st) h o) : ax_Go T d mi pc ls (st) h o :=
  ag_pure hd (by simp [ax_pure, ax_load, hx]) k
theorem ag_aload_n {n : Fin 4} {x : Nat} (hd : decode (ax_code T mi) pc = .ok (.aload_n n, 1)) (hx : ax_ld ls n = some (.ref x)) (k : ax_Go T d mi (pc + 1) (ls) (.ref x :: st) h o) : ax_Go T d mi pc ls (st) h o :=
  ag_pure hd (by simp [ax_pure, ax_load, hx]) k
theorem ag_aloadN {n : Nat} (hd : decode (ax_code T mi) pc = .ok (.aload n, 2)) (hx : ax_ld ls n = some .null) (k : ax_Go T d mi (pc + 2) (ls) (.null :: st) h o) : ax_Go T d mi pc ls (st) h o :=
  ag_pure hd (by simp [ax_pure, ax_load, hx]) k
theorem ag_aload_nN {n : Fin 4} (hd : decode (ax_code T mi) pc = .ok (.aload_n n, 1)) (hx : ax_ld ls n = some .null) (k : ax_Go T d mi (pc + 1) (ls) (.null :: st) h o) : ax_Go T d mi pc ls (st) h o :=
  ag_pure hd (by simp [ax_pure, ax_load, hx]) k
theorem ag_istore {n : Nat} {x : Int32} {ls' : ax_L} (hd : decode (ax_code T mi) pc = .ok (.istore n, 2)) (hn : n < ls.length) (hx : ax_set ls n (.int x) = ls') (k : ax_Go T d mi (pc + 2) (ls') (st) h o) : ax_Go T d mi pc ls (.int x :: st) h o :=
  ag_pure hd (by subst hx; simp [ax_pure, ax_store, hn]) k
theorem ag_istore_n {n : Fin 4} {x : Int32} {ls' : ax_L} (hd : decode (ax_code T mi) pc = .ok (.istore_n n, 1)) (hn : (n : Nat) < ls.length) (hx : ax_set ls n (.int x) = ls') (k : ax_Go T d mi (pc + 1) (ls') (st) h o) : ax_Go T d mi pc ls (.int x :: st) h o :=
  ag_pure hd (by subst hx; simp [ax_pure, ax_store, hn]) k
theorem ag_lstore {n : Nat} {x : Int64} {ls' : ax_L} (hd : decode (ax_code T mi) pc = .ok (.lstore n, 2)) (hn : n + 1 < ls.length) (hx : ax_set ls n (.long x) = ls') (k : ax_Go T d mi (pc + 2) (ls') (st) h o) : ax_Go T d mi pc ls (.long x :: st) h o :=
  ag_pure hd (by subst hx; simp [ax_pure, ax_store, hn]) k
theorem ag_lstore_n {n : Fin 4} {x : Int64} {ls' : ax_L} (hd : decode (ax_code T mi) pc = .ok (.lstore_n n, 1)) (hn : (n : Nat) + 1 < ls.length) (hx : ax_set ls n (.long x) = ls') (k : ax_Go T d mi (pc + 1) (ls') (st) h o) : ax_Go T d mi pc ls (.long x :: st) h o :=
  ag_pure hd (by subst hx; simp [ax_pure, ax_store, hn]) k
theorem ag_astore {n : Nat} {x : Nat} {ls' : ax_L} (hd : decode (ax_code T mi) pc = .ok (.astore n, 2)) (hn : n < ls.length) (hx : ax_set ls n (.ref x) = ls') (k : ax_Go T d mi (pc + 2) (ls') (st) h o) : ax_Go T d mi pc ls (.ref x :: st) h o :=
  ag_pure hd (by subst hx; simp [ax_pure, ax_store, hn]) k
theorem ag_astore_n {n : Fin 4} {x : Nat} {ls' : ax_L} (hd : decode (ax_code T mi) pc = .ok (.astore_n n, 1)) (hn : (n : Nat) < ls.length) (hx : ax_set ls n (.ref x) = ls') (k : ax_Go T d mi (pc + 1) (ls') (st) h o) : ax_Go T d mi pc ls (.ref x :: st) h o :=
  ag_pure hd (by subst hx; simp [ax_pure, ax_store, hn]) k
theorem ag_astoreN {n : Nat} {ls' : ax_L} (hd : decode (ax_code T mi) pc = .ok (.astore n, 2)) (hn : n < ls.length) (hx : ax_set ls n .null = ls') (k : ax_Go T d mi (pc + 2) (ls') (st) h o) : ax_Go T d mi pc ls (.null :: st) h o :=
  ag_pure hd (by subst hx; simp [ax_pure, ax_store, hn]) k
theorem ag_astore_nN {n : Fin 4} {ls' : ax_L} (hd : decode (ax_code T mi) pc = .ok (.astore_n n, 1)) (hn : (n : Nat) < ls.length) (hx : ax_set ls n .null = ls') (k : ax_Go T d mi (pc + 1) (ls') (st) h o) : ax_Go T d mi pc ls (.null :: st) h o :=
  ag_pure hd (by subst hx; simp [ax_pure, ax_store, hn]) k
theorem ag_iinc {n : Nat} {k0 : Int} {x y : Int32} {ls' : ax_L} (hd : decode (ax_code T mi) pc = .ok (.iinc n k0, 3)) (hx : ax_ld ls n = some (.int x)) (hy : x + Int32.ofInt k0 = y) (hl : ax_set ls n (.int y) = ls') (k : ax_Go T d mi (pc + 3) (ls') (st) h o) : ax_Go T d mi pc ls (st) h o :=
  ag_pure hd (by subst hy; subst hl; simp [ax_pure, hx]) k
theorem ag_goto {off : Int} {t : Nat} (hd : decode (ax_code T mi) pc = .ok (.goto off, 3)) (ht : ax_jmp pc off = some t) (k : ax_Go T d mi (t) (ls) (st) h o) : ax_Go T d mi pc ls (st) h o :=
  ag_pure hd (by simp [ax_pure, ht]) k
theorem ag_ineg {x : Int32} (hd : decode (ax_code T mi) pc = .ok (.ineg, 1)) (k : ax_Go T d mi (pc + 1) (ls) (.int (-x) :: st) h o) : ax_Go T d mi pc ls (.int x :: st) h o :=
  ag_pure hd (rfl) k
theorem ag_i2l {x : Int32} (hd : decode (ax_code T mi) pc = .ok (.i2l, 1)) (k : ax_Go T d mi (pc + 1) (ls) (.long x.toInt64 :: st) h o) : ax_Go T d mi pc ls (.int x :: st) h o :=
  ag_pure hd (rfl) k
theorem ag_l2i {x : Int64} (hd : decode (ax_code T mi) pc = .ok (.l2i, 1)) (k : ax_Go T d mi (pc + 1) (ls) (.int x.toInt32 :: st) h o) : ax_Go T d mi pc ls (.long x :: st) h o :=
  ag_pure hd (rfl) k
theorem ag_i2c {x : Int32} (hd : decode (ax_code T mi) pc = .ok (.i2c, 1)) (k : ax_Go T d mi (pc + 1) (ls) (.int (x.toUInt32 % 65536).toInt32 :: st) h o) : ax_Go T d mi pc ls (.int x :: st) h o :=
  ag_pure hd (rfl) k
theorem ag_iadd {a b : Int32} (hd : decode (ax_code T mi) pc = .ok (.iadd, 1)) (k : ax_Go T d mi (pc + 1) (ls) (.int (a + b) :: st) h o) : ax_Go T d mi pc ls (.int b :: .int a :: st) h o :=
  ag_pure hd (rfl) k
theorem ag_isub {a b : Int32} (hd : decode (ax_code T mi) pc = .ok (.isub, 1)) (k : ax_Go T d mi (pc + 1) (ls) (.int (a - b) :: st) h o) : ax_Go T d mi pc ls (.int b :: .int a :: st) h o :=
  ag_pure hd (rfl) k
theorem ag_imul {a b : Int32} (hd : decode (ax_code T mi) pc = .ok (.imul, 1)) (k : ax_Go T d mi (pc + 1) (ls) (.int (a * b) :: st) h o) : ax_Go T d mi pc ls (.int b :: .int a :: st) h o :=
  ag_pure hd (rfl) k
theorem ag_iand {a b : Int32} (hd : decode (ax_code T mi) pc = .ok (.iand, 1)) (k : ax_Go T d mi (pc + 1) (ls) (.int (a &&& b) :: st) h o) : ax_Go T d mi pc ls (.int b :: .int a :: st) h o :=
  ag_pure hd (rfl) k
theorem ag_ior {a b : Int32} (hd : decode (ax_code T mi) pc = .ok (.ior, 1)) (k : ax_Go T d mi (pc + 1) (ls) (.int (a ||| b) :: st) h o) : ax_Go T d mi pc ls (.int b :: .int a :: st) h o :=
  ag_pure hd (rfl) k
theorem ag_ixor {a b : Int32} (hd : decode (ax_code T mi) pc = .ok (.ixor, 1)) (k : ax_Go T d mi (pc + 1) (ls) (.int (a ^^^ b) :: st) h o) : ax_Go T d mi pc ls (.int b :: .int a :: st) h o :=
  ag_pure hd (rfl) k
theorem ag_ishl {a b : Int32} (hd : decode (ax_code T mi) pc = .ok (.ishl, 1)) (k : ax_Go T d mi (pc + 1) (ls) (.int (a <<< (b &&& 31)) :: st) h o) : ax_Go T d mi pc ls (.int b :: .int a :: st) h o :=
  ag_pure hd (rfl) k
theorem ag_ishr {a b : Int32} (hd : decode (ax_code T mi) pc = .ok (.ishr, 1)) (k : ax_Go T d mi (pc + 1) (ls) (.int (a >>> (b &&& 31)) :: st) h o) : ax_Go T d mi pc ls (.int b :: .int a :: st) h o :=
  ag_pure hd (rfl) k
theorem ag_iushr {a b : Int32} (hd : decode (ax_code T mi) pc = .ok (.iushr, 1)) (k : ax_Go T d mi (pc + 1) (ls) (.int ((a.toUInt32 >>> (b.toUInt32 &&& Int32.toUInt32 31)).toInt32) :: st) h o) : ax_Go T d mi pc ls (.int b :: .int a :: st) h o :=
  ag_pure hd (rfl) k
theorem ag_idiv {a b : Int32} (hd : decode (ax_code T mi) pc = .ok (.idiv, 1)) (hb : ¬ b = 0) (k : ax_Go T d mi (pc + 1) (ls) (.int (a / b) :: st) h o) : ax_Go T d mi pc ls (.int b :: .int a :: st) h o :=
  ag_pure hd (by simp [ax_pure, ax_bin, hb]) k
theorem ag_irem {a b : Int32} (hd : decode (ax_code T mi) pc = .ok (.irem, 1)) (hb : ¬ b = 0) (k : ax_Go T d mi (pc + 1) (ls) (.int (a - a / b * b) :: st) h o) : ax_Go T d mi pc ls (.int b :: .int a :: st) h o :=
  ag_pure hd (by simp [ax_pure, ax_bin, hb]) k
theorem ag_ladd {a b : Int64} (hd : decode (ax_code T mi) pc = .ok (.ladd, 1)) (k : ax_Go T d mi (pc + 1) (ls) (.long (a + b) :: st) h o) : ax_Go T d mi pc ls (.long b :: .long a :: st) h o :=
  ag_pure hd (rfl) k
theorem ag_land {a b : Int64} (hd : decode (ax_code T mi) pc = .ok (.land, 1)) (k : ax_Go T d mi (pc + 1) (ls) (.long (a &&& b) :: st) h o) : ax_Go T d mi pc ls (.long b :: .long a :: st) h o :=
  ag_pure hd (rfl) k
theorem ag_lor {a b : Int64} (hd : decode (ax_code T mi) pc = .ok (.lor, 1)) (k : ax_Go T d mi (pc + 1) (ls) (.long (a ||| b) :: st) h o) : ax_Go T d mi pc ls (.long b :: .long a :: st) h o :=
  ag_pure hd (rfl) k
theorem ag_lcmp {a b : Int64} (hd : decode (ax_code T mi) pc = .ok (.lcmp, 1)) (k : ax_Go T d mi (pc + 1) (ls) (.int (lg_cmp a b) :: st) h o) : ax_Go T d mi pc ls (.long b :: .long a :: st) h o :=
  ag_pure hd (rfl) k
theorem ag_lshl {a : Int64} {b : Int32} (hd : decode (ax_code T mi) pc = .ok (.lshl, 1)) (k : ax_Go T d mi (pc + 1) (ls) (.long (a <<< (b.toInt64 &&& 63)) :: st) h o) : ax_Go T d mi pc ls (.int b :: .long a :: st) h o :=
  ag_pure hd (rfl) k
theorem ag_lshr {a : Int64} {b : Int32} (hd : decode (ax_code T mi) pc = .ok (.lshr, 1)) (k : ax_Go T d mi (pc + 1) (ls) (.long (a >>> (b.toInt64 &&& 63)) :: st) h o) : ax_Go T d mi pc ls (.int b :: .long a :: st) h o :=
  ag_pure hd (rfl) k
theorem ag_lushr {a : Int64} {b : Int32} (hd : decode (ax_code T mi) pc = .ok (.lushr, 1)) (k : ax_Go T d mi (pc + 1) (ls) (.long ((a.toUInt64 >>> (b.toInt64.toUInt64 &&& Int64.toUInt64 63)).toInt64) :: st) h o) : ax_Go T d mi pc ls (.int b :: .long a :: st) h o :=
  ag_pure hd (rfl) k
theorem ag_dup {a : Value} (hd : decode (ax_code T mi) pc = .ok (.dup, 1)) (ha : a.category = 1) (k : ax_Go T d mi (pc + 1) (ls) (a :: a :: st) h o) : ax_Go T d mi pc ls (a :: st) h o :=
  ag_pure hd (by simp [ax_pure, ax_stk, ha]) k
theorem ag_pop {a : Value} (hd : decode (ax_code T mi) pc = .ok (.pop, 1)) (ha : a.category = 1) (k : ax_Go T d mi (pc + 1) (ls) (st) h o) : ax_Go T d mi pc ls (a :: st) h o :=
  ag_pure hd (by simp [ax_pure, ax_stk, ha]) k
theorem ag_dup_x1 {a b : Value} (hd : decode (ax_code T mi) pc = .ok (.dup_x1, 1)) (ha : a.category = 1) (hb : b.category = 1) (k : ax_Go T d mi (pc + 1) (ls) (a :: b :: a :: st) h o) : ax_Go T d mi pc ls (a :: b :: st) h o :=
  ag_pure hd (by simp [ax_pure, ax_stk, ha, hb]) k
theorem ag_dup2 {a b : Value} (hd : decode (ax_code T mi) pc = .ok (.dup2, 1)) (ha : a.category = 1) (hb : b.category = 1) (k : ax_Go T d mi (pc + 1) (ls) (a :: b :: a :: b :: st) h o) : ax_Go T d mi pc ls (a :: b :: st) h o :=
  ag_pure hd (by simp [ax_pure, ax_stk, ha, hb]) k
theorem ag_ifnull {a : Nat} {off : Int} (hd : decode (ax_code T mi) pc = .ok (.ifnull off, 3)) (k : ax_Go T d mi (pc + 3) (ls) (st) h o) : ax_Go T d mi pc ls (.ref a :: st) h o :=
  ag_pure hd (rfl) k
theorem ag_ifnullN {off : Int} {t : Nat} (hd : decode (ax_code T mi) pc = .ok (.ifnull off, 3)) (ht : ax_jmp pc off = some t) (k : ax_Go T d mi (t) (ls) (st) h o) : ax_Go T d mi pc ls (.null :: st) h o :=
  ag_pure hd (by simp [ax_pure, ax_stk, ht]) k
theorem ag_ifnonnull {a : Nat} {off : Int} {t : Nat} (hd : decode (ax_code T mi) pc = .ok (.ifnonnull off, 3)) (ht : ax_jmp pc off = some t) (k : ax_Go T d mi (t) (ls) (st) h o) : ax_Go T d mi pc ls (.ref a :: st) h o :=
  ag_pure hd (by simp [ax_pure, ax_stk, ht]) k
theorem ag_ifnonnullN {off : Int} (hd : decode (ax_code T mi) pc = .ok (.ifnonnull off, 3)) (k : ax_Go T d mi (pc + 3) (ls) (st) h o) : ax_Go T d mi pc ls (.null :: st) h o :=
  ag_pure hd (rfl) k
theorem ag_if_eq {x : Int32} {off : Int} {t : Nat} (hd : decode (ax_code T mi) pc = .ok (.ifCond .eq off, 3)) (ht : ax_jmp pc off = some t) (kt : x = 0 → ax_Go T d mi t ls st h o) (kf : ¬ (x = 0) → ax_Go T d mi (pc + 3) ls st h o) : ax_Go T d mi pc ls (.int x :: st) h o := by
  by_cases hc : x = 0
  · exact ag_pure (pc' := t) (ls' := ls) (st' := st) hd (by simp only [ax_pure, ax_stk, ax_br, ht, Option.map_some, show ax_cmp .eq x 0 = true from decide_eq_true hc, cond_true]) (kt hc)
  · exact ag_pure (pc' := pc + 3) (ls' := ls) (st' := st) hd (by simp only [ax_pure, ax_stk, ax_br, ht, Option.map_some, show ax_cmp .eq x 0 = false from decide_eq_false hc, cond_false]) (kf hc)
theorem ag_icmp_eq {x y : Int32} {off : Int} {t : Nat} (hd : decode (ax_code T mi) pc = .ok (.if_icmp .eq off, 3)) (ht : ax_jmp pc off = some t) (kt : x = y → ax_Go T d mi t ls st h o) (kf : ¬ (x = y) → ax_Go T d mi (pc + 3) ls st h o) : ax_Go T d mi pc ls (.int y :: .int x :: st) h o := by
  by_cases hc : x = y
  · exact ag_pure (pc' := t) (ls' := ls) (st' := st) hd (by simp only [ax_pure, ax_stk, ax_br, ht, Option.map_some, show ax_cmp .eq x y = true from decide_eq_true hc, cond_true]) (kt hc)
  · exact ag_pure (pc' := pc + 3) (ls' := ls) (st' := st) hd (by simp only [ax_pure, ax_stk, ax_br, ht, Option.map_some, show ax_cmp .eq x y = false from decide_eq_false hc, cond_false]) (kf hc)
theorem ag_if_ne {x : Int32} {off : Int} {t : Nat} (hd : decode (ax_code T mi) pc = .ok (.ifCond .ne off, 3)) (ht : ax_jmp pc off = some t) (kt : ¬ x = 0 → ax_Go T d mi t ls st h o) (kf : ¬ (¬ x = 0) → ax_Go T d mi (pc + 3) ls st h o) : ax_Go T d mi pc ls (.int x :: st) h o := by
  by_cases hc : ¬ x = 0
  · exact ag_pure (pc' := t) (ls' := ls) (st' := st) hd (by simp only [ax_pure, ax_stk, ax_br, ht, Option.map_some, show ax_cmp .ne x 0 = true from decide_eq_true hc, cond_true]) (kt hc)
  · exact ag_pure (pc' := pc + 3) (ls' := ls) (st' := st) hd (by simp only [ax_pure, ax_stk, ax_br, ht, Option.map_some, show ax_cmp .ne x 0 = false from decide_eq_false hc, cond_false]) (kf hc)
theorem ag_icmp_ne {x y : Int32} {off : Int} {t : Nat} (hd : decode (ax_code T mi) pc = .ok (.if_icmp .ne off, 3)) (ht : ax_jmp pc off = some t) (kt : ¬ x = y → ax_Go T d mi t ls st h o) (kf : ¬ (¬ x = y) → ax_Go T d mi (pc + 3) ls st h o) : ax_Go T d mi pc ls (.int y :: .int x :: st) h o := by
  by_cases hc : ¬ x = y
  · exact ag_pure (pc' := t) (ls' := ls) (st' := st) hd (by simp only [ax_pure, ax_stk, ax_br, ht, Option.map_some, show ax_cmp .ne x y = true from decide_eq_true hc, cond_true]) (kt hc)
  · exact ag_pure (pc' := pc + 3) (ls' := ls) (st' := st) hd (by simp only [ax_pure, ax_stk, ax_br, ht, Option.map_some, show ax_cmp .ne x y = false from decide_eq_false hc, cond_false]) (kf hc)
theorem ag_if_lt {x : Int32} {off : Int} {t : Nat} (hd : decode (ax_code T mi) pc = .ok (.ifCond .lt off, 3)) (ht : ax_jmp pc off = some t) (kt : x < 0 → ax_Go T d mi t ls st h o) (kf : ¬ (x < 0) → ax_Go T d mi (pc + 3) ls st h o) : ax_Go T d mi pc ls (.int x :: st) h o := by
  by_cases hc : x < 0
  · exact ag_pure (pc' := t) (ls' := ls) (st' := st) hd (by simp only [ax_pure, ax_stk, ax_br, ht, Option.map_some, show ax_cmp .lt x 0 = true from decide_eq_true hc, cond_true]) (kt hc)
  · exact ag_pure (pc' := pc + 3) (ls' := ls) (st' := st) hd (by simp only [ax_pure, ax_stk, ax_br, ht, Option.map_some, show ax_cmp .lt x 0 = false from decide_eq_false hc, cond_false]) (kf hc)
theorem ag_icmp_lt {x y : Int32} {off : Int} {t : Nat} (hd : decode (ax_code T mi) pc = .ok (.if_icmp .lt off, 3)) (ht : ax_jmp pc off = some t) (kt : x < y → ax_Go T d mi t ls st h o) (kf : ¬ (x < y) → ax_Go T d mi (pc + 3) ls st h o) : ax_Go T d mi pc ls (.int y :: .int x :: st) h o := by
  by_cases hc : x < y
  · exact ag_pure (pc' := t) (ls' := ls) (st' := st) hd (by simp only [ax_pure, ax_stk, ax_br, ht, Option.map_some, show ax_cmp .lt x y = true from decide_eq_true hc, cond_true]) (kt hc)
  · exact ag_pure (pc' := pc + 3) (ls' := ls) (st' := st) hd (by simp only [ax_pure, ax_stk, ax_br, ht, Option.map_some, show ax_cmp .lt x y = false from decide_eq_false hc, cond_false]) (kf hc)
theorem ag_if_ge {x : Int32} {off : Int} {t : Nat} (hd : decode (ax_code T mi) pc = .ok (.ifCond .ge off, 3)) (ht : ax_jmp pc off = some t) (kt : 0 ≤ x → ax_Go T d mi t ls st h o) (kf : ¬ (0 ≤ x) → ax_Go T d mi (pc + 3) ls st h o) : ax_Go T d mi pc ls (.int x :: st) h o := by
  by_cases hc : 0 ≤ x
  · exact ag_pure (pc' := t) (ls' := ls) (st' := st) hd (by simp only [ax_pure, ax_stk, ax_br, ht, Option.map_some, show ax_cmp .ge x 0 = true from decide_eq_true hc, cond_true]) (kt hc)
  · exact ag_pure (pc' := pc + 3) (ls' := ls) (st' := st) hd (by simp only [ax_pure, ax_stk, ax_br, ht, Option.map_some, show ax_cmp .ge x 0 = false from decide_eq_false hc, cond_false]) (kf hc)
theorem ag_icmp_ge {x y : Int32} {off : Int} {t : Nat} (hd : decode (ax_code T mi) pc = .ok (.if_icmp .ge off, 3)) (ht : ax_jmp pc off = some t) (kt : y ≤ x → ax_Go T d mi t ls st h o) (kf : ¬ (y ≤ x) → ax_Go T d mi (pc + 3) ls st h o) : ax_Go T d mi pc ls (.int y :: .int x :: st) h o := by
  by_cases hc : y ≤ x
  · exact ag_pure (pc' := t) (ls' := ls) (st' := st) hd (by simp only [ax_pure, ax_stk, ax_br, ht, Option.map_some, show ax_cmp .ge x y = true from decide_eq_true hc, cond_true]) (kt hc)
  · exact ag_pure (pc' := pc + 3) (ls' := ls) (st' := st) hd (by simp only [ax_pure, ax_stk, ax_br, ht, Option.map_some, show ax_cmp .ge x y = false from decide_eq_false hc, cond_false]) (kf hc)
theorem ag_if_gt {x : Int32} {off : Int} {t : Nat} (hd : decode (ax_code T mi) pc = .ok (.ifCond .gt off, 3)) (ht : ax_jmp pc off = some t) (kt : 0 < x → ax_Go T d mi t ls st h o) (kf : ¬ (0 < x) → ax_Go T d mi (pc + 3) ls st h o) : ax_Go T d mi pc ls (.int x :: st) h o := by
  by_cases hc : 0 < x
  · exact ag_pure (pc' := t) (ls' := ls) (st' := st) hd (by simp only [ax_pure, ax_stk, ax_br, ht, Option.map_some, show ax_cmp .gt x 0 = true from decide_eq_true hc, cond_true]) (kt hc)
  · exact ag_pure (pc' := pc + 3) (ls' := ls) (st' := st) hd (by simp only [ax_pure, ax_stk, ax_br, ht, Option.map_some, show ax_cmp .gt x 0 = false from decide_eq_false hc, cond_false]) (kf hc)
theorem ag_icmp_gt {x y : Int32} {off : Int} {t : Nat} (hd : decode (ax_code T mi) pc = .ok (.if_icmp .gt off, 3)) (ht : ax_jmp pc off = some t) (kt : y < x → ax_Go T d mi t ls st h o) (kf : ¬ (y < x) → ax_Go T d mi (pc + 3) ls st h o) : ax_Go T d mi pc ls (.int y :: .int x :: st) h o := by
  by_cases hc : y < x
  · exact ag_pure (pc' := t) (ls' := ls) (st' := st) hd (by simp only [ax_pure, ax_stk, ax_br, ht, Option.map_some, show ax_cmp .gt x y = true from decide_eq_true hc, cond_true]) (kt hc)
  · exact ag_pure (pc' := pc + 3) (ls' := ls) (st' := st) hd (by simp only [ax_pure, ax_stk, ax_br, ht, Option.map_some, show ax_cmp .gt x y = false from decide_eq_false hc, cond_false]) (kf hc)
theorem ag_if_le {x : Int32} {off : Int} {t : Nat} (hd : decode (ax_code T mi) pc = .ok (.ifCond .le off, 3)) (ht : ax_jmp pc off = some t) (kt : x ≤ 0 → ax_Go T d mi t ls st h o) (kf : ¬ (x ≤ 0) → ax_Go T d mi (pc + 3) ls st h o) : ax_Go T d mi pc ls (.int x :: st) h o := by
  by_cases hc : x ≤ 0
  · exact ag_pure (pc' := t) (ls' := ls) (st' := st) hd (by simp only [ax_pure, ax_stk, ax_br, ht, Option.map_some, show ax_cmp .le x 0 = true from decide_eq_true hc, cond_true]) (kt hc)
  · exact ag_pure (pc' := pc + 3) (ls' := ls) (st' := st) hd (by simp only [ax_pure, ax_stk, ax_br, ht, Option.map_some, show ax_cmp .le x 0 = false from decide_eq_false hc, cond_false]) (kf hc)
theorem ag_icmp_le {x y : Int32} {off : Int} {t : Nat} (hd : decode (ax_code T mi) pc = .ok (.if_icmp .le off, 3)) (ht : ax_jmp pc off = some t) (kt : x ≤ y → ax_Go T d mi t ls st h o) (kf : ¬ (x ≤ y) → ax_Go T d mi (pc + 3) ls st h o) : ax_Go T d mi pc ls (.int y :: .int x :: st) h o := by
  by_cases hc : x ≤ y
  · exact ag_pure (pc' := t) (ls' := ls) (st' := st) hd (by simp only [ax_pure, ax_stk, ax_br, ht, Option.map_some, show ax_cmp .le x y = true from decide_eq_true hc, cond_true]) (kt hc)
  · exact ag_pure (pc' := pc + 3) (ls' := ls) (st' := st) hd (by simp only [ax_pure, ax_stk, ax_br, ht, Option.map_some, show ax_cmp .le x y = false from decide_eq_false hc, cond_false]) (kf hc)
theorem ag_get {idx a cj k0 kd : Nat} {fs : List Value} {v : Value} (hd : decode (ax_code T mi) pc = .ok (.getfield idx, 3)) (hpl : ax_pl T mi idx = (kd, cj, k0)) (hkd : kd = 1 ∨ kd = 2) (ha : h.1 a = some (.inr (cj, fs))) (hv : fs[k0]? = some v) (k : ax_Go T d mi (pc + 3) ls (v :: st) h o) : ax_Go T d mi pc ls (.ref a :: st) h o :=
  ag_mem hd rfl (by simp [ax_mem, ax_getf, ha, hpl, hkd, hv]) k
theorem ag_put {idx a cj k0 : Nat} {fs : List Value} {v : Value} (hd : decode (ax_code T mi) pc = .ok (.putfield idx, 3)) (hpl : ax_pl T mi idx = (1, cj, k0)) (ha : h.1 a = some (.inr (cj, fs))) (hlt : a < h.2.1) (hk : k0 < fs.length) (hf : ax_fit (ax_fty T cj k0) v = true) (hn : ax_fin T mi cj k0 = true) (k : ax_Go T d mi (pc + 3) ls st (ax_up h a (.inr (cj, fs.set k0 v))) o) : ax_Go T d mi pc ls (v :: .ref a :: st) h o :=
  ag_mem hd rfl (by simp [ax_mem, ax_putf, ha, hpl, hlt, hk, hf, hn]) k
theorem ag_iald {a t n : Nat} {f : Nat → Int32} {j x : Int32} (hd : decode (ax_code T mi) pc = .ok (.iaload, 1)) (ha : h.1 a = some (.inl (t, n, .inl f))) (hb : a ≠ ax_big) (ht : (ax_ty T)[t]? = some .int) (hj : vp_in j n) (hx : f j.toNatClampNeg = x) (k : ax_Go T d mi (pc + 1) ls (.int x :: st) h o) : ax_Go T d mi pc ls (.int j :: .ref a :: st) h o := by
  subst hx
  refine ag_mem hd rfl ?_ k
  have hj' : ¬ (j < 0 ∨ n ≤ j.toNatClampNeg) := hj
  simp only [ax_mem, ax_ald, if_neg hb, ha, if_neg hj', ht]
theorem ag_cald {a t n : Nat} {f : Nat → Int32} {j x : Int32} (hd : decode (ax_code T mi) pc = .ok (.caload, 1)) (ha : h.1 a = some (.inl (t, n, .inl f))) (hb : a ≠ ax_big) (ht : (ax_ty T)[t]? = some .char) (hj : vp_in j n) (hx : f j.toNatClampNeg = x) (k : ax_Go T d mi (pc + 1) ls (.int x :: st) h o) : ax_Go T d mi pc ls (.int j :: .ref a :: st) h o := by
  subst hx
  refine ag_mem hd rfl ?_ k
  have hj' : ¬ (j < 0 ∨ n ≤ j.toNatClampNeg) := hj
  simp only [ax_mem, ax_ald, if_neg hb, ha, if_neg hj', ht]
theorem ag_lald {a t n : Nat} {f : Nat → Int64} {j : Int32} {x : Int64} (hd : decode (ax_code T mi) pc = .ok (.laload, 1)) (ha : h.1 a = some (.inl (t, n, .inr (.inl f)))) (hb : a ≠ ax_big) (ht : (ax_ty T)[t]? = some .long) (hj : vp_in j n) (hx : f j.toNatClampNeg = x) (k : ax_Go T d mi (pc + 1) ls (.long x :: st) h o) : ax_Go T d mi pc ls (.int j :: .ref a :: st) h o := by
  subst hx
  refine ag_mem hd rfl ?_ k
  have hj' : ¬ (j < 0 ∨ n ≤ j.toNatClampNeg) := hj
  simp only [ax_mem, ax_ald, if_neg hb, ha, if_neg hj', ht]
theorem ag_aald {a t n : Nat} {f : Nat → Option Nat} {C : String} {j : Int32} {v : Value} (hd : decode (ax_code T mi) pc = .ok (.aaload, 1)) (ha : h.1 a = some (.inl (t, n, .inr (.inr (.inr (.inr f)))))) (hb : a ≠ ax_big) (ht : (ax_ty T)[t]? = some (.object C)) (hj : vp_in j n) (hx : va_rf (f j.toNatClampNeg) = v) (k : ax_Go T d mi (pc + 1) ls (v :: st) h o) : ax_Go T d mi pc ls (.int j :: .ref a :: st) h o := by
  subst hx
  refine ag_mem hd rfl ?_ k
  have hj' : ¬ (j < 0 ∨ n ≤ j.toNatClampNeg) := hj
  simp only [ax_mem, ax_ald, if_neg hb, ha, if_neg hj', ht]
theorem ag_sald {j x : Int32} {L : Nat} {xs : Nat → Int32} (hsc : ax_sc T = some (L, xs)) (hd : decode (ax_code T mi) pc = .ok (.iaload, 1)) (hj : vp_in j L) (hx : xs j.toNatClampNeg = x) (k : ax_Go T d mi (pc + 1) ls (.int x :: st) h o) : ax_Go T d mi pc ls (.int j :: .ref ax_big :: st) h o := by
  subst hx
  refine ag_mem hd rfl ?_ k
  have hj' : ¬ (j < 0 ∨ L ≤ j.toNatClampNeg) := hj
  simp only [ax_mem, ax_ald, if_true, ax_scr, hsc, if_neg hj']
theorem ag_slen {L : Nat} {xs : Nat → Int32} (hsc : ax_sc T = some (L, xs)) (hd : decode (ax_code T mi) pc = .ok (.arraylength, 1)) (k : ax_Go T d mi (pc + 1) ls (.int (Int32.ofNat L) :: st) h o) : ax_Go T d mi pc ls (.ref ax_big :: st) h o := by
  refine ag_mem hd rfl ?_ k
  simp only [ax_mem, ax_alen, if_true, hsc, Option.map_some]
theorem ag_alen {a t n : Nat} {x : (Nat → Int32) ⊕ (Nat → Int64) ⊕ (Nat → UInt32) ⊕ (Nat → UInt64) ⊕ (Nat → Option Nat)} (hd : decode (ax_code T mi) pc = .ok (.arraylength, 1)) (ha : h.1 a = some (.inl (t, n, x))) (hb : a ≠ ax_big) (ht : t < (ax_ty T).length) (k : ax_Go T d mi (pc + 1) ls (.int (Int32.ofNat n) :: st) h o) : ax_Go T d mi pc ls (.ref a :: st) h o := by
  refine ag_mem hd rfl ?_ k
  simp only [ax_mem, ax_alen, if_neg hb, ha, if_pos ht]
theorem ag_iast {a t n : Nat} {f : Nat → Int32} {j x : Int32} (hd : decode (ax_code T mi) pc = .ok (.iastore, 1)) (ha : h.1 a = some (.inl (t, n, .inl f))) (hb : a < h.2.1) (ht : (ax_ty T)[t]? = some .int) (hj : vp_in j n) (k : ax_Go T d mi (pc + 1) ls st (ax_up h a (.inl (t, n, .inl (upd f j.toNatClampNeg x)))) o) : ax_Go T d mi pc ls (.int x :: .int j :: .ref a :: st) h o := by
  refine ag_mem hd rfl ?_ k
  have hj' : ¬ (h.2.1 ≤ a ∨ j < 0 ∨ n ≤ j.toNatClampNeg) := fun q => q.elim (fun q => Nat.not_lt.mpr q hb) hj
  simp only [ax_mem, ax_ast, ha, if_neg hj', ht]
theorem ag_cast {a t n : Nat} {f : Nat → Int32} {j x : Int32} (hd : decode (ax_code T mi) pc = .ok (.castore, 1)) (ha : h.1 a = some (.inl (t, n, .inl f))) (hb : a < h.2.1) (ht : (ax_ty T)[t]? = some .char) (hj : vp_in j n) (k : ax_Go T d mi (pc + 1) ls st (ax_up h a (.inl (t, n, .inl (upd f j.toNatClampNeg (vp_nar .char x))))) o) : ax_Go T d mi pc ls (.int x :: .int j :: .ref a :: st) h o := by
  refine ag_mem hd rfl ?_ k
  have hj' : ¬ (h.2.1 ≤ a ∨ j < 0 ∨ n ≤ j.toNatClampNeg) := fun q => q.elim (fun q => Nat.not_lt.mpr q hb) hj
  simp only [ax_mem, ax_ast, ha, if_neg hj', ht]
theorem ag_last {a t n : Nat} {f : Nat → Int64} {j : Int32} {x : Int64} (hd : decode (ax_code T mi) pc = .ok (.lastore, 1)) (ha : h.1 a = some (.inl (t, n, .inr (.inl f)))) (hb : a < h.2.1) (ht : (ax_ty T)[t]? = some .long) (hj : vp_in j n) (k : ax_Go T d mi (pc + 1) ls st (ax_up h a (.inl (t, n, .inr (.inl (vp_updL f j.toNatClampNeg x))))) o) : ax_Go T d mi pc ls (.long x :: .int j :: .ref a :: st) h o := by
  refine ag_mem hd rfl ?_ k
  have hj' : ¬ (h.2.1 ≤ a ∨ j < 0 ∨ n ≤ j.toNatClampNeg) := fun q => q.elim (fun q => Nat.not_lt.mpr q hb) hj
  simp only [ax_mem, ax_ast, ha, if_neg hj', ht]
theorem ag_aast {a t n ci y : Nat} {fs : List Value} {C : String} {f : Nat → Option Nat} {j : Int32} (hd : decode (ax_code T mi) pc = .ok (.aastore, 1)) (ha : h.1 a = some (.inl (t, n, .inr (.inr (.inr (.inr f)))))) (hb : a < h.2.1) (ht : (ax_ty T)[t]? = some (.object C)) (hj : vp_in j n) (hy : h.1 y = some (.inr (ci, fs))) (hC : ((ax_cl T)[ci]?).map (fun q => q.1) = some C) (k : ax_Go T d mi (pc + 1) ls st (ax_up h a (.inl (t, n, .inr (.inr (.inr (.inr (va_up f j.toNatClampNeg (some y)))))))) o) : ax_Go T d mi pc ls (.ref y :: .int j :: .ref a :: st) h o := by
  refine ag_mem hd rfl ?_ k
  have hj' : ¬ (h.2.1 ≤ a ∨ j < 0 ∨ n ≤ j.toNatClampNeg) := fun q => q.elim (fun q => Nat.not_lt.mpr q hb) hj
  simp only [ax_mem, ax_ast, ha, if_neg hj', ht, hy, hC, if_true]
theorem ag_invs {idx mj n kd : Nat} {st0 xs r : List Value} {v : Option Value} {h' : ax_H} (hd : decode (ax_code T mi) pc = .ok (.invokestatic idx, 3)) (hpl : ax_pl T mi idx = (kd, mj, n)) (hkd : kd = 6 ∨ kd = 16 ∨ kd = 26) (hst : st0 = xs ++ r) (hn : xs.length = n) (hr : (r.map (fun v => v.category)).sum ≤ 8) (hc : ax_Ca T d mj xs.reverse h (.inl v, h')) (k : ax_Go T d mi (pc + 3) ls (v.toList ++ r) h' o) : ax_Go T d mi pc ls st0 h o := by
  subst hst; subst hn
  refine ag_inv hd rfl rfl ?_ hc k
  simp [ax_inv, hpl, hkd, hr]
theorem ag_invv {idx mj n kd a ci : Nat} {st0 xs r fs : List Value} {v : Option Value} {h' : ax_H} (hd : decode (ax_code T mi) pc = .ok (.invokevirtual idx, 3)) (hpl : ax_pl T mi idx = (kd, mj, n)) (hkd : kd = 7 ∨ kd = 17) (hst : st0 = xs ++ .ref a :: r) (hn : xs.length = n) (ha : h.1 a = some (.inr (ci, fs))) (hC : ((ax_cl T)[ci]?).map (fun q => q.1) = some (ax_nm T mj).cls) (hr : (r.map (fun v => v.category)).sum ≤ 8) (hc : ax_Ca T d mj (.ref a :: xs.reverse) h (.inl v, h')) (k : ax_Go T d mi (pc + 3) ls (v.toList ++ r) h' o) : ax_Go T d mi pc ls st0 h o := by
  subst hst; subst hn
  refine ag_inv hd rfl rfl ?_ hc k
  simp only [ax_inv, hpl, List.drop_left, ha, List.take_left, hkd, hC, hr, and_self, if_true]
theorem ag_invi {idx mj n a kd : Nat} {st0 xs r : List Value} {v : Option Value} {h' : ax_H} (hd : decode (ax_code T mi) pc = .ok (.invokespecial idx, 3)) (hpl : ax_pl T mi idx = (kd, mj, n)) (hkd : kd = 8 ∨ kd = 18) (hst : st0 = xs ++ .ref a :: r) (hn : xs.length = n) (hr : (r.map (fun v => v.category)).sum ≤ 8) (hc : ax_Ca T d mj (.ref a :: xs.reverse) h (.inl v, h')) (k : ax_Go T d mi (pc + 3) ls (v.toList ++ r) h' o) : ax_Go T d mi pc ls st0 h o := by
  subst hst; subst hn
  refine ag_inv hd rfl ?_ ?_ hc k
  · cases xs with
    | nil => rcases hkd with rfl | rfl <;> simp [ax_mem, ax_oini, hpl]
    | cons x xs => rcases hkd with rfl | rfl <;> cases x <;> simp [ax_mem, ax_oini, hpl]
  · simp only [ax_inv, hpl, List.drop_left, List.take_left, hkd, hr, and_self, if_true]
theorem ag_ldc2 {idx v x3 : Nat} (hd : decode (ax_code T mi) pc = .ok (.ldc2_w idx, 3)) (hpl : ax_pl T mi idx = (11, v, x3)) (k : ax_Go T d mi (pc + 3) ls (.long (Int64.ofNat v) :: st) h o) : ax_Go T d mi pc ls st h o := by
  refine ag_mem hd rfl ?_ k
  simp only [ax_mem, ax_ldc2, hpl, if_true]
theorem ag_oini {idx a x2 x3 : Nat} (hd : decode (ax_code T mi) pc = .ok (.invokespecial idx, 3)) (hpl : ax_pl T mi idx = (9, x2, x3)) (hr : (st.map (fun v => v.category)).sum ≤ 8) (k : ax_Go T d mi (pc + 3) ls st h o) : ax_Go T d mi pc ls (.ref a :: st) h o := by
  refine ag_mem hd rfl ?_ k
  simp only [ax_mem, ax_oini, hpl, hr, and_self, if_true]
theorem ag_vret (hd : decode (ax_code T mi) pc = .ok (.return_, 1)) (hr : ax_rt T mi = none) : ax_Go T d mi pc ls [] h (.inl none, h) := ag_ret hd rfl rfl rfl rfl rfl (by rw [hr]; rfl)
theorem ag_iret {x : Int32} {ty : FieldType} (hd : decode (ax_code T mi) pc = .ok (.ireturn, 1)) (hr : ax_rt T mi = some ty) (hn : narrow ty (.int x) = .int x) : ax_Go T d mi pc ls [.int x] h (.inl (some (.int x)), h) := ag_ret hd rfl rfl rfl rfl rfl (by rw [hr]; simp only [ax_ret, hn, if_true])
theorem ag_lret {x : Int64} (hd : decode (ax_code T mi) pc = .ok (.lreturn, 1)) (hr : ax_rt T mi = some .long) : ax_Go T d mi pc ls [.long x] h (.inl (some (.long x)), h) := ag_ret hd rfl rfl rfl rfl rfl (by rw [hr]; rfl)
theorem ag_aret {x : Nat} {C : String} (hd : decode (ax_code T mi) pc = .ok (.areturn, 1)) (hr : ax_rt T mi = some (.object C)) : ax_Go T d mi pc ls [.ref x] h (.inl (some (.ref x)), h) := ag_ret hd rfl rfl rfl rfl rfl (by rw [hr]; rfl)
theorem ag_aretN {C : String} (hd : decode (ax_code T mi) pc = .ok (.areturn, 1)) (hr : ax_rt T mi = some (.object C)) : ax_Go T d mi pc ls [.null] h (.inl (some .null), h) := ag_ret hd rfl rfl rfl rfl rfl (by rw [hr]; rfl)
/-- more steps do no harm -/
theorem ax_loop_more {cf cf' : Nat → List Value → ax_H → Option ax_O} (hcf : ∀ mj av h o, cf mj av h = some o → cf' mj av h = some o) : ∀ (n n' : Nat), n ≤ n' → ∀ (pc : Nat) (ls : ax_L) (st : List Value) (h : ax_H) (o : ax_O), ax_loop T cf mi n pc ls st h = some o → ax_loop T cf' mi n' pc ls st h = some o := by
  intro n
  induction n with
  | zero => intro n' _ pc ls st h o hr; cases hr
  | succ n ih =>
    intro n' hn pc ls st h o hr
    obtain ⟨q, rfl⟩ : ∃ q, n' = q + 1 := ⟨n' - 1, by omega⟩
    have ih := ih q (by omega)
    rw [ax_loop] at hr ⊢
    split at hr
    · split at hr
      · exact ih _ _ _ _ _ hr
      · split at hr
        · rename_i hlen
          simp only [if_pos hlen]
          split at hr
          · exact ih _ _ _ _ _ hr
          · split at hr
            · split at hr
              · rename_i hc
                simp only [hcf _ _ _ _ hc]
                exact ih _ _ _ _ _ hr
              · rename_i hc
                simp only [hcf _ _ _ _ hc]
                split at hr
                · rename_i hcv
                  simp only [hcv, if_true]
                  split at hr
                  · exact ih _ _ _ _ _ hr
                  · cases hr
                · cases hr
              · cases hr
            · split at hr
              · exact ih _ _ _ _ _ hr
              · exact hr
        · cases hr
    · cases hr
theorem ax_call_more : ∀ (d n n' mi : Nat), n ≤ n' → ∀ (av : List Value) (h : ax_H) (o : ax_O), ax_call T d n mi av h = some o → ax_call T d n' mi av h = some o := by
  intro d
  induction d with
  | zero => intro n n' mi _ av h o hr; cases hr
  | succ d ih =>
    intro n n' mi hn av h o hr
    obtain ⟨hl, h1, h2⟩ := ax_call_spec hr
    rw [ax_call, if_pos hl, ax_loop_more (fun mj av h o => ih n n' mj hn av h o) n n' hn _ _ _ _ _ h1, Option.filter_eq_some_iff]
    exact ⟨rfl, h2⟩
theorem ax_call_deep : ∀ (d d' n mi : Nat), d ≤ d' → ∀ (av : List Value) (h : ax_H) (o : ax_O), ax_call T d n mi av h = some o → ax_call T d' n mi av h = some o := by
  intro d
  induction d with
  | zero => intro d' n mi _ av h o hr; cases hr
  | succ d ih =>
    intro d' n mi hn av h o hr
    obtain ⟨q, rfl⟩ : ∃ q, d' = q + 1 := ⟨d' - 1, by omega⟩
    obtain ⟨hl, h1, h2⟩ := ax_call_spec hr
    rw [ax_call, if_pos hl, ax_loop_more (fun mj av h o => ih q n mj (by omega) av h o) n n (Nat.le_refl _) _ _ _ _ _ h1, Option.filter_eq_some_iff]
    exact ⟨rfl, h2⟩
theorem ag_deep {d' : Nat} {av : List Value} (hd : d ≤ d') (hr : ax_Ca T d mi av h o) : ax_Ca T d' mi av h o := by
  obtain ⟨n, hn⟩ := hr
  exact ⟨n, fun n' h1 => ax_call_deep d d' n' mi hd av h o (hn n' h1)⟩
theorem ag_done {n : Nat} {av : List Value} (hr : ax_call T d n mi av h = some o) : ax_Ca T d mi av h o := ⟨n, fun n' hn => ax_call_more d n n' mi hn av h o hr⟩
/-- two tables that are one but for the script: T0 has none -/
def ax_eqT (T0 T : ax_T) : Prop := T0.1 = T.1 ∧ T0.2.1 = T.2.1 ∧ T0.2.2.1 = T.2.2.1 ∧ T0.2.2.2.1 = T.2.2.2.1 ∧ T0.2.2.2.2.1 = T.2.2.2.2.1 ∧ T0.2.2.2.2.2.1 = T.2.2.2.2.2.1 ∧ ax_sc T0 = none
end AX5
