/-! more rows of the second layer -/
theorem ag_lsw {T : ax_T} {d mi pc : Nat} {ls : ax_L} {st : List Value} {h : ax_H} {o : ax_O} {x : Int32} {dflt of : Int} {ps : Array (Int × Int)} {len t : Nat} (hd : decode (ax_code T mi) pc = .ok (.lookupswitch dflt ps, len)) (ha : (ps.toList.zip (ps.toList.drop 1)).all (fun (a, next) => a.1 < next.1) = true) (ho : Op.lookupswitch.offset ps.toList dflt x.toInt = of) (ht : ax_jmp pc of = some t) (k : ax_Go T d mi t ls st h o) : ax_Go T d mi pc ls (.int x :: st) h o := by
  refine ag_pure hd ?_ k
  simp only [ax_pure, ax_stk]
  rw [if_pos ha, ho, ht]
  rfl
theorem mg_Rw_ne {s : mg_s} {k r : Nat} : ∀ b, b < 167 → b ≠ 4 → mg_c (mg_Rw s k r) b = mg_c s b := by
  intro b hb hne
  have h8 : ∀ b, b < 167 → b ≠ 4 → (mg_sh.getD b (0, 0)).1 ≠ 8 := by decide +kernel
  have h9 := h8 b hb hne
  unfold mg_c mg_Rw
  generalize (mg_sh.getD b (0, 0)).1 = kd at h9 ⊢
  dsimp only
  unfold mg_cc
  split <;> first | rfl | exact absurd rfl h9
section WP2
variable {L : Nat} {xs : Nat → Int32} {d mi pc : Nat} {ls : ax_L} {st : List Value} {s : mg_s} {Q : Option Value → mg_s → Prop}
theorem wg_lsw {x : Int32} {dflt of : Int} {ps : Array (Int × Int)} {len t : Nat} (hd : decode (ax_code (mgT L xs) mi) pc = .ok (.lookupswitch dflt ps, len)) (ha : (ps.toList.zip (ps.toList.drop 1)).all (fun (a, next) => a.1 < next.1) = true) (ho : Op.lookupswitch.offset ps.toList dflt x.toInt = of) (ht : ax_jmp pc of = some t) (k : wp L xs d mi t ls st s Q) : wp L xs d mi pc ls (.int x :: st) s Q := wp_st (fun h o _ k => ag_lsw hd ha ho ht k) k
theorem wg_ldcs {idx k0 x3 : Nat} (hd : decode (ax_code (mgT L xs) mi) pc = .ok (.ldc idx, 2)) (hpl : ax_pl (mgT L xs) mi idx = (13, k0, x3)) (k : wp L xs d mi (pc + 2) ls (.ref (ax_big + 1 + k0) :: st) s Q) : wp L xs d mi pc ls st s Q := wp_st (fun h o _ k => ag_ldcs hd hpl k) k
theorem wg_stl {idx k0 n x2 x3 : Nat} {q : String × Nat × String × List Nat} (hd : decode (ax_code (mgT L xs) mi) pc = .ok (.invokevirtual idx, 3)) (hpl : ax_pl (mgT L xs) mi idx = (14, x2, x3)) (hq : ax_str[k0]? = some q) (hn : q.2.2.2.length = n) (hr : (st.map (fun v => v.category)).sum ≤ 8) (k : wp L xs d mi (pc + 3) ls (.int (nI n) :: st) s Q) : wp L xs d mi pc ls (.ref (ax_big + 1 + k0) :: st) s Q := wp_st (fun h o _ k => ag_stl hd hpl hq hn hr k) k
theorem wg_scat {idx k0 x j x2 x3 : Nat} {q : String × Nat × String × List Nat} (hd : decode (ax_code (mgT L xs) mi) pc = .ok (.invokevirtual idx, 3)) (hpl : ax_pl (mgT L xs) mi idx = (15, x2, x3)) (hq : ax_str[k0]? = some q) (hj : j < 2 ^ 31) (hn : q.2.2.2[j]? = some x) (hr : (st.map (fun v => v.category)).sum ≤ 8) (k : wp L xs d mi (pc + 3) ls (.int (nI x) :: st) s Q) : wp L xs d mi pc ls (.int (nI j) :: .ref (ax_big + 1 + k0) :: st) s Q := wp_st (fun h o _ k => ag_scat hd hpl hq hj hn hr k) k
theorem wg_mmin {idx x2 x3 : Nat} {x y z : Int32} (hd : decode (ax_code (mgT L xs) mi) pc = .ok (.invokestatic idx, 3)) (hpl : ax_pl (mgT L xs) mi idx = (19, x2, x3)) (hr : (st.map (fun v => v.category)).sum ≤ 8) (hz : (if y < x then y else x) = z) (k : wp L xs d mi (pc + 3) ls (.int z :: st) s Q) : wp L xs d mi pc ls (.int y :: .int x :: st) s Q := wp_st (fun h o _ k => ag_mmin hd hpl hr (by rw [hz]; exact k)) k
theorem wg_mmax {idx x2 x3 : Nat} {x y z : Int32} (hd : decode (ax_code (mgT L xs) mi) pc = .ok (.invokestatic idx, 3)) (hpl : ax_pl (mgT L xs) mi idx = (20, x2, x3)) (hr : (st.map (fun v => v.category)).sum ≤ 8) (hz : (if x < y then y else x) = z) (k : wp L xs d mi (pc + 3) ls (.int z :: st) s Q) : wp L xs d mi pc ls (.int y :: .int x :: st) s Q := wp_st (fun h o _ k => ag_mmax hd hpl hr (by rw [hz]; exact k)) k
theorem mg_min {x y : Nat} (hx : x < 2 ^ 31) (hy : y < 2 ^ 31) : (if nI y < nI x then nI y else nI x) = nI (min x y) := by
  by_cases e : y < x
  · rw [if_pos (nI_lt e hx), Nat.min_eq_right (by omega)]
  · rw [if_neg (nI_nlt (by omega) (by omega)), Nat.min_eq_left (by omega)]
theorem mg_max {x y : Nat} (hx : x < 2 ^ 31) (hy : y < 2 ^ 31) : (if nI x < nI y then nI y else nI x) = nI (max x y) := by
  by_cases e : x < y
  · rw [if_pos (nI_lt e hy), Nat.max_eq_right (by omega)]
  · rw [if_neg (nI_nlt (by omega) (by omega)), Nat.max_eq_left (by omega)]
/-- a row is put into the table -/
theorem wg_aastR {y : Nat} {j : Int32} {fs : List Value} (hd : decode (ax_code (mgT L xs) mi) pc = .ok (.aastore, 1)) (hj : vp_in j 16) (hyl : y < 167) (hy : mg_c s y = .inr (2, fs)) (k : wp L xs d mi (pc + 1) ls st (mg_Rw s j.toNatClampNeg y) Q) : wp L xs d mi pc ls (.ref y :: .int j :: .ref 4 :: st) s Q :=
  wp_up (a := 4) (c := .inl (3, 16, .inr (.inr (.inr (.inr (va_up s.2.2.1 j.toNatClampNeg (some y))))))) (fun h o S k => ag_aast hd (S.1 4 (by decide)) (by have := S.2.1; omega) rfl hj ((S.1 y hyl).trans (congrArg some hy)) rfl k) rfl mg_Rw_ne (fun q => q) k
end WP2
