/-! the class: the policy of a name is looked for; organisations -/
theorem d88_0 (L : Nat) (xs : Nat → Int32) : decode (ax_code (mgT L xs) 88) 0 = .ok (.aload_n 1, 1) := by
  show decode prog_7_method_9_code 0 = _
  decide +kernel
theorem d88_1 (L : Nat) (xs : Nat → Int32) : decode (ax_code (mgT L xs) 88) 1 = .ok (.invokevirtual 38, 3) := by
  show decode prog_7_method_9_code 1 = _
  decide +kernel
theorem d88_4 (L : Nat) (xs : Nat → Int32) : decode (ax_code (mgT L xs) 88) 4 = .ok (.istore_n 2, 1) := by
  show decode prog_7_method_9_code 4 = _
  decide +kernel
theorem d88_5 (L : Nat) (xs : Nat → Int32) : decode (ax_code (mgT L xs) 88) 5 = .ok (.iconst 0, 1) := by
  show decode prog_7_method_9_code 5 = _
  decide +kernel
theorem d88_6 (L : Nat) (xs : Nat → Int32) : decode (ax_code (mgT L xs) 88) 6 = .ok (.istore_n 3, 1) := by
  show decode prog_7_method_9_code 6 = _
  decide +kernel
theorem d88_7 (L : Nat) (xs : Nat → Int32) : decode (ax_code (mgT L xs) 88) 7 = .ok (.iload_n 3, 1) := by
  show decode prog_7_method_9_code 7 = _
  decide +kernel
theorem d88_8 (L : Nat) (xs : Nat → Int32) : decode (ax_code (mgT L xs) 88) 8 = .ok (.aload_n 0, 1) := by
  show decode prog_7_method_9_code 8 = _
  decide +kernel
theorem d88_9 (L : Nat) (xs : Nat → Int32) : decode (ax_code (mgT L xs) 88) 9 = .ok (.getfield 27, 3) := by
  show decode prog_7_method_9_code 9 = _
  decide +kernel
theorem d88_12 (L : Nat) (xs : Nat → Int32) : decode (ax_code (mgT L xs) 88) 12 = .ok (.if_icmp .ge 40, 3) := by
  show decode prog_7_method_9_code 12 = _
  decide +kernel
theorem d88_15 (L : Nat) (xs : Nat → Int32) : decode (ax_code (mgT L xs) 88) 15 = .ok (.aload_n 0, 1) := by
  show decode prog_7_method_9_code 15 = _
  decide +kernel
theorem d88_16 (L : Nat) (xs : Nat → Int32) : decode (ax_code (mgT L xs) 88) 16 = .ok (.getfield 11, 3) := by
  show decode prog_7_method_9_code 16 = _
  decide +kernel
theorem d88_19 (L : Nat) (xs : Nat → Int32) : decode (ax_code (mgT L xs) 88) 19 = .ok (.iload_n 3, 1) := by
  show decode prog_7_method_9_code 19 = _
  decide +kernel
theorem d88_20 (L : Nat) (xs : Nat → Int32) : decode (ax_code (mgT L xs) 88) 20 = .ok (.aaload, 1) := by
  show decode prog_7_method_9_code 20 = _
  decide +kernel
theorem d88_21 (L : Nat) (xs : Nat → Int32) : decode (ax_code (mgT L xs) 88) 21 = .ok (.getfield 53, 3) := by
  show decode prog_7_method_9_code 21 = _
  decide +kernel
theorem d88_24 (L : Nat) (xs : Nat → Int32) : decode (ax_code (mgT L xs) 88) 24 = .ok (.iconst 4, 1) := by
  show decode prog_7_method_9_code 24 = _
  decide +kernel
theorem d88_25 (L : Nat) (xs : Nat → Int32) : decode (ax_code (mgT L xs) 88) 25 = .ok (.if_icmp .ne 21, 3) := by
  show decode prog_7_method_9_code 25 = _
  decide +kernel
theorem d88_28 (L : Nat) (xs : Nat → Int32) : decode (ax_code (mgT L xs) 88) 28 = .ok (.iload_n 2, 1) := by
  show decode prog_7_method_9_code 28 = _
  decide +kernel
theorem d88_29 (L : Nat) (xs : Nat → Int32) : decode (ax_code (mgT L xs) 88) 29 = .ok (.aload_n 1, 1) := by
  show decode prog_7_method_9_code 29 = _
  decide +kernel
theorem d88_30 (L : Nat) (xs : Nat → Int32) : decode (ax_code (mgT L xs) 88) 30 = .ok (.aload_n 0, 1) := by
  show decode prog_7_method_9_code 30 = _
  decide +kernel
theorem d88_31 (L : Nat) (xs : Nat → Int32) : decode (ax_code (mgT L xs) 88) 31 = .ok (.getfield 11, 3) := by
  show decode prog_7_method_9_code 31 = _
  decide +kernel
theorem d88_34 (L : Nat) (xs : Nat → Int32) : decode (ax_code (mgT L xs) 88) 34 = .ok (.iload_n 3, 1) := by
  show decode prog_7_method_9_code 34 = _
  decide +kernel
theorem d88_35 (L : Nat) (xs : Nat → Int32) : decode (ax_code (mgT L xs) 88) 35 = .ok (.aaload, 1) := by
  show decode prog_7_method_9_code 35 = _
  decide +kernel
theorem d88_36 (L : Nat) (xs : Nat → Int32) : decode (ax_code (mgT L xs) 88) 36 = .ok (.getfield 46, 3) := by
  show decode prog_7_method_9_code 36 = _
  decide +kernel
theorem d88_39 (L : Nat) (xs : Nat → Int32) : decode (ax_code (mgT L xs) 88) 39 = .ok (.invokestatic 56, 3) := by
  show decode prog_7_method_9_code 39 = _
  decide +kernel
theorem d88_42 (L : Nat) (xs : Nat → Int32) : decode (ax_code (mgT L xs) 88) 42 = .ok (.invokestatic 60, 3) := by
  show decode prog_7_method_9_code 42 = _
  decide +kernel
theorem d88_45 (L : Nat) (xs : Nat → Int32) : decode (ax_code (mgT L xs) 88) 45 = .ok (.istore_n 2, 1) := by
  show decode prog_7_method_9_code 45 = _
  decide +kernel
theorem d88_46 (L : Nat) (xs : Nat → Int32) : decode (ax_code (mgT L xs) 88) 46 = .ok (.iinc 3 1, 3) := by
  show decode prog_7_method_9_code 46 = _
  decide +kernel
theorem d88_49 (L : Nat) (xs : Nat → Int32) : decode (ax_code (mgT L xs) 88) 49 = .ok (.goto (-42), 3) := by
  show decode prog_7_method_9_code 49 = _
  decide +kernel
theorem d88_52 (L : Nat) (xs : Nat → Int32) : decode (ax_code (mgT L xs) 88) 52 = .ok (.iload_n 2, 1) := by
  show decode prog_7_method_9_code 52 = _
  decide +kernel
theorem d88_53 (L : Nat) (xs : Nat → Int32) : decode (ax_code (mgT L xs) 88) 53 = .ok (.aload_n 1, 1) := by
  show decode prog_7_method_9_code 53 = _
  decide +kernel
theorem d88_54 (L : Nat) (xs : Nat → Int32) : decode (ax_code (mgT L xs) 88) 54 = .ok (.invokevirtual 38, 3) := by
  show decode prog_7_method_9_code 54 = _
  decide +kernel
theorem d88_57 (L : Nat) (xs : Nat → Int32) : decode (ax_code (mgT L xs) 88) 57 = .ok (.if_icmp .ne 9, 3) := by
  show decode prog_7_method_9_code 57 = _
  decide +kernel
theorem d88_60 (L : Nat) (xs : Nat → Int32) : decode (ax_code (mgT L xs) 88) 60 = .ok (.aload_n 1, 1) := by
  show decode prog_7_method_9_code 60 = _
  decide +kernel
theorem d88_61 (L : Nat) (xs : Nat → Int32) : decode (ax_code (mgT L xs) 88) 61 = .ok (.iconst 2, 1) := by
  show decode prog_7_method_9_code 61 = _
  decide +kernel
theorem d88_62 (L : Nat) (xs : Nat → Int32) : decode (ax_code (mgT L xs) 88) 62 = .ok (.invokevirtual 66, 3) := by
  show decode prog_7_method_9_code 62 = _
  decide +kernel
theorem d88_65 (L : Nat) (xs : Nat → Int32) : decode (ax_code (mgT L xs) 88) 65 = .ok (.ireturn, 1) := by
  show decode prog_7_method_9_code 65 = _
  decide +kernel
theorem d88_66 (L : Nat) (xs : Nat → Int32) : decode (ax_code (mgT L xs) 88) 66 = .ok (.aload_n 1, 1) := by
  show decode prog_7_method_9_code 66 = _
  decide +kernel
theorem d88_67 (L : Nat) (xs : Nat → Int32) : decode (ax_code (mgT L xs) 88) 67 = .ok (.iload_n 2, 1) := by
  show decode prog_7_method_9_code 67 = _
  decide +kernel
theorem d88_68 (L : Nat) (xs : Nat → Int32) : decode (ax_code (mgT L xs) 88) 68 = .ok (.invokevirtual 70, 3) := by
  show decode prog_7_method_9_code 68 = _
  decide +kernel
theorem d88_71 (L : Nat) (xs : Nat → Int32) : decode (ax_code (mgT L xs) 88) 71 = .ok (.ireturn, 1) := by
  show decode prog_7_method_9_code 71 = _
  decide +kernel
theorem d89_0 (L : Nat) (xs : Nat → Int32) : decode (ax_code (mgT L xs) 89) 0 = .ok (.aload_n 0, 1) := by
  show decode prog_7_method_10_code 0 = _
  decide +kernel
theorem d89_1 (L : Nat) (xs : Nat → Int32) : decode (ax_code (mgT L xs) 89) 1 = .ok (.invokevirtual 38, 3) := by
  show decode prog_7_method_10_code 1 = _
  decide +kernel
theorem d89_4 (L : Nat) (xs : Nat → Int32) : decode (ax_code (mgT L xs) 89) 4 = .ok (.aload_n 1, 1) := by
  show decode prog_7_method_10_code 4 = _
  decide +kernel
theorem d89_5 (L : Nat) (xs : Nat → Int32) : decode (ax_code (mgT L xs) 89) 5 = .ok (.invokevirtual 38, 3) := by
  show decode prog_7_method_10_code 5 = _
  decide +kernel
theorem d89_8 (L : Nat) (xs : Nat → Int32) : decode (ax_code (mgT L xs) 89) 8 = .ok (.isub, 1) := by
  show decode prog_7_method_10_code 8 = _
  decide +kernel
theorem d89_9 (L : Nat) (xs : Nat → Int32) : decode (ax_code (mgT L xs) 89) 9 = .ok (.istore_n 2, 1) := by
  show decode prog_7_method_10_code 9 = _
  decide +kernel
theorem d89_10 (L : Nat) (xs : Nat → Int32) : decode (ax_code (mgT L xs) 89) 10 = .ok (.aload_n 0, 1) := by
  show decode prog_7_method_10_code 10 = _
  decide +kernel
theorem d89_11 (L : Nat) (xs : Nat → Int32) : decode (ax_code (mgT L xs) 89) 11 = .ok (.iload_n 2, 1) := by
  show decode prog_7_method_10_code 11 = _
  decide +kernel
theorem d89_12 (L : Nat) (xs : Nat → Int32) : decode (ax_code (mgT L xs) 89) 12 = .ok (.aload_n 1, 1) := by
  show decode prog_7_method_10_code 12 = _
  decide +kernel
theorem d89_13 (L : Nat) (xs : Nat → Int32) : decode (ax_code (mgT L xs) 89) 13 = .ok (.iconst 0, 1) := by
  show decode prog_7_method_10_code 13 = _
  decide +kernel
theorem d89_14 (L : Nat) (xs : Nat → Int32) : decode (ax_code (mgT L xs) 89) 14 = .ok (.invokevirtual 49, 3) := by
  show decode prog_7_method_10_code 14 = _
  decide +kernel
theorem d89_17 (L : Nat) (xs : Nat → Int32) : decode (ax_code (mgT L xs) 89) 17 = .ok (.istore_n 3, 1) := by
  show decode prog_7_method_10_code 17 = _
  decide +kernel
theorem d89_18 (L : Nat) (xs : Nat → Int32) : decode (ax_code (mgT L xs) 89) 18 = .ok (.iload_n 3, 1) := by
  show decode prog_7_method_10_code 18 = _
  decide +kernel
theorem d89_19 (L : Nat) (xs : Nat → Int32) : decode (ax_code (mgT L xs) 89) 19 = .ok (.ifCond .eq 23, 3) := by
  show decode prog_7_method_10_code 19 = _
  decide +kernel
theorem d89_22 (L : Nat) (xs : Nat → Int32) : decode (ax_code (mgT L xs) 89) 22 = .ok (.iload_n 2, 1) := by
  show decode prog_7_method_10_code 22 = _
  decide +kernel
theorem d89_23 (L : Nat) (xs : Nat → Int32) : decode (ax_code (mgT L xs) 89) 23 = .ok (.ifCond .eq 15, 3) := by
  show decode prog_7_method_10_code 23 = _
  decide +kernel
theorem d89_26 (L : Nat) (xs : Nat → Int32) : decode (ax_code (mgT L xs) 89) 26 = .ok (.aload_n 0, 1) := by
  show decode prog_7_method_10_code 26 = _
  decide +kernel
theorem d89_27 (L : Nat) (xs : Nat → Int32) : decode (ax_code (mgT L xs) 89) 27 = .ok (.iload_n 2, 1) := by
  show decode prog_7_method_10_code 27 = _
  decide +kernel
theorem d89_28 (L : Nat) (xs : Nat → Int32) : decode (ax_code (mgT L xs) 89) 28 = .ok (.iconst 1, 1) := by
  show decode prog_7_method_10_code 28 = _
  decide +kernel
theorem d89_29 (L : Nat) (xs : Nat → Int32) : decode (ax_code (mgT L xs) 89) 29 = .ok (.isub, 1) := by
  show decode prog_7_method_10_code 29 = _
  decide +kernel
theorem d89_30 (L : Nat) (xs : Nat → Int32) : decode (ax_code (mgT L xs) 89) 30 = .ok (.invokevirtual 73, 3) := by
  show decode prog_7_method_10_code 30 = _
  decide +kernel
theorem d89_33 (L : Nat) (xs : Nat → Int32) : decode (ax_code (mgT L xs) 89) 33 = .ok (.bipush 46, 2) := by
  show decode prog_7_method_10_code 33 = _
  decide +kernel
theorem d89_35 (L : Nat) (xs : Nat → Int32) : decode (ax_code (mgT L xs) 89) 35 = .ok (.if_icmp .ne 7, 3) := by
  show decode prog_7_method_10_code 35 = _
  decide +kernel
theorem d89_38 (L : Nat) (xs : Nat → Int32) : decode (ax_code (mgT L xs) 89) 38 = .ok (.iload_n 2, 1) := by
  show decode prog_7_method_10_code 38 = _
  decide +kernel
theorem d89_39 (L : Nat) (xs : Nat → Int32) : decode (ax_code (mgT L xs) 89) 39 = .ok (.goto 7, 3) := by
  show decode prog_7_method_10_code 39 = _
  decide +kernel
theorem d89_42 (L : Nat) (xs : Nat → Int32) : decode (ax_code (mgT L xs) 89) 42 = .ok (.aload_n 0, 1) := by
  show decode prog_7_method_10_code 42 = _
  decide +kernel
theorem d89_43 (L : Nat) (xs : Nat → Int32) : decode (ax_code (mgT L xs) 89) 43 = .ok (.invokevirtual 38, 3) := by
  show decode prog_7_method_10_code 43 = _
  decide +kernel
theorem d89_46 (L : Nat) (xs : Nat → Int32) : decode (ax_code (mgT L xs) 89) 46 = .ok (.ireturn, 1) := by
  show decode prog_7_method_10_code 46 = _
  decide +kernel
theorem d92_0 (L : Nat) (xs : Nat → Int32) : decode (ax_code (mgT L xs) 92) 0 = .ok (.iconst 0, 1) := by
  show decode prog_9_method_7_code 0 = _
  decide +kernel
theorem d92_1 (L : Nat) (xs : Nat → Int32) : decode (ax_code (mgT L xs) 92) 1 = .ok (.istore_n 2, 1) := by
  show decode prog_9_method_7_code 1 = _
  decide +kernel
theorem d92_2 (L : Nat) (xs : Nat → Int32) : decode (ax_code (mgT L xs) 92) 2 = .ok (.iload_n 2, 1) := by
  show decode prog_9_method_7_code 2 = _
  decide +kernel
theorem d92_3 (L : Nat) (xs : Nat → Int32) : decode (ax_code (mgT L xs) 92) 3 = .ok (.aload_n 1, 1) := by
  show decode prog_9_method_7_code 3 = _
  decide +kernel
theorem d92_4 (L : Nat) (xs : Nat → Int32) : decode (ax_code (mgT L xs) 92) 4 = .ok (.invokevirtual 19, 3) := by
  show decode prog_9_method_7_code 4 = _
  decide +kernel
theorem d92_7 (L : Nat) (xs : Nat → Int32) : decode (ax_code (mgT L xs) 92) 7 = .ok (.if_icmp .ge 18, 3) := by
  show decode prog_9_method_7_code 7 = _
  decide +kernel
theorem d92_10 (L : Nat) (xs : Nat → Int32) : decode (ax_code (mgT L xs) 92) 10 = .ok (.aload_n 0, 1) := by
  show decode prog_9_method_7_code 10 = _
  decide +kernel
theorem d92_11 (L : Nat) (xs : Nat → Int32) : decode (ax_code (mgT L xs) 92) 11 = .ok (.aload_n 1, 1) := by
  show decode prog_9_method_7_code 11 = _
  decide +kernel
theorem d92_12 (L : Nat) (xs : Nat → Int32) : decode (ax_code (mgT L xs) 92) 12 = .ok (.iload_n 2, 1) := by
  show decode prog_9_method_7_code 12 = _
  decide +kernel
theorem d92_13 (L : Nat) (xs : Nat → Int32) : decode (ax_code (mgT L xs) 92) 13 = .ok (.invokevirtual 25, 3) := by
  show decode prog_9_method_7_code 13 = _
  decide +kernel
theorem d92_16 (L : Nat) (xs : Nat → Int32) : decode (ax_code (mgT L xs) 92) 16 = .ok (.invokevirtual 29, 3) := by
  show decode prog_9_method_7_code 16 = _
  decide +kernel
theorem d92_19 (L : Nat) (xs : Nat → Int32) : decode (ax_code (mgT L xs) 92) 19 = .ok (.iinc 2 1, 3) := by
  show decode prog_9_method_7_code 19 = _
  decide +kernel
theorem d92_22 (L : Nat) (xs : Nat → Int32) : decode (ax_code (mgT L xs) 92) 22 = .ok (.goto (-20), 3) := by
  show decode prog_9_method_7_code 22 = _
  decide +kernel
theorem d92_25 (L : Nat) (xs : Nat → Int32) : decode (ax_code (mgT L xs) 92) 25 = .ok (.return_, 1) := by
  show decode prog_9_method_7_code 25 = _
  decide +kernel
theorem take_snoc {w : List Nat} {i : Nat} (h : i < w.length) : w.take i ++ [w.getD i 0] = w.take (i + 1) := by
  rw [List.take_add_one, List.getElem?_eq_getElem h]
  simp [List.getD, h]
theorem tset_rf {s : mg_s} {a : Nat} {l : List Nat} (h : hold s a l) : tset s a l s := ⟨s.2.1 (a + 1), mg_T_self h.1.1, h.1.2, h.2.1, h.2.2⟩
/-- where the ending m of the name l begins, its length if m is none -/
def x_sfx (l m : List Nat) : Nat := if m.length ≤ l.length ∧ t_same (gl l) (l.length - m.length) l.length (gl m) 0 m.length = true ∧ (l.length = m.length ∨ gl l (l.length - m.length - 1) = 46) then l.length - m.length else l.length
def f_org (l : List Nat) : List rowT → Nat → Nat
  | [], acc => acc
  | q :: Rs, acc => if q.1 = 4 then f_org l Rs (min acc (x_sfx l q.2.1)) else f_org l Rs acc
/-- where the organisation of l begins -/
def x_org (R : List rowT) (l : List Nat) : Nat := if f_org l R l.length = l.length then f_last (gl l) 2 0 l.length else f_ahead (gl l) (f_org l R l.length - 1)
theorem x_sfx_le (l m : List Nat) : x_sfx l m ≤ l.length := by unfold x_sfx; split <;> omega
theorem f_org_le (l : List Nat) : ∀ (Rs : List rowT) (acc : Nat), f_org l Rs acc ≤ acc := by
  intro Rs
  induction Rs with
  | nil => intro acc; exact Nat.le_refl _
  | cons q Rs ih =>
    intro acc
    rw [f_org]
    split
    · have := ih (min acc (x_sfx l q.2.1)); omega
    · exact ih acc
theorem f_ahead_le (g : Nat → Nat) : ∀ m, f_ahead g m ≤ m := by
  intro m
  induction m with
  | zero => exact Nat.le_refl _
  | succ m ih => rw [f_ahead]; split <;> omega
theorem x_org_le (R : List rowT) (l : List Nat) : x_org R l ≤ l.length := by
  unfold x_org
  have h1 := f_org_le l R l.length
  have h2 := f_last_le (g := gl l) (parts := 2) l.length 0
  have h3 := f_ahead_le (gl l) (f_org l R l.length - 1)
  split <;> omega
section FP
variable {L : Nat} {xs : Nat → Int32} {d a b : Nat} {p : Nat → Nat} {R : List rowT} {l m : List Nat}
theorem ts_addW_l {k0 : Nat} {q : String × Nat × String × List Nat} (H : isT a) (hq : ax_str[k0]? = some q) (hql : q.2.2.2.length < 2 ^ 20) (hok : okc q.2.2.2) (hcap : l.length + q.2.2.2.length ≤ tlim a) : ∀ (m i : Nat) (s : mg_s), i + m = q.2.2.2.length → hold s a (l ++ q.2.2.2.take i) → wp L xs (d + 1) 92 2 [some (.ref a), some (.ref (ax_big + 1 + k0)), some (.int (nI i))] [] s (fun v s' => v = none ∧ tset s a (l ++ q.2.2.2) s') := by
  intro m
  induction m with
  | zero =>
    intro i s hi hc
    rw [List.take_of_length_le (by omega)] at hc
    refine wg_iload_n (d92_2 L xs) rfl ?_
    refine wg_aload_n (d92_3 L xs) rfl ?_
    refine wg_stl (d92_4 L xs) (k0 := k0) rfl hq rfl (Nat.le_of_ble_eq_true rfl) ?_
    refine wn_icmp_ge (d92_7 L xs) (x := i) (y := q.2.2.2.length) (by omega) (by omega) (t := 25) (by decide) (fun h1 => ?_) (fun h1 => by omega)
    exact wg_vret (d92_25 L xs) rfl ⟨rfl, tset_rf hc⟩
  | succ m ih =>
    intro i s hi hc
    refine wg_iload_n (d92_2 L xs) rfl ?_
    refine wg_aload_n (d92_3 L xs) rfl ?_
    refine wg_stl (d92_4 L xs) (k0 := k0) rfl hq rfl (Nat.le_of_ble_eq_true rfl) ?_
    refine wn_icmp_ge (d92_7 L xs) (x := i) (y := q.2.2.2.length) (by omega) (by omega) (t := 25) (by decide) (fun h1 => by omega) (fun h1 => ?_)
    refine wg_aload_n (d92_10 L xs) rfl ?_
    refine wg_aload_n (d92_11 L xs) rfl ?_
    refine wg_iload_n (d92_12 L xs) rfl ?_
    refine wg_scat (d92_13 L xs) (k0 := k0) (j := i) (x := q.2.2.2.getD i 0) rfl hq (by omega) (sg_get (by omega)) (Nat.le_of_ble_eq_true rfl) ?_
    refine wg_invv (d92_16 L xs) (kd := 7) (mj := 16) (n := 1) rfl (Or.inl rfl) (ys := [.int (nI (q.2.2.2.getD i 0))]) (r := []) rfl rfl H.1 (tx_c H) rfl (Nat.le_of_ble_eq_true rfl) (ts_addL (c := q.2.2.2.getD i 0) H hc (gl_lt hok i) (by rw [List.length_append, List.length_take]; omega)) ?_
    rintro _ s1 ⟨rfl, e1⟩
    refine wg_iinc (d92_19 L xs) (y := (nI (i + 1))) (ls' := [some (.ref a), some (.ref (ax_big + 1 + k0)), some (.int (nI (i + 1)))]) rfl (nI_add i 1) rfl ?_
    refine wg_goto (d92_22 L xs) (t := 2) (by decide) ?_
    rw [List.append_assoc, take_snoc (by omega)] at e1; exact wp_mono (ih (i + 1) s1 (by omega) e1.has) (fun v s' h => ⟨h.1, e1.trans h.2⟩)
theorem ts_addW {s : mg_s} {k0 : Nat} {q : String × Nat × String × List Nat} (H : isT a) (hl : hold s a l) (hq : ax_str[k0]? = some q) (hql : q.2.2.2.length < 2 ^ 20) (hok : okc q.2.2.2) (hcap : l.length + q.2.2.2.length ≤ tlim a) : ca L xs (d + 2) 92 [.ref a, .ref (ax_big + 1 + k0)] s (fun v s' => v = none ∧ tset s a (l ++ q.2.2.2) s') := by
  refine wg_call (Nat.le_of_ble_eq_true rfl) ?_
  show wp L xs (d + 1) 92 0 [some (.ref a), some (.ref (ax_big + 1 + k0)), none] [] s _
  refine wg_iconst (d92_0 L xs) (x := 0) (by decide) ?_
  refine wg_istore_n (d92_1 L xs) (ls' := [some (.ref a), some (.ref (ax_big + 1 + k0)), some (.int 0)]) (Nat.le_of_ble_eq_true rfl) rfl ?_
  exact ts_addW_l H hq hql hok hcap q.2.2.2.length 0 s (by omega) (by rw [List.take_zero, List.append_nil]; exact hl)
theorem sub_neg {x y : Nat} (h : x < y) (hy : y < 2 ^ 20) : nI x - nI y < 0 := by
  rw [Int32.lt_iff_toInt_lt]
  unfold nI
  rw [Int32.toInt_sub, Int32.toInt_ofNat_of_lt (by omega), Int32.toInt_ofNat_of_lt (by omega)]
  have h0 : (0 : Int32).toInt = 0 := rfl
  rw [h0, Int.bmod_def]
  split <;> omega
theorem tb_sfx {s : mg_s} (H : isT a) (hl : hold s a l) (Hb : isT b) (hm : hold s b m) : ca L xs (d + 2) 89 [.ref a, .ref b] s (fun v s' => v = some (.int (nI (x_sfx l m))) ∧ s = s') := by
  refine wg_call (Nat.le_of_ble_eq_true rfl) ?_
  have hll := hl.1.2
  have hlm := tx_m H
  have hml := hm.1.2
  have hmm := tx_m Hb
  have hg := gl_lt hl.2.1 (l.length - m.length - 1)
  have hb1 := bI_lt (t_same (gl l) (l.length - m.length) l.length (gl m) 0 m.length)
  show wp L xs (d + 1) 89 0 [some (.ref a), some (.ref b), none, none] [] s _
  by_cases hle : m.length ≤ l.length
  · skip
    refine wg_aload_n (d89_0 L xs) rfl ?_
    refine wg_invv (d89_1 L xs) (kd := 7) (mj := 15) (n := 0) rfl (Or.inl rfl) (ys := []) (r := []) rfl rfl H.1 (tx_c H) rfl (Nat.le_of_ble_eq_true rfl) (ts_size H hl) ?_
    rintro _ _ ⟨rfl, rfl⟩
    refine wg_aload_n (d89_4 L xs) rfl ?_
    refine wg_invv (d89_5 L xs) (kd := 7) (mj := 15) (n := 0) rfl (Or.inl rfl) (ys := []) (r := [.int (nI l.length)]) rfl rfl Hb.1 (tx_c Hb) rfl (Nat.le_of_ble_eq_true rfl) (ts_size Hb hm) ?_
    rintro _ _ ⟨rfl, rfl⟩
    refine wg_isub (d89_8 L xs) ?_
    refine wg_top (y := (nI (l.length - m.length))) (pk_sub (a := l.length) (b := m.length) (by omega)) ?_
    refine wg_istore_n (d89_9 L xs) (ls' := [some (.ref a), some (.ref b), some (.int (nI (l.length - m.length))), none]) (Nat.le_of_ble_eq_true rfl) rfl ?_
    refine wg_aload_n (d89_10 L xs) rfl ?_
    refine wg_iload_n (d89_11 L xs) rfl ?_
    refine wg_aload_n (d89_12 L xs) rfl ?_
    refine wg_iconst (d89_13 L xs) (x := 0) (by decide) ?_
    refine wg_invv (d89_14 L xs) (kd := 7) (mj := 54) (n := 3) rfl (Or.inl rfl) (ys := [.int 0, .ref b, .int (nI (l.length - m.length))]) (r := []) rfl rfl H.1 (tx_c H) rfl (Nat.le_of_ble_eq_true rfl) (by have h := tx_same (L := L) (xs := xs) (d := d) (fr := l.length - m.length) (fr2 := 0) H hl.1 Hb hm.1 (by omega) (Nat.zero_le _); rw [hold_at hl, hold_at hm] at h; exact h) ?_
    rintro _ _ ⟨rfl, rfl⟩
    refine wg_istore_n (d89_17 L xs) (ls' := [some (.ref a), some (.ref b), some (.int (nI (l.length - m.length))), some (.int (nI (bI (t_same (gl l) (l.length - m.length) l.length (gl m) 0 m.length))))]) (Nat.le_of_ble_eq_true rfl) rfl ?_
    refine wg_iload_n (d89_18 L xs) rfl ?_
    refine wn_if_eq (d89_19 L xs) (x := bI (t_same (gl l) (l.length - m.length) l.length (gl m) 0 m.length)) (by omega) (t := 42) (by decide) (fun h1 => ?_) (fun h1 => ?_)
    · refine wg_aload_n (d89_42 L xs) rfl ?_
      refine wg_invv (d89_43 L xs) (kd := 7) (mj := 15) (n := 0) rfl (Or.inl rfl) (ys := []) (r := []) rfl rfl H.1 (tx_c H) rfl (Nat.le_of_ble_eq_true rfl) (ts_size H hl) ?_
      rintro _ _ ⟨rfl, rfl⟩
      exact wg_iret (d89_46 L xs) rfl rfl ⟨by unfold x_sfx; rw [if_neg (fun h => by first | (have h9 := h.2.1; rw [bI_f (b := t_same (gl l) (l.length - m.length) l.length (gl m) 0 m.length) (by omega)] at h9; cases h9) | (have h9 := h.2.2; omega))], rfl⟩
    · refine wg_iload_n (d89_22 L xs) rfl ?_
      refine wn_if_eq (d89_23 L xs) (x := l.length - m.length) (by omega) (t := 38) (by decide) (fun h2 => ?_) (fun h2 => ?_)
      · refine wg_iload_n (d89_38 L xs) rfl ?_
        refine wg_goto (d89_39 L xs) (t := 46) (by decide) ?_
        exact wg_iret (d89_46 L xs) rfl rfl ⟨by unfold x_sfx; rw [if_pos ⟨hle, bI_t (b := t_same (gl l) (l.length - m.length) l.length (gl m) 0 m.length) (by omega), by omega⟩], rfl⟩
      · refine wg_aload_n (d89_26 L xs) rfl ?_
        refine wg_iload_n (d89_27 L xs) rfl ?_
        refine wg_iconst (d89_28 L xs) (x := 1) (by decide) ?_
        refine wg_isub (d89_29 L xs) ?_
        refine wg_top (y := (nI ((l.length - m.length) - 1))) (pk_sub (a := l.length - m.length) (b := 1) (by omega)) ?_
        refine wg_invv (d89_30 L xs) (kd := 7) (mj := 31) (n := 1) rfl (Or.inl rfl) (ys := [.int (nI ((l.length - m.length) - 1))]) (r := []) rfl rfl H.1 (tx_c H) rfl (Nat.le_of_ble_eq_true rfl) (ts_at H hl (by omega)) ?_
        rintro _ _ ⟨rfl, rfl⟩
        refine wg_bipush (d89_33 L xs) (x := 46) (by decide) ?_
        refine wn_icmp_ne (d89_35 L xs) (x := gl l (l.length - m.length - 1)) (y := 46) (by omega) (by omega) (t := 42) (by decide) (fun h3 => ?_) (fun h3 => ?_)
        · refine wg_aload_n (d89_42 L xs) rfl ?_
          refine wg_invv (d89_43 L xs) (kd := 7) (mj := 15) (n := 0) rfl (Or.inl rfl) (ys := []) (r := []) rfl rfl H.1 (tx_c H) rfl (Nat.le_of_ble_eq_true rfl) (ts_size H hl) ?_
          rintro _ _ ⟨rfl, rfl⟩
          exact wg_iret (d89_46 L xs) rfl rfl ⟨by unfold x_sfx; rw [if_neg (fun h => by first | (have h9 := h.2.1; rw [bI_f (b := t_same (gl l) (l.length - m.length) l.length (gl m) 0 m.length) (by omega)] at h9; cases h9) | (have h9 := h.2.2; omega))], rfl⟩
        · refine wg_iload_n (d89_38 L xs) rfl ?_
          refine wg_goto (d89_39 L xs) (t := 46) (by decide) ?_
          exact wg_iret (d89_46 L xs) rfl rfl ⟨by unfold x_sfx; rw [if_pos ⟨hle, bI_t (b := t_same (gl l) (l.length - m.length) l.length (gl m) 0 m.length) (by omega), by omega⟩], rfl⟩
  · skip
    refine wg_aload_n (d89_0 L xs) rfl ?_
    refine wg_invv (d89_1 L xs) (kd := 7) (mj := 15) (n := 0) rfl (Or.inl rfl) (ys := []) (r := []) rfl rfl H.1 (tx_c H) rfl (Nat.le_of_ble_eq_true rfl) (ts_size H hl) ?_
    rintro _ _ ⟨rfl, rfl⟩
    refine wg_aload_n (d89_4 L xs) rfl ?_
    refine wg_invv (d89_5 L xs) (kd := 7) (mj := 15) (n := 0) rfl (Or.inl rfl) (ys := []) (r := [.int (nI l.length)]) rfl rfl Hb.1 (tx_c Hb) rfl (Nat.le_of_ble_eq_true rfl) (ts_size Hb hm) ?_
    rintro _ _ ⟨rfl, rfl⟩
    refine wg_isub (d89_8 L xs) ?_
    refine wg_top (y := (nI l.length - nI m.length)) rfl ?_
    refine wg_istore_n (d89_9 L xs) (ls' := [some (.ref a), some (.ref b), some (.int (nI l.length - nI m.length)), none]) (Nat.le_of_ble_eq_true rfl) rfl ?_
    refine wg_aload_n (d89_10 L xs) rfl ?_
    refine wg_iload_n (d89_11 L xs) rfl ?_
    refine wg_aload_n (d89_12 L xs) rfl ?_
    refine wg_iconst (d89_13 L xs) (x := 0) (by decide) ?_
    refine wg_invv (d89_14 L xs) (kd := 7) (mj := 54) (n := 3) rfl (Or.inl rfl) (ys := [.int 0, .ref b, .int (nI l.length - nI m.length)]) (r := []) rfl rfl H.1 (tx_c H) rfl (Nat.le_of_ble_eq_true rfl) (tx_same_neg (fr2 := 0) (sub_neg (by omega) (by omega))) ?_
    rintro _ _ ⟨rfl, rfl⟩
    refine wg_top (y := 0) rfl ?_
    refine wg_istore_n (d89_17 L xs) (ls' := [some (.ref a), some (.ref b), some (.int (nI l.length - nI m.length)), some (.int 0)]) (Nat.le_of_ble_eq_true rfl) rfl ?_
    refine wg_iload_n (d89_18 L xs) rfl ?_
    refine wg_if_eq (d89_19 L xs) (t := 42) (by decide) (fun _ => ?_) (fun hn => absurd (by decide) hn)
    refine wg_aload_n (d89_42 L xs) rfl ?_
    refine wg_invv (d89_43 L xs) (kd := 7) (mj := 15) (n := 0) rfl (Or.inl rfl) (ys := []) (r := []) rfl rfl H.1 (tx_c H) rfl (Nat.le_of_ble_eq_true rfl) (ts_size H hl) ?_
    rintro _ _ ⟨rfl, rfl⟩
    exact wg_iret (d89_46 L xs) rfl rfl ⟨by unfold x_sfx; rw [if_neg (fun h => hle h.1)], rfl⟩
theorem tb_org_l {Q : Option Value → mg_s → Prop} {s : mg_s} (T : isTab s p R) (H : isT a) (hl : hold s a l) : ∀ (Rs : List rowT) (k acc : Nat), R.drop k = Rs → k ≤ R.length → acc ≤ l.length → (∀ k, wp L xs (d + 2) 88 52 [some (.ref 3), some (.ref a), some (.int (nI (f_org l Rs acc))), some (.int (nI k))] [] s Q) → wp L xs (d + 2) 88 7 [some (.ref 3), some (.ref a), some (.int (nI acc)), some (.int (nI k))] [] s Q := by
  have hR16 := T.2.1
  have hll := hl.1.2
  have hlm := tx_m H
  intro Rs
  induction Rs with
  | nil =>
    intro k acc hk hkl hacc kk
    have hkl2 : R.length ≤ k := List.drop_eq_nil_iff.mp hk
    refine wg_iload_n (d88_7 L xs) rfl ?_
    refine wg_aload_n (d88_8 L xs) rfl ?_
    refine wg_get (d88_9 L xs) (kd := 1) (cj := 3) (k0 := 1) rfl (Or.inl rfl) (by decide) rfl rfl ?_
    refine wg_top (y := (nI R.length)) T.1 ?_
    refine wn_icmp_ge (d88_12 L xs) (x := k) (y := R.length) (by omega) (by omega) (t := 52) (by decide) (fun h1 => ?_) (fun h1 => by omega)
    exact kk k
  | cons q Rs ih =>
    intro k acc hk hkl hacc kk
    obtain ⟨hk1, hk2, hk3⟩ := drop_cons hk
    have hq := T.2.2.2.2 k q hk1
    have hq4 := hq.2.1
    have hxs := x_sfx_le l q.2.1
    rw [f_org] at kk
    refine wg_iload_n (d88_7 L xs) rfl ?_
    refine wg_aload_n (d88_8 L xs) rfl ?_
    refine wg_get (d88_9 L xs) (kd := 1) (cj := 3) (k0 := 1) rfl (Or.inl rfl) (by decide) rfl rfl ?_
    refine wg_top (y := (nI R.length)) T.1 ?_
    refine wn_icmp_ge (d88_12 L xs) (x := k) (y := R.length) (by omega) (by omega) (t := 52) (by decide) (fun h1 => by omega) (fun h1 => ?_)
    refine wg_aload_n (d88_15 L xs) rfl ?_
    refine wg_get (d88_16 L xs) (kd := 1) (cj := 3) (k0 := 0) rfl (Or.inl rfl) (by decide) rfl rfl ?_
    refine wg_iload_n (d88_19 L xs) rfl ?_
    refine wg_aald (d88_20 L xs) (n := 16) (by decide) rfl rfl (vp_in_nI (n := k) (by omega) (by omega)) (v := .ref (p k)) (by rw [nI_nat (n := k) (by omega), (T.2.2.1 k (by omega)).1]; rfl) ?_
    refine wg_get (d88_21 L xs) (kd := 2) (cj := 2) (k0 := 0) rfl (Or.inr rfl) (T.2.2.1 k (by omega)).2.1 (rw_c (T.2.2.1 k (by omega)).2) rfl ?_
    refine wg_top (y := (nI q.1)) hq.1 ?_
    refine wg_iconst (d88_24 L xs) (x := 4) (by decide) ?_
    refine wn_icmp_ne (d88_25 L xs) (x := q.1) (y := 4) (by omega) (by omega) (t := 46) (by decide) (fun h2 => ?_) (fun h2 => ?_)
    · refine wg_iinc (d88_46 L xs) (y := (nI (k + 1))) (ls' := [some (.ref 3), some (.ref a), some (.int (nI acc)), some (.int (nI (k + 1)))]) rfl (nI_add k 1) rfl ?_
      refine wg_goto (d88_49 L xs) (t := 7) (by decide) ?_
      rw [if_neg (by omega)] at kk; exact ih (k + 1) acc hk3 (by omega) hacc kk
    · refine wg_iload_n (d88_28 L xs) rfl ?_
      refine wg_aload_n (d88_29 L xs) rfl ?_
      refine wg_aload_n (d88_30 L xs) rfl ?_
      refine wg_get (d88_31 L xs) (kd := 1) (cj := 3) (k0 := 0) rfl (Or.inl rfl) (by decide) rfl rfl ?_
      refine wg_iload_n (d88_34 L xs) rfl ?_
      refine wg_aald (d88_35 L xs) (n := 16) (by decide) rfl rfl (vp_in_nI (n := k) (by omega) (by omega)) (v := .ref (p k)) (by rw [nI_nat (n := k) (by omega), (T.2.2.1 k (by omega)).1]; rfl) ?_
      refine wg_get (d88_36 L xs) (kd := 2) (cj := 2) (k0 := 1) rfl (Or.inr rfl) (T.2.2.1 k (by omega)).2.1 (rw_c (T.2.2.1 k (by omega)).2) rfl ?_
      refine wg_invs (d88_39 L xs) (kd := 6) (mj := 89) (n := 2) rfl (Or.inl rfl) (ys := [.ref (p k + 1), .ref a]) (r := [.int (nI acc)]) rfl rfl (Nat.le_of_ble_eq_true rfl) (tb_sfx H hl (rw_n (T.2.2.1 k (by omega)).2) hq.2.2.1) ?_
      rintro _ _ ⟨rfl, rfl⟩
      refine wg_mmin (d88_42 L xs) rfl (Nat.le_of_ble_eq_true rfl) (z := (nI (min acc (x_sfx l q.2.1)))) (mg_min (x := acc) (y := x_sfx l q.2.1) (by omega) (by omega)) ?_
      refine wg_istore_n (d88_45 L xs) (ls' := [some (.ref 3), some (.ref a), some (.int (nI (min acc (x_sfx l q.2.1)))), some (.int (nI k))]) (Nat.le_of_ble_eq_true rfl) rfl ?_
      refine wg_iinc (d88_46 L xs) (y := (nI (k + 1))) (ls' := [some (.ref 3), some (.ref a), some (.int (nI (min acc (x_sfx l q.2.1)))), some (.int (nI (k + 1)))]) rfl (nI_add k 1) rfl ?_
      refine wg_goto (d88_49 L xs) (t := 7) (by decide) ?_
      rw [if_pos (by omega)] at kk; exact ih (k + 1) (min acc (x_sfx l q.2.1)) hk3 (by omega) (by omega) kk
theorem tb_org {s : mg_s} (T : isTab s p R) (H : isT a) (hl : hold s a l) : ca L xs (d + 3) 88 [.ref 3, .ref a] s (fun v s' => v = some (.int (nI (x_org R l))) ∧ s = s') := by
  refine wg_call (Nat.le_of_ble_eq_true rfl) ?_
  have hll := hl.1.2
  have hlm := tx_m H
  have hol := f_org_le l R l.length
  obtain ⟨z, hz⟩ : ∃ z, z = f_org l R l.length := ⟨_, rfl⟩
  have hrest : ∀ k, wp L xs (d + 2) 88 52 [some (.ref 3), some (.ref a), some (.int (nI z)), some (.int (nI k))] [] s (fun v s' => v = some (.int (nI (x_org R l))) ∧ s = s') := by
    intro k
    refine wg_iload_n (d88_52 L xs) rfl ?_
    refine wg_aload_n (d88_53 L xs) rfl ?_
    refine wg_invv (d88_54 L xs) (kd := 7) (mj := 15) (n := 0) rfl (Or.inl rfl) (ys := []) (r := [.int (nI z)]) rfl rfl H.1 (tx_c H) rfl (Nat.le_of_ble_eq_true rfl) (ts_size H hl) ?_
    rintro _ _ ⟨rfl, rfl⟩
    refine wn_icmp_ne (d88_57 L xs) (x := z) (y := l.length) (by omega) (by omega) (t := 66) (by decide) (fun h1 => ?_) (fun h1 => ?_)
    · cases z with
      | zero =>
        show wp L xs (d + 2) 88 66 [some (.ref 3), some (.ref a), some (.int 0), some (.int (nI k))] [] s _
        refine wg_aload_n (d88_66 L xs) rfl ?_
        refine wg_iload_n (d88_67 L xs) rfl ?_
        refine wg_invv (d88_68 L xs) (kd := 7) (mj := 90) (n := 1) rfl (Or.inl rfl) (ys := [.int 0]) (r := []) rfl rfl H.1 (tx_c H) rfl (Nat.le_of_ble_eq_true rfl) (by have h := tx_ahead0 (L := L) (xs := xs) (d := d) H hl.1; rw [hold_at hl] at h; exact h) ?_
        rintro _ _ ⟨rfl, rfl⟩
        exact wg_iret (d88_71 L xs) rfl rfl ⟨by unfold x_org; rw [if_neg (by omega), ← hz], rfl⟩
      | succ y =>
        refine wg_aload_n (d88_66 L xs) rfl ?_
        refine wg_iload_n (d88_67 L xs) rfl ?_
        refine wg_invv (d88_68 L xs) (kd := 7) (mj := 90) (n := 1) rfl (Or.inl rfl) (ys := [.int (nI (y + 1))]) (r := []) rfl rfl H.1 (tx_c H) rfl (Nat.le_of_ble_eq_true rfl) (by have h := tx_ahead (L := L) (xs := xs) (d := d) (m := y) (by omega) H hl.1; rw [hold_at hl] at h; exact h) ?_
        rintro _ _ ⟨rfl, rfl⟩
        exact wg_iret (d88_71 L xs) rfl rfl ⟨by unfold x_org; rw [if_neg (by omega), ← hz, Nat.add_sub_cancel], rfl⟩
    · refine wg_aload_n (d88_60 L xs) rfl ?_
      refine wg_iconst (d88_61 L xs) (x := 2) (by decide) ?_
      refine wg_invv (d88_62 L xs) (kd := 7) (mj := 52) (n := 1) rfl (Or.inl rfl) (ys := [.int 2]) (r := []) rfl rfl H.1 (tx_c H) rfl (Nat.le_of_ble_eq_true rfl) (ts_last (parts := 2) H hl (by decide)) ?_
      rintro _ _ ⟨rfl, rfl⟩
      exact wg_iret (d88_65 L xs) rfl rfl ⟨by unfold x_org; rw [if_pos (by omega)], rfl⟩
  rw [hz] at hrest
  show wp L xs (d + 2) 88 0 [some (.ref 3), some (.ref a), none, none] [] s _
  refine wg_aload_n (d88_0 L xs) rfl ?_
  refine wg_invv (d88_1 L xs) (kd := 7) (mj := 15) (n := 0) rfl (Or.inl rfl) (ys := []) (r := []) rfl rfl H.1 (tx_c H) rfl (Nat.le_of_ble_eq_true rfl) (ts_size H hl) ?_
  rintro _ _ ⟨rfl, rfl⟩
  refine wg_istore_n (d88_4 L xs) (ls' := [some (.ref 3), some (.ref a), some (.int (nI l.length)), none]) (Nat.le_of_ble_eq_true rfl) rfl ?_
  refine wg_iconst (d88_5 L xs) (x := 0) (by decide) ?_
  refine wg_istore_n (d88_6 L xs) (ls' := [some (.ref 3), some (.ref a), some (.int (nI l.length)), some (.int 0)]) (Nat.le_of_ble_eq_true rfl) rfl ?_
  refine tb_org_l T H hl R 0 l.length rfl (Nat.zero_le _) (Nat.le_refl _) (fun k => ?_)
  exact hrest k
end FP
