/-! the reference: hosts -/
theorem d151_0 (L : Nat) (xs : Nat → Int32) : decode (ax_code (mgT L xs) 151) 0 = .ok (.aload_n 0, 1) := by
  show decode prog_11_method_41_code 0 = _
  decide +kernel
theorem d151_1 (L : Nat) (xs : Nat → Int32) : decode (ax_code (mgT L xs) 151) 1 = .ok (.iconst 0, 1) := by
  show decode prog_11_method_41_code 1 = _
  decide +kernel
theorem d151_2 (L : Nat) (xs : Nat → Int32) : decode (ax_code (mgT L xs) 151) 2 = .ok (.invokevirtual 212, 3) := by
  show decode prog_11_method_41_code 2 = _
  decide +kernel
theorem d151_5 (L : Nat) (xs : Nat → Int32) : decode (ax_code (mgT L xs) 151) 5 = .ok (.ifCond .ne 10, 3) := by
  show decode prog_11_method_41_code 5 = _
  decide +kernel
theorem d151_8 (L : Nat) (xs : Nat → Int32) : decode (ax_code (mgT L xs) 151) 8 = .ok (.aload_n 0, 1) := by
  show decode prog_11_method_41_code 8 = _
  decide +kernel
theorem d151_9 (L : Nat) (xs : Nat → Int32) : decode (ax_code (mgT L xs) 151) 9 = .ok (.iconst 5, 1) := by
  show decode prog_11_method_41_code 9 = _
  decide +kernel
theorem d151_10 (L : Nat) (xs : Nat → Int32) : decode (ax_code (mgT L xs) 151) 10 = .ok (.invokevirtual 215, 3) := by
  show decode prog_11_method_41_code 10 = _
  decide +kernel
theorem d151_13 (L : Nat) (xs : Nat → Int32) : decode (ax_code (mgT L xs) 151) 13 = .ok (.iconst (-1), 1) := by
  show decode prog_11_method_41_code 13 = _
  decide +kernel
theorem d151_14 (L : Nat) (xs : Nat → Int32) : decode (ax_code (mgT L xs) 151) 14 = .ok (.ireturn, 1) := by
  show decode prog_11_method_41_code 14 = _
  decide +kernel
theorem d151_15 (L : Nat) (xs : Nat → Int32) : decode (ax_code (mgT L xs) 151) 15 = .ok (.aload_n 0, 1) := by
  show decode prog_11_method_41_code 15 = _
  decide +kernel
theorem d151_16 (L : Nat) (xs : Nat → Int32) : decode (ax_code (mgT L xs) 151) 16 = .ok (.getfield 124, 3) := by
  show decode prog_11_method_41_code 16 = _
  decide +kernel
theorem d151_19 (L : Nat) (xs : Nat → Int32) : decode (ax_code (mgT L xs) 151) 19 = .ok (.ifCond .ne 8, 3) := by
  show decode prog_11_method_41_code 19 = _
  decide +kernel
theorem d151_22 (L : Nat) (xs : Nat → Int32) : decode (ax_code (mgT L xs) 151) 22 = .ok (.aload_n 0, 1) := by
  show decode prog_11_method_41_code 22 = _
  decide +kernel
theorem d151_23 (L : Nat) (xs : Nat → Int32) : decode (ax_code (mgT L xs) 151) 23 = .ok (.invokevirtual 230, 3) := by
  show decode prog_11_method_41_code 23 = _
  decide +kernel
theorem d151_26 (L : Nat) (xs : Nat → Int32) : decode (ax_code (mgT L xs) 151) 26 = .ok (.ireturn, 1) := by
  show decode prog_11_method_41_code 26 = _
  decide +kernel
theorem d151_27 (L : Nat) (xs : Nat → Int32) : decode (ax_code (mgT L xs) 151) 27 = .ok (.iconst 0, 1) := by
  show decode prog_11_method_41_code 27 = _
  decide +kernel
theorem d151_28 (L : Nat) (xs : Nat → Int32) : decode (ax_code (mgT L xs) 151) 28 = .ok (.istore_n 2, 1) := by
  show decode prog_11_method_41_code 28 = _
  decide +kernel
theorem d151_29 (L : Nat) (xs : Nat → Int32) : decode (ax_code (mgT L xs) 151) 29 = .ok (.iconst 0, 1) := by
  show decode prog_11_method_41_code 29 = _
  decide +kernel
theorem d151_30 (L : Nat) (xs : Nat → Int32) : decode (ax_code (mgT L xs) 151) 30 = .ok (.istore_n 3, 1) := by
  show decode prog_11_method_41_code 30 = _
  decide +kernel
theorem d151_31 (L : Nat) (xs : Nat → Int32) : decode (ax_code (mgT L xs) 151) 31 = .ok (.iload_n 3, 1) := by
  show decode prog_11_method_41_code 31 = _
  decide +kernel
theorem d151_32 (L : Nat) (xs : Nat → Int32) : decode (ax_code (mgT L xs) 151) 32 = .ok (.aload_n 0, 1) := by
  show decode prog_11_method_41_code 32 = _
  decide +kernel
theorem d151_33 (L : Nat) (xs : Nat → Int32) : decode (ax_code (mgT L xs) 151) 33 = .ok (.getfield 124, 3) := by
  show decode prog_11_method_41_code 33 = _
  decide +kernel
theorem d151_36 (L : Nat) (xs : Nat → Int32) : decode (ax_code (mgT L xs) 151) 36 = .ok (.if_icmp .ge 41, 3) := by
  show decode prog_11_method_41_code 36 = _
  decide +kernel
theorem d151_39 (L : Nat) (xs : Nat → Int32) : decode (ax_code (mgT L xs) 151) 39 = .ok (.iload_n 2, 1) := by
  show decode prog_11_method_41_code 39 = _
  decide +kernel
theorem d151_40 (L : Nat) (xs : Nat → Int32) : decode (ax_code (mgT L xs) 151) 40 = .ok (.ifCond .ne 25, 3) := by
  show decode prog_11_method_41_code 40 = _
  decide +kernel
theorem d151_43 (L : Nat) (xs : Nat → Int32) : decode (ax_code (mgT L xs) 151) 43 = .ok (.aload_n 0, 1) := by
  show decode prog_11_method_41_code 43 = _
  decide +kernel
theorem d151_44 (L : Nat) (xs : Nat → Int32) : decode (ax_code (mgT L xs) 151) 44 = .ok (.getfield 25, 3) := by
  show decode prog_11_method_41_code 44 = _
  decide +kernel
theorem d151_47 (L : Nat) (xs : Nat → Int32) : decode (ax_code (mgT L xs) 151) 47 = .ok (.aload_n 0, 1) := by
  show decode prog_11_method_41_code 47 = _
  decide +kernel
theorem d151_48 (L : Nat) (xs : Nat → Int32) : decode (ax_code (mgT L xs) 151) 48 = .ok (.getfield 34, 3) := by
  show decode prog_11_method_41_code 48 = _
  decide +kernel
theorem d151_51 (L : Nat) (xs : Nat → Int32) : decode (ax_code (mgT L xs) 151) 51 = .ok (.iload_n 3, 1) := by
  show decode prog_11_method_41_code 51 = _
  decide +kernel
theorem d151_52 (L : Nat) (xs : Nat → Int32) : decode (ax_code (mgT L xs) 151) 52 = .ok (.iaload, 1) := by
  show decode prog_11_method_41_code 52 = _
  decide +kernel
theorem d151_53 (L : Nat) (xs : Nat → Int32) : decode (ax_code (mgT L xs) 151) 53 = .ok (.iaload, 1) := by
  show decode prog_11_method_41_code 53 = _
  decide +kernel
theorem d151_54 (L : Nat) (xs : Nat → Int32) : decode (ax_code (mgT L xs) 151) 54 = .ok (.aload_n 0, 1) := by
  show decode prog_11_method_41_code 54 = _
  decide +kernel
theorem d151_55 (L : Nat) (xs : Nat → Int32) : decode (ax_code (mgT L xs) 151) 55 = .ok (.getfield 143, 3) := by
  show decode prog_11_method_41_code 55 = _
  decide +kernel
theorem d151_58 (L : Nat) (xs : Nat → Int32) : decode (ax_code (mgT L xs) 151) 58 = .ok (.iload_n 1, 1) := by
  show decode prog_11_method_41_code 58 = _
  decide +kernel
theorem d151_59 (L : Nat) (xs : Nat → Int32) : decode (ax_code (mgT L xs) 151) 59 = .ok (.invokestatic 234, 3) := by
  show decode prog_11_method_41_code 59 = _
  decide +kernel
theorem d151_62 (L : Nat) (xs : Nat → Int32) : decode (ax_code (mgT L xs) 151) 62 = .ok (.ifCond .eq 7, 3) := by
  show decode prog_11_method_41_code 62 = _
  decide +kernel
theorem d151_65 (L : Nat) (xs : Nat → Int32) : decode (ax_code (mgT L xs) 151) 65 = .ok (.iconst 1, 1) := by
  show decode prog_11_method_41_code 65 = _
  decide +kernel
theorem d151_66 (L : Nat) (xs : Nat → Int32) : decode (ax_code (mgT L xs) 151) 66 = .ok (.goto 4, 3) := by
  show decode prog_11_method_41_code 66 = _
  decide +kernel
theorem d151_69 (L : Nat) (xs : Nat → Int32) : decode (ax_code (mgT L xs) 151) 69 = .ok (.iconst 0, 1) := by
  show decode prog_11_method_41_code 69 = _
  decide +kernel
theorem d151_70 (L : Nat) (xs : Nat → Int32) : decode (ax_code (mgT L xs) 151) 70 = .ok (.istore_n 2, 1) := by
  show decode prog_11_method_41_code 70 = _
  decide +kernel
theorem d151_71 (L : Nat) (xs : Nat → Int32) : decode (ax_code (mgT L xs) 151) 71 = .ok (.iinc 3 1, 3) := by
  show decode prog_11_method_41_code 71 = _
  decide +kernel
theorem d151_74 (L : Nat) (xs : Nat → Int32) : decode (ax_code (mgT L xs) 151) 74 = .ok (.goto (-43), 3) := by
  show decode prog_11_method_41_code 74 = _
  decide +kernel
theorem d151_77 (L : Nat) (xs : Nat → Int32) : decode (ax_code (mgT L xs) 151) 77 = .ok (.iload_n 2, 1) := by
  show decode prog_11_method_41_code 77 = _
  decide +kernel
theorem d151_78 (L : Nat) (xs : Nat → Int32) : decode (ax_code (mgT L xs) 151) 78 = .ok (.ifCond .eq 7, 3) := by
  show decode prog_11_method_41_code 78 = _
  decide +kernel
theorem d151_81 (L : Nat) (xs : Nat → Int32) : decode (ax_code (mgT L xs) 151) 81 = .ok (.iconst 1, 1) := by
  show decode prog_11_method_41_code 81 = _
  decide +kernel
theorem d151_82 (L : Nat) (xs : Nat → Int32) : decode (ax_code (mgT L xs) 151) 82 = .ok (.goto 4, 3) := by
  show decode prog_11_method_41_code 82 = _
  decide +kernel
theorem d151_85 (L : Nat) (xs : Nat → Int32) : decode (ax_code (mgT L xs) 151) 85 = .ok (.iconst 0, 1) := by
  show decode prog_11_method_41_code 85 = _
  decide +kernel
theorem d151_86 (L : Nat) (xs : Nat → Int32) : decode (ax_code (mgT L xs) 151) 86 = .ok (.ireturn, 1) := by
  show decode prog_11_method_41_code 86 = _
  decide +kernel
def xI (k : Nat) : Int32 := if k = 0 then 0 else if k = 1 then 1 else -1
def hPost (s s' : mg_s) (σ' : ckS) (k : Nat) : Prop := isSg s' σ' ∧ (k < 5 → s'.1 141 23 = s.1 141 23) ∧ (5 ≤ k → s'.1 141 23 = 0 ∧ s'.1 141 36 = nI k)
def h_sb (R : List rowT) (adr : Int32) (bits h : Nat) : Bool := match R[h]? with
  | some q => c_sb q.2.2.2 adr bits
  | none => false
theorem any_eq {R : List rowT} {adr : Int32} {m : List Nat} {bits : Nat} : ∀ (Rs : List rowT) (k : Nat), R.drop k = Rs → x_any adr m bits Rs = (f_hits m 0 Rs k).any (h_sb R adr bits) := by
  intro Rs
  induction Rs with
  | nil => intro k _; rfl
  | cons q Rs ih =>
    intro k hk
    have hq : R[k]? = some q := by
      have : (R.drop k)[0]? = some q := by rw [hk]; rfl
      rw [List.getElem?_drop] at this; exact this
    have hk2 : R.drop (k + 1) = Rs := by rw [← List.tail_drop, hk]; rfl
    have hI := ih (k + 1) hk2
    unfold x_any at hI ⊢
    rw [f_hits, List.any_cons, hI]
    by_cases c : q.2.1 = m ∧ q.1 = 0
    · rw [if_pos c, List.any_cons, decide_eq_true c.1, decide_eq_true c.2, show h_sb R adr bits k = c_sb q.2.2.2 adr bits by unfold h_sb; rw [hq]]; rfl
    · rw [if_neg c]
      have : (decide (q.1 = 0) && decide (q.2.1 = m)) = false := by
        rcases Nat.decEq q.1 0 with e | e
        · rw [decide_eq_false e]; rfl
        · by_cases e2 : q.2.1 = m
          · exact absurd ⟨e2, e⟩ c
          · rw [decide_eq_false e2, Bool.and_false]
      rw [this, Bool.false_and, Bool.false_or]
theorem cnt_5 {R : List rowT} {nm : List Nat} {kd v : Nat} (h : f_fine nm R = false) : v_cnt (f_ask nm kd R 0) v = (5, v) := by
  rw [f_ask_eq nm kd R 0 0, if_neg (by rw [h]; decide)]; rfl
theorem cnt_0 {R : List rowT} {nm : List Nat} {kd v : Nat} (h : f_fine nm R = true) (h0 : f_hits nm kd R 0 = []) : v_cnt (f_ask nm kd R 0) v = (if 3 ≤ v + 1 then 6 else 0, v + 1) := by
  rw [f_ask_eq nm kd R 0 0, if_pos h, h0]; rfl
theorem cnt_1 {R : List rowT} {nm : List Nat} {kd v x : Nat} {hs : List Nat} (h : f_fine nm R = true) (h0 : f_hits nm kd R 0 = x :: hs) : v_cnt (f_ask nm kd R 0) v = (1, v) := by
  rw [f_ask_eq nm kd R 0 0, if_pos h, h0]
  unfold v_cnt
  exact if_neg (by show ¬ 0 + (hs.length + 1) = 0; omega)
theorem xh_5 {R : List rowT} {adr : Int32} {nm : List Nat} {bits v : Nat} (h : f_fine nm R = false) : x_host R adr nm bits v = (5, v) := by
  unfold x_host; rw [cnt_5 h, if_neg (show ¬ (5 : Nat) = 1 by omega)]
theorem xh_0 {R : List rowT} {adr : Int32} {nm : List Nat} {bits v : Nat} (h : f_fine nm R = true) (h0 : f_hits nm 0 R 0 = []) : x_host R adr nm bits v = (if 3 ≤ v + 1 then 6 else 0, v + 1) := by
  unfold x_host; rw [cnt_0 h h0, if_neg (by show ¬ (if 3 ≤ v + 1 then 6 else 0) = 1; split <;> omega)]
theorem xh_1 {R : List rowT} {adr : Int32} {nm : List Nat} {bits v x : Nat} {hs : List Nat} (h : f_fine nm R = true) (h0 : f_hits nm 0 R 0 = x :: hs) : x_host R adr nm bits v = (bI ((x :: hs).any (h_sb R adr bits)), v) := by
  unfold x_host; rw [cnt_1 h h0, if_pos rfl, any_eq R 0 rfl, h0]
theorem isSg_v {s : mg_s} {σ : ckS} {nm : List Nat} {v w : Nat} (h : isSg s (st_ask σ nm v)) : isSg (mg_I s 141 38 (nI w)) (st_ask σ nm w) := ⟨h.1, rfl, h.2.2.1, h.2.2.2.1, h.2.2.2.2.1, h.2.2.2.2.2⟩
theorem xI_b (b : Bool) : xI (bI b) = nI (bI b) := by cases b <;> rfl
section KH
variable {L : Nat} {xs : Nat → Int32} {d : Nat} {s : mg_s} {E : ckE} {nm hs : List Nat} {Q : Option Value → mg_s → Prop}
theorem md_ho_l {R : List rowT} {bits : Nat} {adr : Int32} (hb32 : bits ≤ 32) (hH : ∀ h, h ∈ hs → ∃ q, R[h]? = some q ∧ q.2.1 = nm ∧ q.1 = 0) (hs16 : hs.length ≤ 16) (T : isTabM s R) (hh : isHit s hs) (hadr : s.1 141 35 = adr) : ∀ (hs2 hs1 : List Nat) (b : Bool), hs1 ++ hs2 = hs → wp L xs (d + 1) 151 31 [some (.ref 141), some (.int (nI bits)), some (.int (nI (bI b))), some (.int (nI hs1.length))] [] s (fun v s' => v = some (.int (nI (bI (b || hs2.any (h_sb R adr bits))))) ∧ s = s') := by
  intro hs2
  induction hs2 with
  | nil =>
    intro hs1 b he
    rw [List.append_nil] at he
    subst he
    have hbl := bI_lt b
    refine wg_iload_n (d151_31 L xs) rfl ?_
    refine wg_aload_n (d151_32 L xs) rfl ?_
    refine wg_get (d151_33 L xs) (kd := 1) (cj := 9) (k0 := 15) rfl (Or.inl rfl) (by decide) rfl rfl ?_
    refine wg_top (y := (nI hs1.length)) hh.1 ?_
    refine wn_icmp_ge (d151_36 L xs) (x := hs1.length) (y := hs1.length) (by omega) (by omega) (t := 77) (by decide) (fun h1 => ?_) (fun h1 => by omega)
    refine wg_iload_n (d151_77 L xs) rfl ?_
    refine wn_if_eq (d151_78 L xs) (x := bI b) (by omega) (t := 85) (by decide) (fun h2 => ?_) (fun h2 => ?_)
    · refine wg_iconst (d151_85 L xs) (x := 0) (by decide) ?_
      exact wg_iret (d151_86 L xs) rfl rfl ⟨by rw [List.any_nil, Bool.or_false, bI_f (b := b) (by omega)]; rfl, rfl⟩
    · refine wg_iconst (d151_81 L xs) (x := 1) (by decide) ?_
      refine wg_goto (d151_82 L xs) (t := 86) (by decide) ?_
      exact wg_iret (d151_86 L xs) rfl rfl ⟨by rw [List.any_nil, Bool.or_false, bI_t (b := b) (by omega)]; rfl, rfl⟩
  | cons h hs2 ih =>
    intro hs1 b he
    have hbl := bI_lt b
    have hlen : hs1.length + (hs2.length + 1) = hs.length := by rw [← he, List.length_append]; rfl
    have hgl : gl hs hs1.length = h := by rw [← he]; exact gl_mid _ _ _
    obtain ⟨q, hq, hqn, hq2⟩ := hH h (by rw [← he]; exact List.mem_append_right _ (List.mem_cons_self ..))
    have hh16 : h < 16 := Nat.lt_of_lt_of_le (List.getElem?_eq_some_iff.mp hq).1 T.2.1
    have hsb : h_sb R adr bits h = c_sb q.2.2.2 adr bits := by unfold h_sb; rw [hq]
    have hcb := bI_lt (c_sb q.2.2.2 adr bits)
    have hlen1 : (hs1 ++ [h]).length = hs1.length + 1 := by rw [List.length_append]; rfl
    have he1 : (hs1 ++ [h]) ++ hs2 = hs := by rw [List.append_assoc]; exact he
    refine wg_iload_n (d151_31 L xs) rfl ?_
    refine wg_aload_n (d151_32 L xs) rfl ?_
    refine wg_get (d151_33 L xs) (kd := 1) (cj := 9) (k0 := 15) rfl (Or.inl rfl) (by decide) rfl rfl ?_
    refine wg_top (y := (nI hs.length)) hh.1 ?_
    refine wn_icmp_ge (d151_36 L xs) (x := hs1.length) (y := hs.length) (by omega) (by omega) (t := 77) (by decide) (fun h1 => by omega) (fun h1 => ?_)
    refine wg_iload_n (d151_39 L xs) rfl ?_
    refine wn_if_ne (d151_40 L xs) (x := bI b) (by omega) (t := 65) (by decide) (fun h2 => ?_) (fun h2 => ?_)
    · refine wg_iconst (d151_65 L xs) (x := 1) (by decide) ?_
      refine wg_goto (d151_66 L xs) (t := 70) (by decide) ?_
      refine wg_istore_n (d151_70 L xs) (ls' := [some (.ref 141), some (.int (nI bits)), some (.int 1), some (.int (nI hs1.length))]) (Nat.le_of_ble_eq_true rfl) rfl ?_
      refine wg_iinc (d151_71 L xs) (y := (nI (hs1.length + 1))) (ls' := [some (.ref 141), some (.int (nI bits)), some (.int 1), some (.int (nI (hs1.length + 1)))]) rfl (nI_add hs1.length 1) rfl ?_
      refine wg_goto (d151_74 L xs) (t := 31) (by decide) ?_
      rw [List.any_cons, bI_t (b := b) (by omega), Bool.true_or]
      have h0 := ih (hs1 ++ [h]) true he1
      rw [hlen1, Bool.true_or] at h0
      exact h0
    · refine wg_aload_n (d151_43 L xs) rfl ?_
      refine wg_get (d151_44 L xs) (kd := 1) (cj := 9) (k0 := 8) rfl (Or.inl rfl) (by decide) rfl rfl ?_
      refine wg_aload_n (d151_47 L xs) rfl ?_
      refine wg_get (d151_48 L xs) (kd := 1) (cj := 9) (k0 := 16) rfl (Or.inl rfl) (by decide) rfl rfl ?_
      refine wg_iload_n (d151_51 L xs) rfl ?_
      refine wg_iald (d151_52 L xs) (n := 16) (by decide) rfl (vp_in_nI (n := hs1.length) (by omega) (by omega)) ?_
      refine wg_top (y := (nI h)) (by rw [nI_nat (n := hs1.length) (by omega)]; exact (by have := hh.2 hs1.length (by omega); rw [hgl] at this; exact this)) ?_
      refine wg_iald (d151_53 L xs) (n := 16) (by decide) rfl (vp_in_nI (n := h) (by omega) (by omega)) ?_
      refine wg_top (y := q.2.2.2) (by rw [nI_nat (n := h) (by omega)]; exact (T.2.2 h q hq).1.2.2.2.1) ?_
      refine wg_aload_n (d151_54 L xs) rfl ?_
      refine wg_get (d151_55 L xs) (kd := 1) (cj := 9) (k0 := 35) rfl (Or.inl rfl) (by decide) rfl rfl ?_
      refine wg_top (y := adr) hadr ?_
      refine wg_iload_n (d151_58 L xs) rfl ?_
      refine wg_invs (d151_59 L xs) (kd := 6) (mj := 139) (n := 3) rfl (Or.inl rfl) (ys := [.int (nI bits), .int adr, .int q.2.2.2]) (r := []) rfl rfl (Nat.le_of_ble_eq_true rfl) (md_alike hb32) ?_
      rintro _ _ ⟨rfl, rfl⟩
      refine wn_if_eq (d151_62 L xs) (x := bI (c_sb q.2.2.2 adr bits)) (by omega) (t := 69) (by decide) (fun h3 => ?_) (fun h3 => ?_)
      · refine wg_iconst (d151_69 L xs) (x := 0) (by decide) ?_
        refine wg_istore_n (d151_70 L xs) (ls' := [some (.ref 141), some (.int (nI bits)), some (.int 0), some (.int (nI hs1.length))]) (Nat.le_of_ble_eq_true rfl) rfl ?_
        refine wg_iinc (d151_71 L xs) (y := (nI (hs1.length + 1))) (ls' := [some (.ref 141), some (.int (nI bits)), some (.int 0), some (.int (nI (hs1.length + 1)))]) rfl (nI_add hs1.length 1) rfl ?_
        refine wg_goto (d151_74 L xs) (t := 31) (by decide) ?_
        rw [List.any_cons, hsb, bI_f (b := b) (by omega), bI_f (b := c_sb q.2.2.2 adr bits) (by omega), Bool.false_or, Bool.false_or]
        have h0 := ih (hs1 ++ [h]) false he1
        rw [hlen1, Bool.false_or] at h0
        exact h0
      · refine wg_iconst (d151_65 L xs) (x := 1) (by decide) ?_
        refine wg_goto (d151_66 L xs) (t := 70) (by decide) ?_
        refine wg_istore_n (d151_70 L xs) (ls' := [some (.ref 141), some (.int (nI bits)), some (.int 1), some (.int (nI hs1.length))]) (Nat.le_of_ble_eq_true rfl) rfl ?_
        refine wg_iinc (d151_71 L xs) (y := (nI (hs1.length + 1))) (ls' := [some (.ref 141), some (.int (nI bits)), some (.int 1), some (.int (nI (hs1.length + 1)))]) rfl (nI_add hs1.length 1) rfl ?_
        refine wg_goto (d151_74 L xs) (t := 31) (by decide) ?_
        rw [List.any_cons, hsb, bI_f (b := b) (by omega), bI_t (b := c_sb q.2.2.2 adr bits) (by omega), Bool.false_or, Bool.true_or]
        have h0 := ih (hs1 ++ [h]) true he1
        rw [hlen1, Bool.true_or] at h0
        exact h0
theorem md_hosts {bits : Nat} {σ : ckS} (hb32 : bits ≤ 32) (hE : isE s E) (h10 : s.1 141 10 = nI nm.length) (hnm : holdA s 148 0 nm) (hl1 : 1 ≤ nm.length) (hl48 : nm.length ≤ 60) (hsg : isSg s σ) (hok : okS σ) : ca L xs (d + 3) 151 [.ref 141, .int (nI bits)] s (fun v s' => v = some (.int (xI (x_host E.1 E.2.1 nm bits σ.2.1).1)) ∧ mfr s s' [12, 14, 15, 23, 36, 38] [149, 150] ∧ hPost s s' (st_ask σ nm (x_host E.1 E.2.1 nm bits σ.2.1).2) (x_host E.1 E.2.1 nm bits σ.2.1).1) := by
  refine wg_call (Nat.le_of_ble_eq_true rfl) ?_
  have hR16 := hE.1.2.1
  have hv2 := hok.2
  show wp L xs (d + 2) 151 0 [some (.ref 141), some (.int (nI bits)), none, none] [] s _
  cases hfi : f_fine nm E.1 with
  | false =>
    refine wg_aload_n (d151_0 L xs) rfl ?_
    refine wg_iconst (d151_1 L xs) (x := 0) (by decide) ?_
    refine wg_invv (d151_2 L xs) (kd := 7) (mj := 121) (n := 1) rfl (Or.inl rfl) (ys := [.int 0]) (r := []) rfl rfl (by decide) rfl rfl (Nat.le_of_ble_eq_true rfl) (by have h := md_ask (L := L) (xs := xs) (d := d) (kd := 0) hE.1 h10 hnm (by omega) (by omega); rw [hfi] at h; exact h) ?_
    rintro _ s1 ⟨rfl, hm1, a14, a12, a49, aH⟩
    have hsg1s := isSg_ask hsg hm1 (by decide) a14 a12 a49 hl1
    have c23 := hm1.2.1 23 (by decide)
    refine wg_if_ne (d151_5 L xs) (t := 15) (by decide) (fun hp => absurd hp (by decide)) (fun _ => ?_)
    refine wg_aload_n (d151_8 L xs) rfl ?_
    refine wg_iconst (d151_9 L xs) (x := 5) (by decide) ?_
    refine wg_invv (d151_10 L xs) (kd := 7) (mj := 119) (n := 1) rfl (Or.inl rfl) (ys := [.int 5]) (r := []) rfl rfl (by decide) rfl rfl (Nat.le_of_ble_eq_true rfl) (md_end) ?_
    rintro _ _ ⟨rfl, rfl⟩
    refine wg_iconst (d151_13 L xs) (x := (-1)) (by decide) ?_
    exact wg_iret (d151_14 L xs) rfl rfl ⟨by rw [xh_5 hfi]; rfl, (hm1.more (by decide) (by decide)).trans ((mfr_I s1 (by decide)).trans (mfr_I _ (by decide))), by rw [xh_5 hfi]; exact ⟨isSg_I (isSg_I hsg1s (by decide)) (by decide), fun q => absurd q (by show ¬ 5 < 5; omega), fun _ => ⟨rfl, rfl⟩⟩⟩
  | true =>
    cases hhs : f_hits nm 0 E.1 0 with
    | nil =>
      by_cases hv : σ.2.1 = 2
      · refine wg_aload_n (d151_0 L xs) rfl ?_
        refine wg_iconst (d151_1 L xs) (x := 0) (by decide) ?_
        refine wg_invv (d151_2 L xs) (kd := 7) (mj := 121) (n := 1) rfl (Or.inl rfl) (ys := [.int 0]) (r := []) rfl rfl (by decide) rfl rfl (Nat.le_of_ble_eq_true rfl) (by have h := md_ask (L := L) (xs := xs) (d := d) (kd := 0) hE.1 h10 hnm (by omega) (by omega); rw [hfi] at h; exact h) ?_
        rintro _ s1 ⟨rfl, hm1, a14, a12, a49, aH⟩
        have hsg1s := isSg_ask hsg hm1 (by decide) a14 a12 a49 hl1
        have c23 := hm1.2.1 23 (by decide)
        refine wg_if_ne (d151_5 L xs) (t := 15) (by decide) (fun _ => ?_) (fun hn => absurd (by decide) hn)
        refine wg_aload_n (d151_15 L xs) rfl ?_
        refine wg_get (d151_16 L xs) (kd := 1) (cj := 9) (k0 := 15) rfl (Or.inl rfl) (by decide) rfl rfl ?_
        refine wg_top (y := 0) (by rw [aH.1, hhs]; rfl) ?_
        refine wg_if_ne (d151_19 L xs) (t := 27) (by decide) (fun hp => absurd hp (by decide)) (fun _ => ?_)
        refine wg_aload_n (d151_22 L xs) rfl ?_
        refine wg_invv (d151_23 L xs) (kd := 7) (mj := 148) (n := 0) rfl (Or.inl rfl) (ys := []) (r := []) rfl rfl (by decide) rfl rfl (Nat.le_of_ble_eq_true rfl) (md_empty6 (n := σ.2.1) hsg1s.2.1 (by omega)) ?_
        rintro _ _ ⟨rfl, rfl⟩
        exact wg_iret (d151_26 L xs) rfl rfl ⟨by rw [xh_0 hfi hhs, if_pos (by omega)]; rfl, (hm1.more (by decide) (by decide)).trans (((mfr_I s1 (by decide)).trans (mfr_I _ (by decide))).trans (mfr_I _ (by decide))), by rw [xh_0 hfi hhs, if_pos (by omega)]; exact ⟨isSg_I (isSg_I (isSg_v hsg1s) (by decide)) (by decide), fun q => absurd q (by show ¬ 6 < 5; omega), fun _ => ⟨rfl, rfl⟩⟩⟩
      · refine wg_aload_n (d151_0 L xs) rfl ?_
        refine wg_iconst (d151_1 L xs) (x := 0) (by decide) ?_
        refine wg_invv (d151_2 L xs) (kd := 7) (mj := 121) (n := 1) rfl (Or.inl rfl) (ys := [.int 0]) (r := []) rfl rfl (by decide) rfl rfl (Nat.le_of_ble_eq_true rfl) (by have h := md_ask (L := L) (xs := xs) (d := d) (kd := 0) hE.1 h10 hnm (by omega) (by omega); rw [hfi] at h; exact h) ?_
        rintro _ s1 ⟨rfl, hm1, a14, a12, a49, aH⟩
        have hsg1s := isSg_ask hsg hm1 (by decide) a14 a12 a49 hl1
        have c23 := hm1.2.1 23 (by decide)
        refine wg_if_ne (d151_5 L xs) (t := 15) (by decide) (fun _ => ?_) (fun hn => absurd (by decide) hn)
        refine wg_aload_n (d151_15 L xs) rfl ?_
        refine wg_get (d151_16 L xs) (kd := 1) (cj := 9) (k0 := 15) rfl (Or.inl rfl) (by decide) rfl rfl ?_
        refine wg_top (y := 0) (by rw [aH.1, hhs]; rfl) ?_
        refine wg_if_ne (d151_19 L xs) (t := 27) (by decide) (fun hp => absurd hp (by decide)) (fun _ => ?_)
        refine wg_aload_n (d151_22 L xs) rfl ?_
        refine wg_invv (d151_23 L xs) (kd := 7) (mj := 148) (n := 0) rfl (Or.inl rfl) (ys := []) (r := []) rfl rfl (by decide) rfl rfl (Nat.le_of_ble_eq_true rfl) (md_empty0 (n := σ.2.1) hsg1s.2.1 (by omega)) ?_
        rintro _ _ ⟨rfl, rfl⟩
        exact wg_iret (d151_26 L xs) rfl rfl ⟨by rw [xh_0 hfi hhs, if_neg (by omega)]; rfl, (hm1.more (by decide) (by decide)).trans (mfr_I s1 (by decide)), by rw [xh_0 hfi hhs, if_neg (by omega)]; exact ⟨isSg_v hsg1s, fun _ => c23, fun q => absurd q (by show ¬ 5 ≤ 0; omega)⟩⟩
    | cons x hs =>
      have hlenH : (x :: hs).length ≤ 16 := hhs ▸ hits_len (m := nm) (kd := 0) E.1 0 hR16
      change hs.length + 1 ≤ 16 at hlenH
      rw [xh_1 hfi hhs]
      refine wg_aload_n (d151_0 L xs) rfl ?_
      refine wg_iconst (d151_1 L xs) (x := 0) (by decide) ?_
      refine wg_invv (d151_2 L xs) (kd := 7) (mj := 121) (n := 1) rfl (Or.inl rfl) (ys := [.int 0]) (r := []) rfl rfl (by decide) rfl rfl (Nat.le_of_ble_eq_true rfl) (by have h := md_ask (L := L) (xs := xs) (d := d) (kd := 0) hE.1 h10 hnm (by omega) (by omega); rw [hfi] at h; exact h) ?_
      rintro _ s1 ⟨rfl, hm1, a14, a12, a49, aH⟩
      have hsg1s := isSg_ask hsg hm1 (by decide) a14 a12 a49 hl1
      have c23 := hm1.2.1 23 (by decide)
      refine wg_if_ne (d151_5 L xs) (t := 15) (by decide) (fun _ => ?_) (fun hn => absurd (by decide) hn)
      refine wg_aload_n (d151_15 L xs) rfl ?_
      refine wg_get (d151_16 L xs) (kd := 1) (cj := 9) (k0 := 15) rfl (Or.inl rfl) (by decide) rfl rfl ?_
      refine wg_top (y := (nI (hs.length + 1))) (by rw [aH.1, hhs]; rfl) ?_
      refine wn_if_ne (d151_19 L xs) (x := hs.length + 1) (by omega) (t := 27) (by decide) (fun h2 => ?_) (fun h2 => by omega)
      refine wg_iconst (d151_27 L xs) (x := 0) (by decide) ?_
      refine wg_istore_n (d151_28 L xs) (ls' := [some (.ref 141), some (.int (nI bits)), some (.int 0), none]) (Nat.le_of_ble_eq_true rfl) rfl ?_
      refine wg_iconst (d151_29 L xs) (x := 0) (by decide) ?_
      refine wg_istore_n (d151_30 L xs) (ls' := [some (.ref 141), some (.int (nI bits)), some (.int 0), some (.int 0)]) (Nat.le_of_ble_eq_true rfl) rfl ?_
      rw [hhs] at aH
      refine wp_mono (md_ho_l (nm := nm) (hs := x :: hs) (R := E.1) (adr := E.2.1) hb32 (hhs ▸ hits_mem (R := E.1) E.1 0 rfl) hlenH (isE_of hE hm1 (by decide) (by decide)).1 aH (isE_of hE hm1 (by decide) (by decide)).2.1 (x :: hs) [] false rfl) ?_
      rintro _ _ ⟨rfl, rfl⟩
      rw [Bool.false_or]
      have hbn := bI_lt ((x :: hs).any (h_sb E.1 E.2.1 bits))
      exact ⟨by rw [xI_b], hm1.more (by decide) (by decide), hsg1s, fun _ => c23, fun q => absurd q (by show ¬ 5 ≤ bI _; omega)⟩
end KH
