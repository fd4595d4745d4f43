/-! the cells behind the constructors, all of them: the second layer's first state -/
def mg_x (h : ax_H) : mg_s :=
  (fun a k => match h.1 a with
    | some (.inr o) => match o.2[k]? with
      | some (.int x) => x
      | _ => 0
    | _ => 0,
   fun a => match h.1 a with
    | some (.inl (_, _, .inl f)) => f
    | _ => fun _ => 0,
   match h.1 4 with
    | some (.inl (_, _, .inr (.inr (.inr (.inr f))))) => f
    | _ => fun _ => none,
   match h.1 88 with
    | some (.inl (_, _, .inr (.inr (.inr (.inr f))))) => f
    | _ => fun _ => none,
   match h.1 166 with
    | some (.inl (_, _, .inr (.inl f))) => f
    | _ => fun _ => 0)
def mg_ck1 (h : ax_H) (a : Nat) : Bool := match h.1 a with
  | some (.inr o) => match mg_c (mg_x h) a with
    | .inr g => decide (o = g)
    | _ => false
  | some (.inl (t, n, .inl f)) => decide ((mg_sh.getD a (0, 0)).2 = n) && ((decide ((mg_sh.getD a (0, 0)).1 = 1 ∧ t = 1) && (List.range n).all (fun j => decide (vp_nar .char (f j) = f j))) || decide ((mg_sh.getD a (0, 0)).1 = 5 ∧ t = 0))
  | some (.inl (t, n, .inr (.inr (.inr (.inr _))))) => decide ((a = 4 ∧ t = 3 ∧ n = 16) ∨ (a = 88 ∧ t = 4 ∧ n = 11))
  | some (.inl (t, n, .inr (.inl _))) => decide (a = 166 ∧ t = 2 ∧ n = 1)
  | _ => false
theorem mg_ck1_ok {h : ax_H} {a : Nat} (hc : mg_ck1 h a = true) : h.1 a = some (mg_c (mg_x h) a) ∧ ((mg_sh.getD a (0, 0)).1 = 1 → ∀ j, j < (mg_sh.getD a (0, 0)).2 → vp_nar .char ((mg_x h).2.1 a j) = (mg_x h).2.1 a j) := by
  have hk14 : (mg_sh.getD 4 (0, 0)).1 = 8 ∧ (mg_sh.getD 88 (0, 0)).1 = 10 ∧ (mg_sh.getD 166 (0, 0)).1 = 14 := by decide +kernel
  unfold mg_ck1 at hc
  split at hc
  · rename_i o hq
    split at hc
    · rename_i g hm
      have e := of_decide_eq_true hc
      subst e
      refine ⟨by rw [hq, hm], fun hk => ?_⟩
      exfalso
      unfold mg_c at hm
      rw [hk] at hm
      cases hm
    · cases hc
  · rename_i t n f hq
    have hf : (mg_x h).2.1 a = f := by
      show (match h.1 a with
        | some (.inl (_, _, .inl f)) => f
        | _ => fun _ => 0) = f
      rw [hq]
    rw [Bool.and_eq_true, Bool.or_eq_true, Bool.and_eq_true] at hc
    obtain ⟨hn, hc⟩ := hc
    have hn := of_decide_eq_true hn
    rcases hc with ⟨hk, hz⟩ | hk
    · obtain ⟨hk2, ht2⟩ := of_decide_eq_true hk
      subst ht2
      refine ⟨?_, fun _ j hj => ?_⟩
      · rw [hq]; unfold mg_c; rw [hk2, hn, hf]; rfl
      · rw [hf]
        rw [hn] at hj
        exact of_decide_eq_true (List.all_eq_true.mp hz j (List.mem_range.mpr hj))
    · obtain ⟨hk2, ht2⟩ := of_decide_eq_true hk
      subst ht2
      refine ⟨?_, fun h1 => by rw [hk2] at h1; cases h1⟩
      rw [hq]; unfold mg_c; rw [hk2, hn, hf]; rfl
  · rename_i t n f hq
    rcases of_decide_eq_true hc with ⟨rfl, rfl, rfl⟩ | ⟨rfl, rfl, rfl⟩
    · refine ⟨?_, fun h1 => by rw [hk14.1] at h1; cases h1⟩
      have hf : (mg_x h).2.2.1 = f := by
        show (match h.1 4 with
          | some (.inl (_, _, .inr (.inr (.inr (.inr f))))) => f
          | _ => fun _ => none) = f
        rw [hq]
      rw [hq]; unfold mg_c; rw [hf]; rfl
    · refine ⟨?_, fun h1 => by rw [hk14.2.1] at h1; cases h1⟩
      have hf : (mg_x h).2.2.2.1 = f := by
        show (match h.1 88 with
          | some (.inl (_, _, .inr (.inr (.inr (.inr f))))) => f
          | _ => fun _ => none) = f
        rw [hq]
      rw [hq]; unfold mg_c; rw [hf]; rfl
  · rename_i t n f hq
    obtain ⟨rfl, rfl, rfl⟩ := of_decide_eq_true hc
    refine ⟨?_, fun h1 => by rw [hk14.2.2] at h1; cases h1⟩
    have hf : (mg_x h).2.2.2.2 = f := by
      show (match h.1 166 with
        | some (.inl (_, _, .inr (.inl f))) => f
        | _ => fun _ => 0) = f
      rw [hq]
    rw [hq]; unfold mg_c; rw [hf]; rfl
  · cases hc
/-- the numbers at the start -/
def mg_v0 (s : mg_s) : Bool := decide (s.1 1 1 = 0) && (decide (s.1 3 1 = 0) && (decide (s.1 5 1 = 0) && (decide (s.1 87 5 = -1) && ([0, 1, 3, 14, 34].all (fun k => decide (s.1 141 k = 0)) && ((List.range 16).all (fun k => decide (s.2.2.1 k = some (7 + 5 * k))) && (List.range 11).all (fun k => decide (s.2.2.2.1 k = some (93 + 4 * k))))))))
def mg_d2 (h : ax_H) : Bool := (List.range 167).all (mg_ck1 h) && (mg_v0 (mg_x h) && decide (h.2.2.1 = 7912))
def mg_d1 (hB : ax_H) : Bool := match ax_call mg_T0 8 300 104 [.ref 141] (ax_add hB (.inr (9, ax_blank mg_T0 9 49)) 49) with
  | some (.inl none, hC2) => decide (hC2.2.1 = 166) && mg_d2 (ax_add hC2 (.inl (2, (1 : Int32).toNatClampNeg, .inr (.inl (fun _ => 0)))) (1 : Int32).toNatClampNeg)
  | _ => false
def mg_d0 : Bool := match ax_call mg_T0 8 300 4 [.ref 0] mg_hA with
  | some (.inl none, hB) => decide (hB.2.1 = 141) && mg_d1 hB
  | _ => false
theorem mg_d_ok : mg_d0 = true := by decide +kernel
theorem mg_dex : ∃ hB hC2 : ax_H, ax_call mg_T0 8 300 4 [.ref 0] mg_hA = some (.inl none, hB) ∧ hB.2.1 = 141 ∧ ax_call mg_T0 8 300 104 [.ref 141] (ax_add hB (.inr (9, ax_blank mg_T0 9 49)) 49) = some (.inl none, hC2) ∧ hC2.2.1 = 166 ∧ mg_d2 (ax_add hC2 (.inl (2, (1 : Int32).toNatClampNeg, .inr (.inl (fun _ => 0)))) (1 : Int32).toNatClampNeg) = true := by
  have h := mg_d_ok
  unfold mg_d0 at h
  split at h
  · rename_i hB h1
    rw [Bool.and_eq_true] at h
    obtain ⟨h2, h⟩ := h
    unfold mg_d1 at h
    split at h
    · rename_i hC2 h3
      rw [Bool.and_eq_true] at h
      exact ⟨hB, hC2, h1, of_decide_eq_true h2, h3, of_decide_eq_true h.1, h.2⟩
    · cases h
  · cases h
/-- the law up to its loop, all cells known -/
theorem mg_begin : ∃ (hC : ax_H) (s : mg_s), mg_S hC s ∧ hC.2.1 = 167 ∧ hC.2.2.1 = 7912 ∧ mg_v0 s = true ∧ ∀ (L : Nat) (xs : Nat → Int32) (d : Nat) (o : ax_O), 8 ≤ d → ax_Go (mgT L xs) d 0 23 [some (.ref ax_big), some (.ref 0), some (.ref 141), some (.ref 166), some (.int 0), none, none] [] hC o → ax_Go (mgT L xs) d 0 0 (ax_entry (mgT L xs) 0 [.ref ax_big]) [] mg_h0 o := by
  obtain ⟨hB, hC2, hr1, hzB, hr2, hzC, hb⟩ := mg_dex
  unfold mg_d2 at hb
  rw [Bool.and_eq_true, Bool.and_eq_true] at hb
  obtain ⟨hb1, hb2, hb3⟩ := hb
  have hz : (ax_add hC2 (.inl (2, (1 : Int32).toNatClampNeg, .inr (.inl (fun _ => 0)))) (1 : Int32).toNatClampNeg).2.1 = 167 := congrArg (fun q => q + 1) hzC
  refine ⟨ax_add hC2 (.inl (2, (1 : Int32).toNatClampNeg, .inr (.inl (fun _ => 0)))) (1 : Int32).toNatClampNeg, mg_x _, ⟨fun a ha => (mg_ck1_ok (List.all_eq_true.mp hb1 a (List.mem_range.mpr ha))).1, by rw [hz]; exact Nat.le_refl _, fun a ha hk j hj => (mg_ck1_ok (List.all_eq_true.mp hb1 a (List.mem_range.mpr ha))).2 hk j hj⟩, hz, of_decide_eq_true hb3, hb2, fun L xs d o h8 k => ?_⟩
  have c1 : ax_Ca (mgT L xs) d 4 [.ref 0] mg_hA (.inl none, hB) := ag_deep h8 (ag_done (n := 300) (ax_call_up (sc := some (L, xs)) 8 300 4 [.ref 0] mg_hA (.inl none, hB) hr1))
  have c2 : ax_Ca (mgT L xs) d 104 [.ref 141] (ax_add hB (.inr (9, ax_blank mg_T0 9 49)) 49) (.inl none, hC2) := ag_deep h8 (ag_done (n := 300) (ax_call_up (sc := some (L, xs)) 8 300 104 [.ref 141] _ (.inl none, hC2) hr2))
  show ax_Go _ d 0 0 [some (.ref ax_big), none, none, none, none, none, none] [] mg_h0 o
  refine ag_new (d0_0 L xs) (ci := 0) (n := 4) rfl (by decide) ?_
  show ax_Go _ d 0 3 _ [.ref 0] mg_hA o
  refine ag_dup (d0_3 L xs) rfl ?_
  refine ag_invi (d0_4 L xs) (kd := 8) (mj := 4) (n := 0) rfl (Or.inl rfl) (xs := []) (a := 0) (r := [.ref 0]) rfl rfl (Nat.le_of_ble_eq_true rfl) c1 ?_
  refine ag_astore_n (d0_7 L xs) (ls' := [some (.ref ax_big), some (.ref 0), none, none, none, none, none]) (Nat.le_of_ble_eq_true rfl) rfl ?_
  refine ag_new (d0_8 L xs) (ci := 9) (n := 49) rfl (by rw [hzB]; decide) ?_
  refine ag_ref hzB ?_
  show ax_Go _ d 0 11 _ [.ref 141] (ax_add hB (.inr (9, ax_blank mg_T0 9 49)) 49) o
  refine ag_dup (d0_11 L xs) rfl ?_
  refine ag_invi (d0_12 L xs) (kd := 8) (mj := 104) (n := 0) rfl (Or.inl rfl) (xs := []) (a := 141) (r := [.ref 141]) rfl rfl (Nat.le_of_ble_eq_true rfl) c2 ?_
  refine ag_astore_n (d0_15 L xs) (ls' := [some (.ref ax_big), some (.ref 0), some (.ref 141), none, none, none, none]) (Nat.le_of_ble_eq_true rfl) rfl ?_
  refine ag_iconst (d0_16 L xs) (x := 1) (by decide) ?_
  refine ag_newl (d0_17 L xs) (t := 2) rfl (by rw [hzC]; decide) ?_
  refine ag_ref hzC ?_
  refine ag_astore_n (d0_19 L xs) (ls' := [some (.ref ax_big), some (.ref 0), some (.ref 141), some (.ref 166), none, none, none]) (Nat.le_of_ble_eq_true rfl) rfl ?_
  refine ag_iconst (d0_20 L xs) (x := 0) (by decide) ?_
  refine ag_istore (d0_21 L xs) (ls' := [some (.ref ax_big), some (.ref 0), some (.ref 141), some (.ref 166), some (.int 0), none, none]) (Nat.le_of_ble_eq_true rfl) rfl ?_
  exact k
