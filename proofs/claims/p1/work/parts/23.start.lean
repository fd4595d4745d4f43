def mg_objs : List (Option (Nat × List Value)) := [some (0, [.ref 1, .ref 3, .ref 87, .ref 137]), some (1, [.ref 2, .int 0]), some (3, [.ref 4, .int 0, .ref 5]), some (1, [.ref 6, .int 0]), some (6, [.ref 3, .ref 88, .ref 89, .ref 91, .int 0, .int (-1), .int 0, .int 0, .int 0, .int 0]), some (9, [.int 0, .int 0, .ref 142, .int 0, .ref 143, .ref 144, .ref 145, .ref 146, .ref 147, .int 0, .int 0, .ref 148, .int 0, .ref 149, .int 0, .int 0, .ref 150, .int 0, .ref 151, .int 0, .ref 152, .ref 153, .int 0, .int 0, .ref 154, .ref 155, .ref 156, .ref 157, .ref 158, .ref 159, .ref 160, .ref 161, .ref 162, .int 0, .int 0, .int 0, .int 0, .int 0, .int 0, .int 0, .int 0, .int 0, .ref 163, .int 0, .int 0, .int 0, .int 0, .ref 164, .ref 165])]
def mg_b2 (hC : ax_H) : Bool := decide ([0, 1, 3, 5, 87, 141].map (ax_obj hC) = mg_objs) && (decide ([2, 142].map (ax_arr hC) = [some (1, 100), some (0, 100)]) && decide (hC.2.2.1 = 7912))
def mg_b1 (hB : ax_H) : Bool := match ax_call mg_T0 8 300 104 [.ref 141] (ax_add hB (.inr (9, ax_blank mg_T0 9 49)) 49) with
  | some (.inl none, hC2) => decide (hC2.2.1 = 166) && mg_b2 (ax_add hC2 (.inl (2, (1 : Int32).toNatClampNeg, .inr (.inl (fun _ => 0)))) (1 : Int32).toNatClampNeg)
  | _ => false
def mg_b0 : Bool := match ax_call mg_T0 8 300 4 [.ref 0] mg_hA with
  | some (.inl none, hB) => decide (hB.2.1 = 141) && mg_b1 hB
  | _ => false
theorem mg_b_ok : mg_b0 = true := by decide +kernel
theorem mg_ex : ∃ hB hC2 : ax_H, ax_call mg_T0 8 300 4 [.ref 0] mg_hA = some (.inl none, hB) ∧ hB.2.1 = 141 ∧ ax_call mg_T0 8 300 104 [.ref 141] (ax_add hB (.inr (9, ax_blank mg_T0 9 49)) 49) = some (.inl none, hC2) ∧ hC2.2.1 = 166 ∧ mg_b2 (ax_add hC2 (.inl (2, (1 : Int32).toNatClampNeg, .inr (.inl (fun _ => 0)))) (1 : Int32).toNatClampNeg) = true := by
  have h := mg_b_ok
  unfold mg_b0 at h
  split at h
  · rename_i hB h1
    rw [Bool.and_eq_true] at h
    obtain ⟨h2, h⟩ := h
    unfold mg_b1 at h
    split at h
    · rename_i hC2 h3
      rw [Bool.and_eq_true] at h
      exact ⟨hB, hC2, h1, of_decide_eq_true h2, h3, of_decide_eq_true h.1, h.2⟩
    · cases h
  · cases h
/-- the cells of two fresh objects -/
def mg_fr (h : ax_H) : Prop := h.2.1 = 167 ∧ h.2.2.1 = 7912 ∧ h.1 0 = some (.inr (0, [.ref 1, .ref 3, .ref 87, .ref 137])) ∧ h.1 1 = some (.inr (1, [.ref 2, .int 0])) ∧ h.1 3 = some (.inr (3, [.ref 4, .int 0, .ref 5])) ∧ h.1 5 = some (.inr (1, [.ref 6, .int 0])) ∧ h.1 87 = some (.inr (6, [.ref 3, .ref 88, .ref 89, .ref 91, .int 0, .int (-1), .int 0, .int 0, .int 0, .int 0])) ∧ h.1 141 = some (.inr (9, [.int 0, .int 0, .ref 142, .int 0, .ref 143, .ref 144, .ref 145, .ref 146, .ref 147, .int 0, .int 0, .ref 148, .int 0, .ref 149, .int 0, .int 0, .ref 150, .int 0, .ref 151, .int 0, .ref 152, .ref 153, .int 0, .int 0, .ref 154, .ref 155, .ref 156, .ref 157, .ref 158, .ref 159, .ref 160, .ref 161, .ref 162, .int 0, .int 0, .int 0, .int 0, .int 0, .int 0, .int 0, .int 0, .int 0, .ref 163, .int 0, .int 0, .int 0, .int 0, .ref 164, .ref 165])) ∧ (∃ f, h.1 2 = some (.inl (1, 100, .inl f))) ∧ (∃ f, h.1 142 = some (.inl (0, 100, .inl f)))
theorem mg_fr_of {h : ax_H} (hz : h.2.1 = 167) (hb : mg_b2 h = true) : mg_fr h := by
  unfold mg_b2 at hb
  rw [Bool.and_eq_true, Bool.and_eq_true] at hb
  obtain ⟨h1, h2, h3⟩ := hb
  have h1 := of_decide_eq_true h1
  have h2 := of_decide_eq_true h2
  have h3 := of_decide_eq_true h3
  unfold mg_objs at h1
  simp only [List.map_cons, List.map_nil, List.cons.injEq, and_true] at h1 h2
  obtain ⟨a0, a1, a2, a3, a4, a5⟩ := h1
  obtain ⟨b0, b1⟩ := h2
  exact ⟨hz, h3, ax_obj_at a0, ax_obj_at a1, ax_obj_at a2, ax_obj_at a3, ax_obj_at a4, ax_obj_at a5, ax_arr_at b0, ax_arr_at b1⟩
/-- the law up to its loop -/
theorem mg_start : ∃ hC : ax_H, mg_fr hC ∧ ∀ (L : Nat) (xs : Nat → Int32) (o : ax_O), ax_Go (mgT L xs) 8 0 23 [some (.ref ax_big), some (.ref 0), some (.ref 141), some (.ref 166), some (.int 0), none, none] [] hC o → ax_Go (mgT L xs) 8 0 0 (ax_entry (mgT L xs) 0 [.ref ax_big]) [] mg_h0 o := by
  obtain ⟨hB, hC2, hr1, hzB, hr2, hzC, hb⟩ := mg_ex
  refine ⟨ax_add hC2 (.inl (2, (1 : Int32).toNatClampNeg, .inr (.inl (fun _ => 0)))) (1 : Int32).toNatClampNeg, mg_fr_of (congrArg (fun q => q + 1) hzC) hb, fun L xs o k => ?_⟩
  have c1 : ax_Ca (mgT L xs) 8 4 [.ref 0] mg_hA (.inl none, hB) := ag_done (n := 300) (ax_call_up (sc := some (L, xs)) 8 300 4 [.ref 0] mg_hA (.inl none, hB) hr1)
  have c2 : ax_Ca (mgT L xs) 8 104 [.ref 141] (ax_add hB (.inr (9, ax_blank mg_T0 9 49)) 49) (.inl none, hC2) := ag_done (n := 300) (ax_call_up (sc := some (L, xs)) 8 300 104 [.ref 141] _ (.inl none, hC2) hr2)
  show ax_Go _ 8 0 0 [some (.ref ax_big), none, none, none, none, none, none] [] mg_h0 o
  refine ag_new (d0_0 L xs) (ci := 0) (n := 4) rfl (by decide) ?_
  show ax_Go _ 8 0 3 _ [.ref 0] mg_hA o
  refine ag_dup (d0_3 L xs) rfl ?_
  refine ag_invi (d0_4 L xs) (kd := 8) (mj := 4) (n := 0) rfl (Or.inl rfl) (xs := []) (a := 0) (r := [.ref 0]) rfl rfl (Nat.le_of_ble_eq_true rfl) c1 ?_
  refine ag_astore_n (d0_7 L xs) (ls' := [some (.ref ax_big), some (.ref 0), none, none, none, none, none]) (Nat.le_of_ble_eq_true rfl) rfl ?_
  refine ag_new (d0_8 L xs) (ci := 9) (n := 49) rfl (by rw [hzB]; decide) ?_
  refine ag_ref hzB ?_
  show ax_Go _ 8 0 11 _ [.ref 141] (ax_add hB (.inr (9, ax_blank mg_T0 9 49)) 49) o
  refine ag_dup (d0_11 L xs) rfl ?_
  refine ag_invi (d0_12 L xs) (kd := 8) (mj := 104) (n := 0) rfl (Or.inl rfl) (xs := []) (a := 141) (r := [.ref 141]) rfl rfl (Nat.le_of_ble_eq_true rfl) c2 ?_
  refine ag_astore_n (d0_15 L xs) (ls' := [some (.ref ax_big), some (.ref 0), some (.ref 141), none, none, none, none]) (Nat.le_of_ble_eq_true rfl) rfl ?_
  refine ag_iconst (d0_16 L xs) (x := 1) (by decide) ?_
  refine ag_newl (d0_17 L xs) (t := 2) rfl (by rw [hzC]; decide) ?_
  refine ag_ref hzC ?_
  refine ag_astore_n (d0_19 L xs) (ls' := [some (.ref ax_big), some (.ref 0), some (.ref 141), some (.ref 166), none, none, none]) (Nat.le_of_ble_eq_true rfl) rfl ?_
  refine ag_iconst (d0_20 L xs) (x := 0) (by decide) ?_
  refine ag_istore (d0_21 L xs) (ls' := [some (.ref ax_big), some (.ref 0), some (.ref 141), some (.ref 166), some (.int 0), none, none]) (Nat.le_of_ble_eq_true rfl) rfl ?_
  exact k
