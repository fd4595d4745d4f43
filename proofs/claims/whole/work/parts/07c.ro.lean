/-! methods that write nothing and make nothing leave the cells as they are -/
def ro_i (i : Instr) : Bool := match i with
  | .putfield _ | .iastore | .castore | .lastore | .aastore | .newarray _ | .anewarray _ | .new _ | .invokespecial _ => false
  | _ => true
def ro_c (T : ax_T) (S : List Nat) (mi : Nat) (i : Instr) : Bool := match i with
  | .invokestatic idx => decide ((ax_pl T mi idx).2.1 ∈ S)
  | .invokevirtual idx => decide ((ax_pl T mi idx).2.1 ∈ S)
  | _ => true
def ro_m (T : ax_T) (S : List Nat) : Prop := ∀ mi ∈ S, ∀ (pc : Nat) (i : Instr) (len : Nat), decode (ax_code T mi) pc = .ok (i, len) → ro_i i = true ∧ ro_c T S mi i = true
section RO
variable {T : ax_T} {S : List Nat} {mi pc : Nat} {i : Instr} {ls ls' : ax_L} {st st' : List Value} {h h' : ax_H} {pc' : Nat}
theorem ro_ald {j : Int32} {q : Nat} {r : List Value} (hp : ax_ald T i j q pc ls r h = some (pc', ls', st', h')) : h' = h := by
  unfold ax_ald at hp
  split at hp
  · unfold ax_scr at hp
    split at hp
    · split at hp
      · split at hp
        · cases hp
        · cases hp; rfl
      · cases hp
    · cases hp
  · split at hp
    · split at hp
      · cases hp
      · split at hp <;> cases hp <;> rfl
    · cases hp
theorem ro_mem (hi : ro_i i = true) (hp : ax_mem T mi i pc ls st h = some (pc', ls', st', h')) : h' = h := by
  unfold ax_mem at hp
  split at hp
  · unfold ax_getf at hp
    split at hp
    · split at hp
      · rw [Option.map_eq_some_iff] at hp
        obtain ⟨v, -, hv⟩ := hp
        cases hv
        rfl
      · cases hp
    · cases hp
  · cases hi
  iterate 4 · exact ro_ald hp
  iterate 4 · cases hi
  · unfold ax_alen at hp
    split at hp
    · rw [Option.map_eq_some_iff] at hp
      obtain ⟨q9, hq9, hp⟩ := hp
      cases hp; rfl
    · split at hp
      · split at hp
        · cases hp; rfl
        · cases hp
      · cases hp
  · cases hi
  · cases hi
  · cases hi
  · unfold ax_ldc2 at hp
    split at hp
    · cases hp; rfl
    · cases hp
  · cases hi
  · cases hp
theorem ro_inv {mj : Nat} {av r : List Value} (hi : ro_i i = true) (hc : ro_c T S mi i = true) (hp : ax_inv T mi i st h = some (mj, av, r)) : mj ∈ S := by
  unfold ax_inv at hp
  split at hp
  · split at hp
    · cases hp; exact of_decide_eq_true hc
    · cases hp
  · split at hp
    · split at hp
      · split at hp
        · cases hp; exact of_decide_eq_true hc
        · cases hp
      · cases hp
    · cases hp
  · cases hi
  · cases hp
theorem ro_loop {cf : Nat → List Value → ax_H → Option ax_O} (hS : ro_m T S) (hm : mi ∈ S) (hcf : ∀ mj av h o, mj ∈ S → cf mj av h = some o → ∃ v, o = (.inl v, h)) :
    ∀ (n pc : Nat) (ls : ax_L) (st : List Value) (h : ax_H) (o : ax_O), ax_loop T cf mi n pc ls st h = some o → ∃ v, o = (.inl v, h) := by
  intro n
  induction n with
  | zero => intro pc ls st h o hr; cases hr
  | succ n ih =>
    intro pc ls st h o hr
    rw [ax_loop] at hr
    split at hr
    · rename_i i len hd
      obtain ⟨hi, hc⟩ := hS mi hm pc i len hd
      split at hr
      · exact ih _ _ _ _ _ hr
      · split at hr
        · split at hr
          · rename_i hp
            have e := ro_mem hi hp
            subst e
            exact ih _ _ _ _ _ hr
          · split at hr
            · rename_i hi2
              have hj := ro_inv hi hc hi2
              split at hr
              · rename_i hcall
                obtain ⟨v, e⟩ := hcf _ _ _ _ hj hcall
                cases e
                exact ih _ _ _ _ _ hr
              · rename_i hcall
                obtain ⟨v, e⟩ := hcf _ _ _ _ hj hcall
                cases e
              · cases hr
            · split at hr
              · exact ih _ _ _ _ _ hr
              · split at hr
                · rename_i ht
                  unfold ax_thr at ht
                  split at ht
                  · cases hi
                  · cases ht
                · rename_i ht
                  cases hv : ax_ret (ax_rt T mi) i st with
                  | none => rw [hv] at hr; cases hr
                  | some w => rw [hv] at hr; cases hr; exact ⟨_, rfl⟩
        · cases hr
    · cases hr
theorem ro_call (hS : ro_m T S) : ∀ (d n mi : Nat) (av : List Value) (h : ax_H) (o : ax_O), mi ∈ S → ax_call T d n mi av h = some o → ∃ v, o = (.inl v, h) := by
  intro d
  induction d with
  | zero => intro n mi av h o _ hr; cases hr
  | succ d ih =>
    intro n mi av h o hm hr
    exact ro_loop hS hm (fun mj av h o hj hr => ih n mj av h o hj hr) _ _ _ _ _ _ (ax_call_spec hr).2.1
theorem ro_Ca {d : Nat} {av : List Value} {o : ax_O} (hS : ro_m T S) (hm : mi ∈ S) (hr : ax_Ca T d mi av h o) : ∃ v, o = (.inl v, h) := by
  obtain ⟨n, hn⟩ := hr
  exact ro_call hS d n mi av h o hm (hn n (Nat.le_refl _))
end RO
