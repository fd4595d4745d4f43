theorem mg_exc1 : ∀ w ∈ Bundle.ownAtoms0 "MailGuard" 64 (ax_en 1) ax_up2, w ∈ mg_TB ∨ w ∈ ax_zs := by decide +kernel
theorem mg_exc2 : ∀ w ∈ Bundle.ownAtoms0 "MailGuard" 70 (ax_en 2) ax_up2, w ∈ mg_TB ∨ w ∈ ax_zs := by decide +kernel
theorem pe_Guard_62 : ax_okE mg_TB mg_T0 "MailGuard" 62 (10, 1, 64) := by
  simp only [ax_okE]
  exact ⟨mg_t2 112 (by decide +kernel) rfl, mg_t2 113 (by decide +kernel) rfl, mg_t1 14 (by decide +kernel) rfl, by decide +kernel, mg_exc1⟩
theorem pe_Guard_68 : ax_okE mg_TB mg_T0 "MailGuard" 68 (10, 2, 70) := by
  simp only [ax_okE]
  exact ⟨mg_t2 174 (by decide +kernel) rfl, mg_t2 175 (by decide +kernel) rfl, mg_t1 15 (by decide +kernel) rfl, by decide +kernel, mg_exc2⟩
theorem pe_Guard (idx : Nat) : ax_okE mg_TB mg_T0 "MailGuard" idx (pl_Guard idx) := by
  unfold pl_Guard
  split
  · exact pe_Guard_3
  · exact pe_Guard_9
  · exact pe_Guard_11
  · exact pe_Guard_14
  · exact pe_Guard_18
  · exact pe_Guard_20
  · exact pe_Guard_21
  · exact pe_Guard_25
  · exact pe_Guard_27
  · exact pe_Guard_30
  · exact pe_Guard_34
  · exact pe_Guard_36
  · exact pe_Guard_39
  · exact pe_Guard_43
  · exact pe_Guard_47
  · exact pe_Guard_51
  · exact pe_Guard_55
  · exact pe_Guard_58
  · exact pe_Guard_62
  · exact pe_Guard_65
  · exact pe_Guard_68
  · exact pe_Guard_71
  · exact pe_Guard_75
  · exact pe_Guard_78
  · exact pe_Guard_82
  · exact pe_Guard_85
  · exact pe_Guard_89
  · exact pe_Guard_92
  · exact pe_Guard_95
  · exact pe_Guard_98
  · exact pe_Guard_101
  · exact pe_Guard_104
  · exact pe_Guard_107
  · exact pe_Guard_110
  · exact pe_Guard_114
  · exact pe_Guard_118
  · exact pe_Guard_122
  · exact pe_Guard_125
  · exact pe_Guard_131
  · exact pe_Guard_135
  · exact pe_Guard_138
  · exact pe_Guard_142
  · exact trivial
theorem pe_none (C : String) (idx : Nat) : ax_okE mg_TB mg_T0 C idx (pl_none idx) := trivial
theorem mg_getD {α : Type} {P : α → Prop} {l : List α} {d : α} (h : ∀ x ∈ l, P x) (hd : P d) (i : Nat) : P (l.getD i d) := by
  rw [List.getD_eq_getElem?_getD]
  cases hx : l[i]? with
  | none => exact hd
  | some x => exact h x (List.mem_of_getElem? hx)
