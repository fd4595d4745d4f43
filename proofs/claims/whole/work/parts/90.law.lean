/-! the law holds from the start on -/
theorem lw_start {s : mg_s} (h : mg_v0 s = true) : RA s (fun k => 7 + 5 * k) [] [] [] none := by
  unfold mg_v0 at h
  simp only [Bool.and_eq_true, decide_eq_true_eq, List.all_eq_true] at h
  obtain ⟨a1, a2, a3, a4, a5, a6, a7⟩ := h
  have hR : ∀ k, k < 16 → isR (7 + 5 * k) := by
    intro k hk
    have : ∀ k, k < 16 → (7 + 5 * k < 167 ∧ (mg_sh.getD (7 + 5 * k) (0, 0)).1 = 2) := by decide +kernel
    exact this k hk
  have ho : okc [] := fun x hx => by cases hx
  refine ⟨⟨⟨⟨a1, Nat.zero_le _⟩, ho, fun i hi => absurd hi (by show ¬ i < 0; omega)⟩, ⟨a2, Nat.zero_le _, fun k hk => ⟨a6 k (List.mem_range.mpr hk), hR k hk⟩, fun j k hj hk e => by change 7 + 5 * j = 7 + 5 * k at e; omega, fun k q hq => (by cases hq)⟩, ⟨⟨a3, Nat.zero_le _⟩, ho, fun i hi => absurd hi (by show ¬ i < 0; omega)⟩, fun k hk => a7 k (List.mem_range.mpr hk), a4⟩, ⟨a5 1 (by decide), ⟨ho, fun i hi => absurd hi (by show ¬ i < 0; omega)⟩, ⟨a5 3 (by decide), Nat.zero_le _, fun k q hq => (by cases hq)⟩, ⟨fun _ => a5 14 (by decide), fun q => absurd rfl q⟩, a5 34 (by decide)⟩, Nat.zero_le _, fun x hx => (by cases hx), fun k hk => (by cases hk)⟩
theorem mg_law (L : Nat) (hL : L ≤ 1536) (xs : Nat → Int32) : ∃ (d n : Nat) (h1 : ax_H), d ≤ 1000 ∧ ax_loop (mgT L xs) (ax_call (mgT L xs) d n) 0 n 0 (ax_entry (mgT L xs) 0 [.ref ax_big]) [] mg_h0 = some (.inl (some (.int 1)), h1) ∧ h1.2.1 ≤ 601024 ∧ h1.2.2.1 ≤ 7293034 := by
  obtain ⟨hC, s, S, e1, e2, v0, go⟩ := mg_begin
  have hA := lw_start v0
  have hb : hC.2.1 + 512 < ax_big := by rw [e1]; decide
  obtain ⟨v, s', h', g, S', c1, c2, q⟩ := lw_loop (xs := xs) (d := 0) hL 512 0 s _ [] [] [] none none none (by omega) (by omega) hA hC S hb
  have q' : v = some (.int 1) := q
  subst q'
  obtain ⟨n, hn⟩ := go L xs 66 _ (by omega) g
  exact ⟨66, n, h', by omega, hn n (Nat.le_refl _) n (Nat.le_refl _), by omega, by omega⟩
