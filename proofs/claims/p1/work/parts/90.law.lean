theorem mg_law (L : Nat) (hL : L ≤ 3) (xs : Nat → Int32) : ∃ (d n : Nat) (h1 : ax_H), d ≤ 1000 ∧ ax_loop (mgT L xs) (ax_call (mgT L xs) d n) 0 n 0 (ax_entry (mgT L xs) 0 [.ref ax_big]) [] mg_h0 = some (.inl (some (.int 1)), h1) ∧ h1.2.1 ≤ 600002 ∧ h1.2.2.1 ≤ 7302232 := by
  obtain ⟨d, n, h1, hd, hr, hc, hs⟩ := mg_law3 L hL xs
  exact ⟨d, n, h1, hd, hr, by omega, by omega⟩
