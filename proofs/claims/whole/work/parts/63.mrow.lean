/-! the reference takes a row -/
theorem d109_37 (L : Nat) (xs : Nat → Int32) : decode (ax_code (mgT L xs) 109) 37 = .ok (.aload_n 0, 1) := by
  show decode prog_11_method_11_code 37 = _
  decide +kernel
theorem d109_38 (L : Nat) (xs : Nat → Int32) : decode (ax_code (mgT L xs) 109) 38 = .ok (.getfield 7, 3) := by
  show decode prog_11_method_11_code 38 = _
  decide +kernel
theorem d109_41 (L : Nat) (xs : Nat → Int32) : decode (ax_code (mgT L xs) 109) 41 = .ok (.iload_n 2, 1) := by
  show decode prog_11_method_11_code 41 = _
  decide +kernel
theorem d109_42 (L : Nat) (xs : Nat → Int32) : decode (ax_code (mgT L xs) 109) 42 = .ok (.aload_n 0, 1) := by
  show decode prog_11_method_11_code 42 = _
  decide +kernel
theorem d109_43 (L : Nat) (xs : Nat → Int32) : decode (ax_code (mgT L xs) 109) 43 = .ok (.getfield 86, 3) := by
  show decode prog_11_method_11_code 43 = _
  decide +kernel
theorem d109_46 (L : Nat) (xs : Nat → Int32) : decode (ax_code (mgT L xs) 109) 46 = .ok (.if_icmp .ge 7, 3) := by
  show decode prog_11_method_11_code 46 = _
  decide +kernel
theorem d109_49 (L : Nat) (xs : Nat → Int32) : decode (ax_code (mgT L xs) 109) 49 = .ok (.iload_n 2, 1) := by
  show decode prog_11_method_11_code 49 = _
  decide +kernel
theorem d109_50 (L : Nat) (xs : Nat → Int32) : decode (ax_code (mgT L xs) 109) 50 = .ok (.goto 4, 3) := by
  show decode prog_11_method_11_code 50 = _
  decide +kernel
theorem d109_54 (L : Nat) (xs : Nat → Int32) : decode (ax_code (mgT L xs) 109) 54 = .ok (.iaload, 1) := by
  show decode prog_11_method_11_code 54 = _
  decide +kernel
theorem d109_55 (L : Nat) (xs : Nat → Int32) : decode (ax_code (mgT L xs) 109) 55 = .ok (.bipush 32, 2) := by
  show decode prog_11_method_11_code 55 = _
  decide +kernel
theorem d109_57 (L : Nat) (xs : Nat → Int32) : decode (ax_code (mgT L xs) 109) 57 = .ok (.if_icmp .eq 9, 3) := by
  show decode prog_11_method_11_code 57 = _
  decide +kernel
theorem d109_60 (L : Nat) (xs : Nat → Int32) : decode (ax_code (mgT L xs) 109) 60 = .ok (.iinc 2 1, 3) := by
  show decode prog_11_method_11_code 60 = _
  decide +kernel
theorem d109_63 (L : Nat) (xs : Nat → Int32) : decode (ax_code (mgT L xs) 109) 63 = .ok (.goto (-34), 3) := by
  show decode prog_11_method_11_code 63 = _
  decide +kernel
theorem d109_191 (L : Nat) (xs : Nat → Int32) : decode (ax_code (mgT L xs) 109) 191 = .ok (.aload_n 0, 1) := by
  show decode prog_11_method_11_code 191 = _
  decide +kernel
theorem d109_192 (L : Nat) (xs : Nat → Int32) : decode (ax_code (mgT L xs) 109) 192 = .ok (.getfield 111, 3) := by
  show decode prog_11_method_11_code 192 = _
  decide +kernel
theorem d109_195 (L : Nat) (xs : Nat → Int32) : decode (ax_code (mgT L xs) 109) 195 = .ok (.bipush 16, 2) := by
  show decode prog_11_method_11_code 195 = _
  decide +kernel
theorem d109_197 (L : Nat) (xs : Nat → Int32) : decode (ax_code (mgT L xs) 109) 197 = .ok (.if_icmp .ne 7, 3) := by
  show decode prog_11_method_11_code 197 = _
  decide +kernel
theorem d109_200 (L : Nat) (xs : Nat → Int32) : decode (ax_code (mgT L xs) 109) 200 = .ok (.iconst 2, 1) := by
  show decode prog_11_method_11_code 200 = _
  decide +kernel
theorem d109_201 (L : Nat) (xs : Nat → Int32) : decode (ax_code (mgT L xs) 109) 201 = .ok (.goto 4, 3) := by
  show decode prog_11_method_11_code 201 = _
  decide +kernel
theorem d109_220 (L : Nat) (xs : Nat → Int32) : decode (ax_code (mgT L xs) 109) 220 = .ok (.iload 5, 2) := by
  show decode prog_11_method_11_code 220 = _
  decide +kernel
theorem d109_222 (L : Nat) (xs : Nat → Int32) : decode (ax_code (mgT L xs) 109) 222 = .ok (.aload_n 0, 1) := by
  show decode prog_11_method_11_code 222 = _
  decide +kernel
theorem d109_223 (L : Nat) (xs : Nat → Int32) : decode (ax_code (mgT L xs) 109) 223 = .ok (.getfield 86, 3) := by
  show decode prog_11_method_11_code 223 = _
  decide +kernel
theorem d109_226 (L : Nat) (xs : Nat → Int32) : decode (ax_code (mgT L xs) 109) 226 = .ok (.if_icmp .ge 31, 3) := by
  show decode prog_11_method_11_code 226 = _
  decide +kernel
theorem d109_229 (L : Nat) (xs : Nat → Int32) : decode (ax_code (mgT L xs) 109) 229 = .ok (.aload_n 0, 1) := by
  show decode prog_11_method_11_code 229 = _
  decide +kernel
theorem d109_230 (L : Nat) (xs : Nat → Int32) : decode (ax_code (mgT L xs) 109) 230 = .ok (.getfield 16, 3) := by
  show decode prog_11_method_11_code 230 = _
  decide +kernel
theorem d109_233 (L : Nat) (xs : Nat → Int32) : decode (ax_code (mgT L xs) 109) 233 = .ok (.bipush 100, 2) := by
  show decode prog_11_method_11_code 233 = _
  decide +kernel
theorem d109_235 (L : Nat) (xs : Nat → Int32) : decode (ax_code (mgT L xs) 109) 235 = .ok (.aload_n 0, 1) := by
  show decode prog_11_method_11_code 235 = _
  decide +kernel
theorem d109_236 (L : Nat) (xs : Nat → Int32) : decode (ax_code (mgT L xs) 109) 236 = .ok (.getfield 111, 3) := by
  show decode prog_11_method_11_code 236 = _
  decide +kernel
theorem d109_239 (L : Nat) (xs : Nat → Int32) : decode (ax_code (mgT L xs) 109) 239 = .ok (.imul, 1) := by
  show decode prog_11_method_11_code 239 = _
  decide +kernel
theorem d109_240 (L : Nat) (xs : Nat → Int32) : decode (ax_code (mgT L xs) 109) 240 = .ok (.iload 5, 2) := by
  show decode prog_11_method_11_code 240 = _
  decide +kernel
theorem d109_242 (L : Nat) (xs : Nat → Int32) : decode (ax_code (mgT L xs) 109) 242 = .ok (.iadd, 1) := by
  show decode prog_11_method_11_code 242 = _
  decide +kernel
theorem d109_243 (L : Nat) (xs : Nat → Int32) : decode (ax_code (mgT L xs) 109) 243 = .ok (.aload_n 0, 1) := by
  show decode prog_11_method_11_code 243 = _
  decide +kernel
theorem d109_244 (L : Nat) (xs : Nat → Int32) : decode (ax_code (mgT L xs) 109) 244 = .ok (.getfield 7, 3) := by
  show decode prog_11_method_11_code 244 = _
  decide +kernel
theorem d109_247 (L : Nat) (xs : Nat → Int32) : decode (ax_code (mgT L xs) 109) 247 = .ok (.iload 5, 2) := by
  show decode prog_11_method_11_code 247 = _
  decide +kernel
theorem d109_249 (L : Nat) (xs : Nat → Int32) : decode (ax_code (mgT L xs) 109) 249 = .ok (.iaload, 1) := by
  show decode prog_11_method_11_code 249 = _
  decide +kernel
theorem d109_250 (L : Nat) (xs : Nat → Int32) : decode (ax_code (mgT L xs) 109) 250 = .ok (.iastore, 1) := by
  show decode prog_11_method_11_code 250 = _
  decide +kernel
theorem d109_251 (L : Nat) (xs : Nat → Int32) : decode (ax_code (mgT L xs) 109) 251 = .ok (.iinc 5 1, 3) := by
  show decode prog_11_method_11_code 251 = _
  decide +kernel
theorem d109_254 (L : Nat) (xs : Nat → Int32) : decode (ax_code (mgT L xs) 109) 254 = .ok (.goto (-34), 3) := by
  show decode prog_11_method_11_code 254 = _
  decide +kernel
section MR
variable {L : Nat} {xs : Nat → Int32} {d : Nat} {R : List rowT} {l : List Nat} {Q : Option Value → mg_s → Prop}
theorem md_row_f {kd : Nat} {s : mg_s} (hn : s.1 141 1 = nI l.length) (hm : holdA s 142 0 l) (h100 : l.length ≤ 100) : ∀ (q i : Nat), i + q = l.length → wp L xs d 109 66 [some (.ref 141), some (.int (nI kd)), some (.int (nI (f_find (gl l) 32 i q))), none, none, none] [] s Q → wp L xs d 109 29 [some (.ref 141), some (.int (nI kd)), some (.int (nI i)), none, none, none] [] s Q := by
  have hv : ∀ j, j < l.length → s.2.1 142 j = nI (gl l j) ∧ gl l j < 65536 := fun j hj => ⟨by have := hm.2 j hj; rwa [Nat.zero_add] at this, by have := gl_lt hm.1 j; omega⟩
  intro q
  induction q with
  | zero =>
    intro i hi k
    rw [f_find] at k
    refine wg_iload_n (d109_29 L xs) rfl ?_
    refine wg_aload_n (d109_30 L xs) rfl ?_
    refine wg_get (d109_31 L xs) (kd := 1) (cj := 9) (k0 := 1) rfl (Or.inl rfl) (by decide) rfl rfl ?_
    refine wg_top (y := (nI l.length)) hn ?_
    refine wn_icmp_ge (d109_34 L xs) (x := i) (y := l.length) (by omega) (by omega) (t := 66) (by decide) (fun h1 => ?_) (fun h1 => by omega)
    exact k
  | succ q ih =>
    intro i hi k
    have hg0 := (hv i (by omega)).2
    rw [f_find] at k
    refine wg_iload_n (d109_29 L xs) rfl ?_
    refine wg_aload_n (d109_30 L xs) rfl ?_
    refine wg_get (d109_31 L xs) (kd := 1) (cj := 9) (k0 := 1) rfl (Or.inl rfl) (by decide) rfl rfl ?_
    refine wg_top (y := (nI l.length)) hn ?_
    refine wn_icmp_ge (d109_34 L xs) (x := i) (y := l.length) (by omega) (by omega) (t := 66) (by decide) (fun h1 => by omega) (fun h1 => ?_)
    refine wg_aload_n (d109_37 L xs) rfl ?_
    refine wg_get (d109_38 L xs) (kd := 1) (cj := 9) (k0 := 2) rfl (Or.inl rfl) (by decide) rfl rfl ?_
    refine wg_iload_n (d109_41 L xs) rfl ?_
    refine wg_aload_n (d109_42 L xs) rfl ?_
    refine wg_get (d109_43 L xs) (kd := 1) (cj := 9) (k0 := 1) rfl (Or.inl rfl) (by decide) rfl rfl ?_
    refine wg_top (y := (nI l.length)) hn ?_
    refine wn_icmp_ge (d109_46 L xs) (x := i) (y := l.length) (by omega) (by omega) (t := 53) (by decide) (fun h2 => by omega) (fun h2 => ?_)
    refine wg_iload_n (d109_49 L xs) rfl ?_
    refine wg_goto (d109_50 L xs) (t := 54) (by decide) ?_
    refine wg_iald (d109_54 L xs) (n := 100) (by decide) rfl (vp_in_nI (n := i) (by omega) (by omega)) ?_
    refine wg_top (y := nI (gl l i)) (by rw [nI_nat (by omega)]; exact (hv i (by omega)).1) ?_
    refine wg_bipush (d109_55 L xs) (x := 32) (by decide) ?_
    refine wn_icmp_eq (d109_57 L xs) (x := gl l i) (y := 32) (by omega) (by omega) (t := 66) (by decide) (fun h3 => ?_) (fun h3 => ?_)
    · rw [if_pos (by omega)] at k; exact k
    · refine wg_iinc (d109_60 L xs) (y := (nI (i + 1))) (ls' := [some (.ref 141), some (.int (nI kd)), some (.int (nI (i + 1))), none, none, none]) rfl (nI_add i 1) rfl ?_
      refine wg_goto (d109_63 L xs) (t := 29) (by decide) ?_
      rw [if_neg (by omega)] at k; exact ih (i + 1) (by omega) k
theorem md_row_c {kd e : Nat} {x : Int32} (hR : R.length < 16) (h100 : l.length ≤ 100) : ∀ (q i : Nat) (s : mg_s), i + q = l.length → s.1 141 1 = nI l.length → s.1 141 3 = nI R.length → holdA s 142 0 l → (∀ j, j < i → s.2.1 144 (100 * R.length + j) = nI (gl l j)) → (∀ s', mfr s s' [] [144] → (∀ j, ¬ (100 * R.length ≤ j ∧ j < 100 * R.length + 100) → s'.2.1 144 j = s.2.1 144 j) → holdA s' 144 (100 * R.length) l → wp L xs d 109 257 [some (.ref 141), some (.int (nI kd)), some (.int (nI e)), some (.int 1), some (.int x), some (.int (nI l.length))] [] s' Q) → wp L xs d 109 220 [some (.ref 141), some (.int (nI kd)), some (.int (nI e)), some (.int 1), some (.int x), some (.int (nI i))] [] s Q := by
  intro q
  induction q with
  | zero =>
    intro i s hi hn hr hm hc k
    obtain rfl : i = l.length := by omega
    refine wg_iload (d109_220 L xs) rfl ?_
    refine wg_aload_n (d109_222 L xs) rfl ?_
    refine wg_get (d109_223 L xs) (kd := 1) (cj := 9) (k0 := 1) rfl (Or.inl rfl) (by decide) rfl rfl ?_
    refine wg_top (y := (nI l.length)) hn ?_
    refine wn_icmp_ge (d109_226 L xs) (x := l.length) (y := l.length) (by omega) (by omega) (t := 257) (by decide) (fun h1 => ?_) (fun h1 => by omega)
    exact k s (mfr.rf s [] [144]) (fun _ _ => rfl) ⟨hm.1, hc⟩
  | succ q ih =>
    intro i s hi hn hr hm hc k
    have hv : ∀ j, j < l.length → s.2.1 142 j = nI (gl l j) ∧ gl l j < 65536 := fun j hj => ⟨by have := hm.2 j hj; rwa [Nat.zero_add] at this, by have := gl_lt hm.1 j; omega⟩
    refine wg_iload (d109_220 L xs) rfl ?_
    refine wg_aload_n (d109_222 L xs) rfl ?_
    refine wg_get (d109_223 L xs) (kd := 1) (cj := 9) (k0 := 1) rfl (Or.inl rfl) (by decide) rfl rfl ?_
    refine wg_top (y := (nI l.length)) hn ?_
    refine wn_icmp_ge (d109_226 L xs) (x := i) (y := l.length) (by omega) (by omega) (t := 257) (by decide) (fun h1 => by omega) (fun h1 => ?_)
    refine wg_aload_n (d109_229 L xs) rfl ?_
    refine wg_get (d109_230 L xs) (kd := 1) (cj := 9) (k0 := 5) rfl (Or.inl rfl) (by decide) rfl rfl ?_
    refine wg_bipush (d109_233 L xs) (x := 100) (by decide) ?_
    refine wg_aload_n (d109_235 L xs) rfl ?_
    refine wg_get (d109_236 L xs) (kd := 1) (cj := 9) (k0 := 3) rfl (Or.inl rfl) (by decide) rfl rfl ?_
    refine wg_top (y := (nI R.length)) hr ?_
    refine wg_imul (d109_239 L xs) ?_
    refine wg_top (y := (nI (100 * R.length))) (pk_mul 100 R.length) ?_
    refine wg_iload (d109_240 L xs) rfl ?_
    refine wg_iadd (d109_242 L xs) ?_
    refine wg_top (y := (nI ((100 * R.length) + i))) (nI_add (100 * R.length) i) ?_
    refine wg_aload_n (d109_243 L xs) rfl ?_
    refine wg_get (d109_244 L xs) (kd := 1) (cj := 9) (k0 := 2) rfl (Or.inl rfl) (by decide) rfl rfl ?_
    refine wg_iload (d109_247 L xs) rfl ?_
    refine wg_iald (d109_249 L xs) (n := 100) (by decide) rfl (vp_in_nI (n := i) (by omega) (by omega)) ?_
    refine wg_top (y := nI (gl l i)) (by rw [nI_nat (by omega)]; exact (hv i (by omega)).1) ?_
    refine wg_iast (d109_250 L xs) (n := 1600) (by decide) rfl (vp_in_nI (n := (100 * R.length) + i) (by omega) (by omega)) (ar_dA isA_all.2.2.1) ?_
    rw [nI_nat (n := (100 * R.length) + i) (by omega)]
    refine wg_iinc (d109_251 L xs) (y := (nI (i + 1))) (ls' := [some (.ref 141), some (.int (nI kd)), some (.int (nI e)), some (.int 1), some (.int x), some (.int (nI (i + 1)))]) rfl (nI_add i 1) rfl ?_
    refine wg_goto (d109_254 L xs) (t := 220) (by decide) ?_
    refine ih (i + 1) _ (by omega) hn hr (holdA_of hm (mg_A_oth (by decide))) (fun j hj => ?_) (fun s' h1 h2 h3 => k s' ((mfr_A s (by decide)).trans h1) (fun j hj => ?_) h3)
    · rw [mg_A_own]
      unfold upd
      by_cases e : j = i
      · rw [if_pos (by omega), e]
      · rw [if_neg (by omega)]; exact hc j (by omega)
    · rw [h2 j hj, mg_A_own]
      unfold upd
      rw [if_neg (by omega)]
theorem md_row_0 {s : mg_s} {kd e : Nat} {x : Int32} : wp L xs d 109 182 [some (.ref 141), some (.int (nI kd)), some (.int (nI e)), some (.int 0), some (.int x), none] [] s (fun v s' => v = some (.int 0) ∧ mg_I s 141 0 1 = s') := by
  refine wg_aload_n (d109_182 L xs) rfl ?_
  refine wg_iload_n (d109_183 L xs) rfl ?_
  refine wg_if_ne (d109_184 L xs) (t := 191) (by decide) (fun hp => absurd hp (by decide)) (fun _ => ?_)
  refine wg_iconst (d109_187 L xs) (x := 1) (by decide) ?_
  refine wg_goto (d109_188 L xs) (t := 205) (by decide) ?_
  refine wg_puti (d109_205 L xs) (cj := 9) (k0 := 0) rfl (by decide) rfl (Nat.le_of_ble_eq_true rfl) rfl rfl rfl ?_
  refine wg_aload_n (d109_208 L xs) rfl ?_
  refine wg_get (d109_209 L xs) (kd := 1) (cj := 9) (k0 := 0) rfl (Or.inl rfl) (by decide) rfl rfl ?_
  refine wg_top (y := 1) rfl ?_
  refine wg_if_le (d109_212 L xs) (t := 217) (by decide) (fun hp => absurd hp (by decide)) (fun _ => ?_)
  refine wg_iconst (d109_215 L xs) (x := 0) (by decide) ?_
  exact wg_iret (d109_216 L xs) rfl rfl ⟨rfl, rfl⟩
theorem md_row_2 {s : mg_s} {kd e : Nat} {x : Int32} (hr : s.1 141 3 = nI R.length) (hR : R.length = 16) : wp L xs d 109 182 [some (.ref 141), some (.int (nI kd)), some (.int (nI e)), some (.int 1), some (.int x), none] [] s (fun v s' => v = some (.int 0) ∧ mg_I s 141 0 2 = s') := by
  refine wg_aload_n (d109_182 L xs) rfl ?_
  refine wg_iload_n (d109_183 L xs) rfl ?_
  refine wg_if_ne (d109_184 L xs) (t := 191) (by decide) (fun _ => ?_) (fun hn => absurd (by decide) hn)
  refine wg_aload_n (d109_191 L xs) rfl ?_
  refine wg_get (d109_192 L xs) (kd := 1) (cj := 9) (k0 := 3) rfl (Or.inl rfl) (by decide) rfl rfl ?_
  refine wg_top (y := (nI R.length)) hr ?_
  refine wg_bipush (d109_195 L xs) (x := 16) (by decide) ?_
  refine wn_icmp_ne (d109_197 L xs) (x := R.length) (y := 16) (by omega) (by omega) (t := 204) (by decide) (fun h2 => by omega) (fun h2 => ?_)
  refine wg_iconst (d109_200 L xs) (x := 2) (by decide) ?_
  refine wg_goto (d109_201 L xs) (t := 205) (by decide) ?_
  refine wg_puti (d109_205 L xs) (cj := 9) (k0 := 0) rfl (by decide) rfl (Nat.le_of_ble_eq_true rfl) rfl rfl rfl ?_
  refine wg_aload_n (d109_208 L xs) rfl ?_
  refine wg_get (d109_209 L xs) (kd := 1) (cj := 9) (k0 := 0) rfl (Or.inl rfl) (by decide) rfl rfl ?_
  refine wg_top (y := 2) rfl ?_
  refine wg_if_le (d109_212 L xs) (t := 217) (by decide) (fun hp => absurd hp (by decide)) (fun _ => ?_)
  refine wg_iconst (d109_215 L xs) (x := 0) (by decide) ?_
  exact wg_iret (d109_216 L xs) rfl rfl ⟨rfl, rfl⟩
end MR
