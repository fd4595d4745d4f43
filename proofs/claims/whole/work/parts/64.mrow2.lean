/-! the reference takes a row: the end -/
theorem d109_204 (L : Nat) (xs : Nat → Int32) : decode (ax_code (mgT L xs) 109) 204 = .ok (.iconst 0, 1) := by
  show decode prog_11_method_11_code 204 = _
  decide +kernel
theorem d109_217 (L : Nat) (xs : Nat → Int32) : decode (ax_code (mgT L xs) 109) 217 = .ok (.iconst 0, 1) := by
  show decode prog_11_method_11_code 217 = _
  decide +kernel
theorem d109_218 (L : Nat) (xs : Nat → Int32) : decode (ax_code (mgT L xs) 109) 218 = .ok (.istore 5, 2) := by
  show decode prog_11_method_11_code 218 = _
  decide +kernel
theorem d109_257 (L : Nat) (xs : Nat → Int32) : decode (ax_code (mgT L xs) 109) 257 = .ok (.aload_n 0, 1) := by
  show decode prog_11_method_11_code 257 = _
  decide +kernel
theorem d109_258 (L : Nat) (xs : Nat → Int32) : decode (ax_code (mgT L xs) 109) 258 = .ok (.getfield 13, 3) := by
  show decode prog_11_method_11_code 258 = _
  decide +kernel
theorem d109_261 (L : Nat) (xs : Nat → Int32) : decode (ax_code (mgT L xs) 109) 261 = .ok (.aload_n 0, 1) := by
  show decode prog_11_method_11_code 261 = _
  decide +kernel
theorem d109_262 (L : Nat) (xs : Nat → Int32) : decode (ax_code (mgT L xs) 109) 262 = .ok (.getfield 111, 3) := by
  show decode prog_11_method_11_code 262 = _
  decide +kernel
theorem d109_265 (L : Nat) (xs : Nat → Int32) : decode (ax_code (mgT L xs) 109) 265 = .ok (.iload_n 1, 1) := by
  show decode prog_11_method_11_code 265 = _
  decide +kernel
theorem d109_266 (L : Nat) (xs : Nat → Int32) : decode (ax_code (mgT L xs) 109) 266 = .ok (.iastore, 1) := by
  show decode prog_11_method_11_code 266 = _
  decide +kernel
theorem d109_267 (L : Nat) (xs : Nat → Int32) : decode (ax_code (mgT L xs) 109) 267 = .ok (.aload_n 0, 1) := by
  show decode prog_11_method_11_code 267 = _
  decide +kernel
theorem d109_268 (L : Nat) (xs : Nat → Int32) : decode (ax_code (mgT L xs) 109) 268 = .ok (.getfield 19, 3) := by
  show decode prog_11_method_11_code 268 = _
  decide +kernel
theorem d109_271 (L : Nat) (xs : Nat → Int32) : decode (ax_code (mgT L xs) 109) 271 = .ok (.aload_n 0, 1) := by
  show decode prog_11_method_11_code 271 = _
  decide +kernel
theorem d109_272 (L : Nat) (xs : Nat → Int32) : decode (ax_code (mgT L xs) 109) 272 = .ok (.getfield 111, 3) := by
  show decode prog_11_method_11_code 272 = _
  decide +kernel
theorem d109_275 (L : Nat) (xs : Nat → Int32) : decode (ax_code (mgT L xs) 109) 275 = .ok (.aload_n 0, 1) := by
  show decode prog_11_method_11_code 275 = _
  decide +kernel
theorem d109_276 (L : Nat) (xs : Nat → Int32) : decode (ax_code (mgT L xs) 109) 276 = .ok (.getfield 86, 3) := by
  show decode prog_11_method_11_code 276 = _
  decide +kernel
theorem d109_279 (L : Nat) (xs : Nat → Int32) : decode (ax_code (mgT L xs) 109) 279 = .ok (.iastore, 1) := by
  show decode prog_11_method_11_code 279 = _
  decide +kernel
theorem d109_280 (L : Nat) (xs : Nat → Int32) : decode (ax_code (mgT L xs) 109) 280 = .ok (.aload_n 0, 1) := by
  show decode prog_11_method_11_code 280 = _
  decide +kernel
theorem d109_281 (L : Nat) (xs : Nat → Int32) : decode (ax_code (mgT L xs) 109) 281 = .ok (.getfield 22, 3) := by
  show decode prog_11_method_11_code 281 = _
  decide +kernel
theorem d109_284 (L : Nat) (xs : Nat → Int32) : decode (ax_code (mgT L xs) 109) 284 = .ok (.aload_n 0, 1) := by
  show decode prog_11_method_11_code 284 = _
  decide +kernel
theorem d109_285 (L : Nat) (xs : Nat → Int32) : decode (ax_code (mgT L xs) 109) 285 = .ok (.getfield 111, 3) := by
  show decode prog_11_method_11_code 285 = _
  decide +kernel
theorem d109_288 (L : Nat) (xs : Nat → Int32) : decode (ax_code (mgT L xs) 109) 288 = .ok (.iload_n 2, 1) := by
  show decode prog_11_method_11_code 288 = _
  decide +kernel
theorem d109_289 (L : Nat) (xs : Nat → Int32) : decode (ax_code (mgT L xs) 109) 289 = .ok (.iastore, 1) := by
  show decode prog_11_method_11_code 289 = _
  decide +kernel
theorem d109_290 (L : Nat) (xs : Nat → Int32) : decode (ax_code (mgT L xs) 109) 290 = .ok (.aload_n 0, 1) := by
  show decode prog_11_method_11_code 290 = _
  decide +kernel
theorem d109_291 (L : Nat) (xs : Nat → Int32) : decode (ax_code (mgT L xs) 109) 291 = .ok (.getfield 25, 3) := by
  show decode prog_11_method_11_code 291 = _
  decide +kernel
theorem d109_294 (L : Nat) (xs : Nat → Int32) : decode (ax_code (mgT L xs) 109) 294 = .ok (.aload_n 0, 1) := by
  show decode prog_11_method_11_code 294 = _
  decide +kernel
theorem d109_295 (L : Nat) (xs : Nat → Int32) : decode (ax_code (mgT L xs) 109) 295 = .ok (.getfield 111, 3) := by
  show decode prog_11_method_11_code 295 = _
  decide +kernel
theorem d109_298 (L : Nat) (xs : Nat → Int32) : decode (ax_code (mgT L xs) 109) 298 = .ok (.iload 4, 2) := by
  show decode prog_11_method_11_code 298 = _
  decide +kernel
theorem d109_300 (L : Nat) (xs : Nat → Int32) : decode (ax_code (mgT L xs) 109) 300 = .ok (.iastore, 1) := by
  show decode prog_11_method_11_code 300 = _
  decide +kernel
theorem d109_301 (L : Nat) (xs : Nat → Int32) : decode (ax_code (mgT L xs) 109) 301 = .ok (.aload_n 0, 1) := by
  show decode prog_11_method_11_code 301 = _
  decide +kernel
theorem d109_302 (L : Nat) (xs : Nat → Int32) : decode (ax_code (mgT L xs) 109) 302 = .ok (.dup, 1) := by
  show decode prog_11_method_11_code 302 = _
  decide +kernel
theorem d109_303 (L : Nat) (xs : Nat → Int32) : decode (ax_code (mgT L xs) 109) 303 = .ok (.getfield 111, 3) := by
  show decode prog_11_method_11_code 303 = _
  decide +kernel
theorem d109_306 (L : Nat) (xs : Nat → Int32) : decode (ax_code (mgT L xs) 109) 306 = .ok (.iconst 1, 1) := by
  show decode prog_11_method_11_code 306 = _
  decide +kernel
theorem d109_307 (L : Nat) (xs : Nat → Int32) : decode (ax_code (mgT L xs) 109) 307 = .ok (.iadd, 1) := by
  show decode prog_11_method_11_code 307 = _
  decide +kernel
theorem d109_308 (L : Nat) (xs : Nat → Int32) : decode (ax_code (mgT L xs) 109) 308 = .ok (.putfield 111, 3) := by
  show decode prog_11_method_11_code 308 = _
  decide +kernel
theorem d109_311 (L : Nat) (xs : Nat → Int32) : decode (ax_code (mgT L xs) 109) 311 = .ok (.aload_n 0, 1) := by
  show decode prog_11_method_11_code 311 = _
  decide +kernel
theorem d109_312 (L : Nat) (xs : Nat → Int32) : decode (ax_code (mgT L xs) 109) 312 = .ok (.iconst 0, 1) := by
  show decode prog_11_method_11_code 312 = _
  decide +kernel
theorem d109_313 (L : Nat) (xs : Nat → Int32) : decode (ax_code (mgT L xs) 109) 313 = .ok (.putfield 86, 3) := by
  show decode prog_11_method_11_code 313 = _
  decide +kernel
theorem d109_316 (L : Nat) (xs : Nat → Int32) : decode (ax_code (mgT L xs) 109) 316 = .ok (.aload_n 0, 1) := by
  show decode prog_11_method_11_code 316 = _
  decide +kernel
theorem d109_317 (L : Nat) (xs : Nat → Int32) : decode (ax_code (mgT L xs) 109) 317 = .ok (.getfield 111, 3) := by
  show decode prog_11_method_11_code 317 = _
  decide +kernel
theorem d109_320 (L : Nat) (xs : Nat → Int32) : decode (ax_code (mgT L xs) 109) 320 = .ok (.ireturn, 1) := by
  show decode prog_11_method_11_code 320 = _
  decide +kernel
def m_new (s : mg_s) (n kd len e : Nat) (x : Int32) : mg_s := mg_I (mg_I (mg_A (mg_A (mg_A (mg_A s 143 n (nI kd)) 145 n (nI len)) 146 n (nI e)) 147 n x) 141 3 (nI (n + 1))) 141 1 0
theorem m_new_143 (s : mg_s) (n kd len e : Nat) (x : Int32) : (m_new s n kd len e x).2.1 143 = upd (s.2.1 143) n (nI kd) := rfl
theorem m_new_144 (s : mg_s) (n kd len e : Nat) (x : Int32) : (m_new s n kd len e x).2.1 144 = s.2.1 144 := rfl
theorem m_new_145 (s : mg_s) (n kd len e : Nat) (x : Int32) : (m_new s n kd len e x).2.1 145 = upd (s.2.1 145) n (nI len) := rfl
theorem m_new_146 (s : mg_s) (n kd len e : Nat) (x : Int32) : (m_new s n kd len e x).2.1 146 = upd (s.2.1 146) n (nI e) := rfl
theorem m_new_147 (s : mg_s) (n kd len e : Nat) (x : Int32) : (m_new s n kd len e x).2.1 147 = upd (s.2.1 147) n x := rfl
theorem m_new_3 (s : mg_s) (n kd len e : Nat) (x : Int32) : (m_new s n kd len e x).1 141 3 = nI (n + 1) := rfl
theorem upd_at (f : Nat → Int32) (n : Nat) (x : Int32) : upd f n x n = x := if_pos rfl
theorem upd_ne (f : Nat → Int32) {n k : Nat} (x : Int32) (h : ¬ k = n) : upd f n x k = f k := if_neg h
theorem m_new_fr (s : mg_s) (n kd len e : Nat) (x : Int32) : mfr s (m_new s n kd len e x) [1, 3] [143, 145, 146, 147] :=
  ((((mfr_A s (by decide)).trans (mfr_A _ (by decide))).trans (mfr_A _ (by decide))).trans (mfr_A _ (by decide))).trans ((mfr_I _ (by decide)).trans (mfr_I _ (by decide)))
theorem md_new {s s1 : mg_s} {R : List rowT} {l : List Nat} {q : rowT} {kd e : Nat} {x : Int32} (T : isTabM s R) (hR : R.length < 16) (f : mfr s s1 [0, 9] [144]) (hk : ∀ j, ¬ (100 * R.length ≤ j ∧ j < 100 * R.length + 100) → s1.2.1 144 j = s.2.1 144 j) (hl : holdA s1 144 (100 * R.length) l) (hq : okrow q) (hq1 : q.1 = kd) (hq2 : q.2.1 = seg l 0 e) (hq3 : q.2.2.1 = seg l (e + 1) l.length) (hq4 : q.2.2.2 = x) (hsz : rowsz q = l.length) (he : e ≤ l.length) : isTabM (m_new s1 R.length kd l.length e x) (R ++ [q]) := by
  have hq2l : q.2.1.length = e := by rw [hq2, seg_len]; omega
  refine ⟨by rw [m_new_3, List.length_append]; rfl, by rw [List.length_append, List.length_singleton]; omega, fun k q' hk' => ?_⟩
  by_cases ek : k < R.length
  · rw [List.getElem?_append_left ek] at hk'
    obtain ⟨⟨a1, a2, a3, a4, a5, a6⟩, ok⟩ := T.2.2 k q' hk'
    have hrs := ok.2.2.2.2.2.1
    have hsz' : q'.2.1.length ≤ 100 ∧ (q'.2.2.1.length = 0 ∨ q'.2.1.length + 1 + q'.2.2.1.length ≤ 100) := by
      unfold rowsz at hrs
      by_cases e2 : q'.1 ≤ 2
      · rw [if_pos e2] at hrs; omega
      · rw [if_neg e2] at hrs
        refine ⟨hrs, Or.inl ?_⟩
        rw [ok.2.2.2.1 (by omega)]; rfl
    refine ⟨⟨?_, ?_, ?_, ?_, ⟨a5.1, fun i hi => ?_⟩, ⟨a6.1, fun i hi => ?_⟩⟩, ok⟩
    · rw [m_new_143, upd_ne _ _ (by omega), f.2.2.1 143 (by decide)]; exact a1
    · rw [m_new_146, upd_ne _ _ (by omega), f.2.2.1 146 (by decide)]; exact a2
    · rw [m_new_145, upd_ne _ _ (by omega), f.2.2.1 145 (by decide)]; exact a3
    · rw [m_new_147, upd_ne _ _ (by omega), f.2.2.1 147 (by decide)]; exact a4
    · rw [m_new_144, hk _ (by omega)]; exact a5.2 i hi
    · rw [m_new_144, hk _ (by omega)]; exact a6.2 i hi
  · have hk2 : k < (R ++ [q]).length := (List.getElem?_eq_some_iff.mp hk').1
    rw [List.length_append, List.length_singleton] at hk2
    obtain rfl : k = R.length := by omega
    rw [List.getElem?_append_right (Nat.le_refl _), Nat.sub_self] at hk'
    cases hk'
    refine ⟨⟨by rw [m_new_143, upd_at, hq1], by rw [m_new_146, upd_at, hq2l], by rw [m_new_145, upd_at, hsz], by rw [m_new_147, upd_at, hq4], ⟨?_, fun i hi => ?_⟩, ⟨?_, fun i hi => ?_⟩⟩, hq⟩
    · rw [hq2]; exact okc_sub hl.1 (fun x hx => List.mem_of_mem_take (List.mem_of_mem_drop hx))
    · rw [m_new_144, hl.2 i (by omega), hq2, seg_gl (by rw [← hq2]; exact hi), Nat.zero_add]
    · rw [hq3]; exact okc_sub hl.1 (fun x hx => List.mem_of_mem_take (List.mem_of_mem_drop hx))
    · have hi2 := hi
      rw [hq3, seg_len] at hi2
      rw [m_new_144, hq2l, show 100 * R.length + (e + 1) + i = 100 * R.length + (e + 1 + i) by omega, hl.2 (e + 1 + i) (by omega), hq3, seg_gl (by rw [← hq3]; exact hi)]
section MR2
variable {L : Nat} {xs : Nat → Int32} {d : Nat} {R : List rowT} {l : List Nat}
theorem md_row_1 {s : mg_s} {kd e : Nat} {x : Int32} (T : isTabM s R) (hR : R.length < 16) (hn : s.1 141 1 = nI l.length) (hm : holdA s 142 0 l) (h100 : l.length ≤ 100) (he : e ≤ l.length) : wp L xs d 109 182 [some (.ref 141), some (.int (nI kd)), some (.int (nI e)), some (.int 1), some (.int x), none] [] s (fun v s' => v = some (.int (nI (R.length + 1))) ∧ ∃ s1, s1.1 141 0 = 0 ∧ mfr s s1 [0, 9] [144] ∧ m_new s1 R.length kd l.length e x = s' ∧ ∀ q : rowT, okrow q → q.1 = kd → q.2.1 = seg l 0 e → q.2.2.1 = seg l (e + 1) l.length → q.2.2.2 = x → rowsz q = l.length → isTabM (m_new s1 R.length kd l.length e x) (R ++ [q])) := by
  refine wg_aload_n (d109_182 L xs) rfl ?_
  refine wg_iload_n (d109_183 L xs) rfl ?_
  refine wg_if_ne (d109_184 L xs) (t := 191) (by decide) (fun _ => ?_) (fun hn => absurd (by decide) hn)
  refine wg_aload_n (d109_191 L xs) rfl ?_
  refine wg_get (d109_192 L xs) (kd := 1) (cj := 9) (k0 := 3) rfl (Or.inl rfl) (by decide) rfl rfl ?_
  refine wg_top (y := (nI R.length)) T.1 ?_
  refine wg_bipush (d109_195 L xs) (x := 16) (by decide) ?_
  refine wn_icmp_ne (d109_197 L xs) (x := R.length) (y := 16) (by omega) (by omega) (t := 204) (by decide) (fun h2 => ?_) (fun h2 => by omega)
  refine wg_iconst (d109_204 L xs) (x := 0) (by decide) ?_
  refine wg_puti (d109_205 L xs) (cj := 9) (k0 := 0) rfl (by decide) rfl (Nat.le_of_ble_eq_true rfl) rfl rfl rfl ?_
  refine wg_aload_n (d109_208 L xs) rfl ?_
  refine wg_get (d109_209 L xs) (kd := 1) (cj := 9) (k0 := 0) rfl (Or.inl rfl) (by decide) rfl rfl ?_
  refine wg_top (y := 0) rfl ?_
  refine wg_if_le (d109_212 L xs) (t := 217) (by decide) (fun _ => ?_) (fun hn => absurd (by decide) hn)
  refine wg_iconst (d109_217 L xs) (x := 0) (by decide) ?_
  refine wg_istore (d109_218 L xs) (ls' := [some (.ref 141), some (.int (nI kd)), some (.int (nI e)), some (.int 1), some (.int x), some (.int 0)]) (Nat.le_of_ble_eq_true rfl) rfl ?_
  refine md_row_c (l := l) hR h100 l.length 0 _ (by omega) hn T.1 (holdA_of hm rfl) (fun j hj => absurd hj (Nat.not_lt_zero j)) (fun s1 g1 g2 g3 => ?_)
  have f0 : mfr s (mg_I s 141 0 0) [0, 9] [144] := mfr_I s (by decide)
  have f1 : mfr s s1 [0, 9] [144] := f0.trans (g1.more (by decide) (by decide))
  have hn1 : s1.1 141 1 = nI l.length := (f1.2.1 1 (by decide)).trans hn
  have hr1 : s1.1 141 3 = nI R.length := (f1.2.1 3 (by decide)).trans T.1
  refine wg_aload_n (d109_257 L xs) rfl ?_
  refine wg_get (d109_258 L xs) (kd := 1) (cj := 9) (k0 := 4) rfl (Or.inl rfl) (by decide) rfl rfl ?_
  refine wg_aload_n (d109_261 L xs) rfl ?_
  refine wg_get (d109_262 L xs) (kd := 1) (cj := 9) (k0 := 3) rfl (Or.inl rfl) (by decide) rfl rfl ?_
  refine wg_top (y := (nI R.length)) hr1 ?_
  refine wg_iload_n (d109_265 L xs) rfl ?_
  refine wg_iast (d109_266 L xs) (n := 16) (by decide) rfl (vp_in_nI (n := R.length) (by omega) (by omega)) (ar_dA isA_all.2.1) ?_
  rw [nI_nat (n := R.length) (by omega)]
  refine wg_aload_n (d109_267 L xs) rfl ?_
  refine wg_get (d109_268 L xs) (kd := 1) (cj := 9) (k0 := 6) rfl (Or.inl rfl) (by decide) rfl rfl ?_
  refine wg_aload_n (d109_271 L xs) rfl ?_
  refine wg_get (d109_272 L xs) (kd := 1) (cj := 9) (k0 := 3) rfl (Or.inl rfl) (by decide) rfl rfl ?_
  refine wg_top (y := (nI R.length)) hr1 ?_
  refine wg_aload_n (d109_275 L xs) rfl ?_
  refine wg_get (d109_276 L xs) (kd := 1) (cj := 9) (k0 := 1) rfl (Or.inl rfl) (by decide) rfl rfl ?_
  refine wg_top (y := (nI l.length)) hn1 ?_
  refine wg_iast (d109_279 L xs) (n := 16) (by decide) rfl (vp_in_nI (n := R.length) (by omega) (by omega)) (ar_dA isA_all.2.2.2.1) ?_
  rw [nI_nat (n := R.length) (by omega)]
  refine wg_aload_n (d109_280 L xs) rfl ?_
  refine wg_get (d109_281 L xs) (kd := 1) (cj := 9) (k0 := 7) rfl (Or.inl rfl) (by decide) rfl rfl ?_
  refine wg_aload_n (d109_284 L xs) rfl ?_
  refine wg_get (d109_285 L xs) (kd := 1) (cj := 9) (k0 := 3) rfl (Or.inl rfl) (by decide) rfl rfl ?_
  refine wg_top (y := (nI R.length)) hr1 ?_
  refine wg_iload_n (d109_288 L xs) rfl ?_
  refine wg_iast (d109_289 L xs) (n := 16) (by decide) rfl (vp_in_nI (n := R.length) (by omega) (by omega)) (ar_dA isA_all.2.2.2.2.1) ?_
  rw [nI_nat (n := R.length) (by omega)]
  refine wg_aload_n (d109_290 L xs) rfl ?_
  refine wg_get (d109_291 L xs) (kd := 1) (cj := 9) (k0 := 8) rfl (Or.inl rfl) (by decide) rfl rfl ?_
  refine wg_aload_n (d109_294 L xs) rfl ?_
  refine wg_get (d109_295 L xs) (kd := 1) (cj := 9) (k0 := 3) rfl (Or.inl rfl) (by decide) rfl rfl ?_
  refine wg_top (y := (nI R.length)) hr1 ?_
  refine wg_iload (d109_298 L xs) rfl ?_
  refine wg_iast (d109_300 L xs) (n := 16) (by decide) rfl (vp_in_nI (n := R.length) (by omega) (by omega)) (ar_dA isA_all.2.2.2.2.2.1) ?_
  rw [nI_nat (n := R.length) (by omega)]
  refine wg_aload_n (d109_301 L xs) rfl ?_
  refine wg_dup (d109_302 L xs) rfl ?_
  refine wg_get (d109_303 L xs) (kd := 1) (cj := 9) (k0 := 3) rfl (Or.inl rfl) (by decide) rfl rfl ?_
  refine wg_top (y := (nI R.length)) hr1 ?_
  refine wg_iconst (d109_306 L xs) (x := 1) (by decide) ?_
  refine wg_iadd (d109_307 L xs) ?_
  refine wg_top (y := (nI (R.length + 1))) (nI_add R.length 1) ?_
  refine wg_puti (d109_308 L xs) (cj := 9) (k0 := 3) rfl (by decide) rfl (Nat.le_of_ble_eq_true rfl) rfl rfl rfl ?_
  refine wg_aload_n (d109_311 L xs) rfl ?_
  refine wg_iconst (d109_312 L xs) (x := 0) (by decide) ?_
  refine wg_puti (d109_313 L xs) (cj := 9) (k0 := 1) rfl (by decide) rfl (Nat.le_of_ble_eq_true rfl) rfl rfl rfl ?_
  refine wg_aload_n (d109_316 L xs) rfl ?_
  refine wg_get (d109_317 L xs) (kd := 1) (cj := 9) (k0 := 3) rfl (Or.inl rfl) (by decide) rfl rfl ?_
  refine wg_top (y := (nI (R.length + 1))) rfl ?_
  exact wg_iret (d109_320 L xs) rfl rfl ⟨rfl, s1, (g1.2.1 0 (by decide)).trans rfl, f1, rfl, fun q hq h1 h2 h3 h4 h5 => md_new T hR f1 g2 g3 hq h1 h2 h3 h4 h5 he⟩
end MR2
