/-! what a check does, as a function of the table's rows -/
/-- lookups, voids, matched, checks, the name asked for last -/
abbrev ckS : Type := Nat × Nat × Int32 × Nat × List Nat
/-- the rows, the address, the address written out, the first domain -/
abbrev ckE : Type := List rowT × Int32 × List Nat × List Nat
def st_ask (σ : ckS) (nm : List Nat) (v : Nat) : ckS := (σ.1, v, σ.2.2.1, σ.2.2.2.1, nm)
def st_lk (σ : ckS) : ckS := (σ.1 + 1, σ.2)
def st_mt (σ : ckS) (dep n : Nat) : ckS := (σ.1, σ.2.1, if dep = 0 then nI n else σ.2.2.1, σ.2.2.2)
def st_ck (σ : ckS) : ckS := (σ.1, σ.2.1, σ.2.2.1, σ.2.2.2.1 + 1, σ.2.2.2.2)
def x_w (E : ckE) (D dom : List Nat) (fr to : Nat) : List Nat := (f_exp (gl D) to dom E.2.2.1 E.2.2.2 (to - fr) fr).take 49
def x_nm (E : ckE) (D dom : List Nat) (t : tmT) : List Nat := if t.2.2.1 < t.2.2.2.1 then x_w E D dom t.2.2.1 t.2.2.2.1 else dom
def v_inc (k : Nat) : Nat := if k = 5 ∨ k = 6 then k else if k = 2 then 1 else 0
def x_mc (E : ckE) (k bits : Nat) (nm : List Nat) (σ : ckS) : Nat × ckS :=
  if k = 2 then ((x_host E.1 E.2.1 nm bits σ.2.1).1, st_ask σ nm (x_host E.1 E.2.1 nm bits σ.2.1).2)
  else if k = 3 then ((x_mail E.1 E.2.1 nm bits σ.2.1).1, st_ask σ (x_mail E.1 E.2.1 nm bits σ.2.1).2.2 (x_mail E.1 E.2.1 nm bits σ.2.1).2.1)
  else ((v_cnt (f_ask nm 0 E.1 0) σ.2.1).1, st_ask σ nm (v_cnt (f_ask nm 0 E.1 0) σ.2.1).2)
def x_mb (E : ckE) (inn : List Nat → ckS → Nat × ckS) (t : tmT) (nm : List Nat) (σ : ckS) : Nat × ckS :=
  if t.1 = 1 then (v_inc (inn nm σ).1, (inn nm σ).2) else if t_name (gl nm) 0 nm.length = true then x_mc E t.1 t.2.2.2.2.1 nm σ else (0, σ)
def x_ma (E : ckE) (inn : List Nat → ckS → Nat × ckS) (D dom : List Nat) (t : tmT) (σ : ckS) : Nat × ckS :=
  if t.1 = 0 then (1, σ) else if t.1 = 4 then (bI (c_sb (nI t.2.2.2.2.2) E.2.1 t.2.2.2.2.1), σ) else if σ.1 < 10 then x_mb E inn t (x_nm E D dom t) (st_lk σ) else (6, σ)
def x_rd (E : ckE) (inn : List Nat → ckS → Nat × ckS) (D dom : List Nat) (rf rt : Nat) (σ : ckS) : Nat × ckS :=
  if rf < rt then (if σ.1 < 10 then inn (x_w E D dom rf rt) (st_lk σ) else (6, σ)) else (1, σ)
def x_gt (E : ckE) (inn : List Nat → ckS → Nat × ckS) (dep : Nat) (D dom : List Nat) : Nat → Nat → Nat → Nat → Nat → Nat → ckS → Nat × ckS
  | 0, _, _, _, rf, rt, σ => x_rd E inn D dom rf rt σ
  | m + 1, st, i, n, rf, rt, σ => if i = D.length ∨ gl D i = 32 then (if st < i then (match t_term (gl D) st i with
      | none => x_gt E inn dep D dom m (i + 1) (i + 1) n rf rt σ
      | some t => if t.1 < 6 then (if (x_ma E inn D dom t σ).1 = 1 then (t.2.1, st_mt (x_ma E inn D dom t σ).2 dep n) else if (x_ma E inn D dom t σ).1 = 0 then x_gt E inn dep D dom m (i + 1) (i + 1) (n + 1) rf rt (x_ma E inn D dom t σ).2 else x_ma E inn D dom t σ) else if t.1 = 6 then x_gt E inn dep D dom m (i + 1) (i + 1) n t.2.2.1 t.2.2.2.1 σ else x_gt E inn dep D dom m (i + 1) (i + 1) n rf rt σ) else x_gt E inn dep D dom m (i + 1) (i + 1) n rf rt σ) else x_gt E inn dep D dom m st (i + 1) n rf rt σ
def f_recs (dom : List Nat) (R : List rowT) : List rowT := R.filter (fun q => (decide (q.1 = 2) && decide (q.2.1 = dom)) && t_rec q.2.2.1)
def x_e3 (E : ckE) (inn : List Nat → ckS → Nat × ckS) (dep : Nat) (dom D : List Nat) (σ : ckS) : Nat × ckS := if t_al D = true then x_gt E inn dep D dom (D.length + 1 - 6) 6 6 0 0 0 σ else (6, σ)
def x_e2 (E : ckE) (inn : List Nat → ckS → Nat × ckS) (dep : Nat) (dom : List Nat) (σ : ckS) : Nat × ckS := match f_ask dom 2 E.1 0 with
  | none => (5, σ)
  | some _ => match f_recs dom E.1 with
    | [] => (0, σ)
    | [q] => x_e3 E inn dep dom q.2.2.1 σ
    | _ => (6, σ)
def x_e1 (E : ckE) (inn : List Nat → ckS → Nat × ckS) (dep : Nat) (dom : List Nat) (σ : ckS) : Nat × ckS := if f_last (gl dom) 1 0 dom.length = 0 then (0, σ) else x_e2 E inn dep dom (st_ask σ dom σ.2.1)
def x_in (e : List Nat → ckS → Nat × ckS) (nm : List Nat) (σ : ckS) : Nat × ckS := if t_name (gl nm) 0 nm.length = true then (if (e nm σ).1 = 0 then 6 else (e nm σ).1, (e nm σ).2) else (6, σ)
def x_six (_ : List Nat) (σ : ckS) : Nat × ckS := (6, σ)
def x_ev (E : ckE) : Nat → Nat → List Nat → ckS → Nat × ckS
  | 0, dep, dom, σ => x_e1 E x_six dep dom (st_ck σ)
  | n + 1, dep, dom, σ => x_e1 E (x_in (x_ev E n (dep + 1))) dep dom (st_ck σ)
def okS (σ : ckS) : Prop := σ.1 ≤ 10 ∧ σ.2.1 ≤ 2
def okR (r : Nat × ckS) : Prop := r.1 ≤ 6 ∧ r.2.1 ≤ 10 ∧ (r.1 = 6 ∨ r.2.2.1 ≤ 2)
def okI (inn : List Nat → ckS → Nat × ckS) : Prop := ∀ nm σ, okS σ → okR (inn nm σ)
theorem okR_S {r : Nat × ckS} (h : okR r) (k : ¬ r.1 = 6) : okS r.2 := ⟨h.2.1, h.2.2.resolve_left k⟩
theorem okV {o : Option Nat} {v : Nat} (hv : v ≤ 2) : (v_cnt o v).1 ≤ 6 ∧ ((v_cnt o v).1 = 6 ∨ (v_cnt o v).2 ≤ 2) := by
  refine ⟨(v_cnt_le o v).1, ?_⟩
  unfold v_cnt
  split
  · exact Or.inr hv
  · split
    · by_cases e : 3 ≤ v + 1
      · left; show (if 3 ≤ v + 1 then 6 else 0) = 6; rw [if_pos e]
      · right; show v + 1 ≤ 2; omega
    · exact Or.inr hv
theorem okH {R : List rowT} {adr : Int32} {m : List Nat} {bits v : Nat} (hv : v ≤ 2) : (x_host R adr m bits v).1 ≤ 6 ∧ ((x_host R adr m bits v).1 = 6 ∨ (x_host R adr m bits v).2 ≤ 2) := by
  refine ⟨(x_host_le R adr m bits v).1, ?_⟩
  have h := okV (o := f_ask m 0 R 0) hv
  unfold x_host
  split
  · right
    show (v_cnt (f_ask m 0 R 0) v).2 ≤ 2
    omega
  · exact h.2
theorem okF {R : List rowT} {adr : Int32} {m : List Nat} {bits : Nat} : ∀ (Rs : List rowT) (t v : Nat) (as : List Nat), v ≤ 2 → (f_mail R adr m bits Rs t v as).1 ≤ 6 ∧ ((f_mail R adr m bits Rs t v as).1 = 6 ∨ (f_mail R adr m bits Rs t v as).2.1 ≤ 2) := by
  intro Rs
  induction Rs with
  | nil => intro t v as hv; exact ⟨Nat.zero_le _, Or.inr hv⟩
  | cons q Rs ih =>
    intro t v as hv
    have h := okH (R := R) (adr := adr) (m := q.2.2.1) (bits := bits) hv
    rw [f_mail]
    split
    · exact ⟨Nat.zero_le _, Or.inr hv⟩
    · split
      · split
        · exact ih _ _ _ (by omega)
        · exact h
      · exact ih _ _ _ hv
theorem okM {R : List rowT} {adr : Int32} {m : List Nat} {bits v : Nat} (hv : v ≤ 2) : (x_mail R adr m bits v).1 ≤ 6 ∧ ((x_mail R adr m bits v).1 = 6 ∨ (x_mail R adr m bits v).2.1 ≤ 2) := by
  have h := okV (o := f_ask m 1 R 0) hv
  unfold x_mail
  split
  · exact okF _ _ _ _ (by omega)
  · exact h
theorem ok_ma {E : ckE} {inn : List Nat → ckS → Nat × ckS} {D dom : List Nat} {t : tmT} {σ : ckS} (hI : okI inn) (hσ : okS σ) : okR (x_ma E inn D dom t σ) := by
  unfold x_ma
  split
  · exact ⟨by show 1 ≤ 6; omega, hσ.1, Or.inr hσ.2⟩
  · split
    · exact ⟨by have := bI_lt (c_sb (nI t.2.2.2.2.2) E.2.1 t.2.2.2.2.1); show bI _ ≤ 6; omega, hσ.1, Or.inr hσ.2⟩
    · split
      · rename_i h3
        have hs : okS (st_lk σ) := ⟨h3, hσ.2⟩
        unfold x_mb
        split
        · have h := hI (x_nm E D dom t) _ hs
          refine ⟨?_, h.2.1, ?_⟩
          · show v_inc _ ≤ 6
            unfold v_inc
            have := h.1
            split
            · exact h.1
            · split <;> omega
          · rcases h.2.2 with h4 | h4
            · left; show v_inc _ = 6; rw [h4]; rfl
            · exact Or.inr h4
        · split
          · unfold x_mc
            split
            · have h := okH (R := E.1) (adr := E.2.1) (m := x_nm E D dom t) (bits := t.2.2.2.2.1) hσ.2
              exact ⟨h.1, h3, h.2⟩
            · split
              · have h := okM (R := E.1) (adr := E.2.1) (m := x_nm E D dom t) (bits := t.2.2.2.2.1) hσ.2
                exact ⟨h.1, h3, h.2⟩
              · have h := okV (o := f_ask (x_nm E D dom t) 0 E.1 0) hσ.2
                exact ⟨h.1, h3, h.2⟩
          · exact ⟨by show 0 ≤ 6; omega, h3, Or.inr hσ.2⟩
      · exact ⟨Nat.le_refl _, hσ.1, Or.inl rfl⟩
theorem ok_rd {E : ckE} {inn : List Nat → ckS → Nat × ckS} {D dom : List Nat} {rf rt : Nat} {σ : ckS} (hI : okI inn) (hσ : okS σ) : okR (x_rd E inn D dom rf rt σ) := by
  unfold x_rd
  split
  · split
    · rename_i h3
      exact hI _ _ ⟨h3, hσ.2⟩
    · exact ⟨Nat.le_refl _, hσ.1, Or.inl rfl⟩
  · exact ⟨by show 1 ≤ 6; omega, hσ.1, Or.inr hσ.2⟩
theorem ok_gt {E : ckE} {inn : List Nat → ckS → Nat × ckS} {D dom : List Nat} {dep : Nat} (hI : okI inn) : ∀ (m st i n rf rt : Nat) (σ : ckS), okS σ → okR (x_gt E inn dep D dom m st i n rf rt σ) := by
  intro m
  induction m with
  | zero => intro st i n rf rt σ hσ; exact ok_rd hI hσ
  | succ m ih =>
    intro st i n rf rt σ hσ
    rw [x_gt]
    split
    · split
      · rename_i hlt
        split
        · exact ih _ _ _ _ _ _ hσ
        · rename_i t ht
          have ho := t_term_ok hlt ht
          have hm := ok_ma (E := E) (D := D) (dom := dom) (t := t) hI hσ
          split
          · rename_i h6
            split
            · rename_i h1
              refine ⟨by show t.2.1 ≤ 6; have := ho.2.2.2.1 h6; omega, hm.2.1, Or.inr (hm.2.2.resolve_left (by omega))⟩
            · split
              · exact ih _ _ _ _ _ _ (okR_S hm (by omega))
              · exact hm
          · split <;> exact ih _ _ _ _ _ _ hσ
      · exact ih _ _ _ _ _ _ hσ
    · exact ih _ _ _ _ _ _ hσ
theorem ok_e1 {E : ckE} {inn : List Nat → ckS → Nat × ckS} {dep : Nat} {dom : List Nat} {σ : ckS} (hI : okI inn) (hσ : okS σ) : okR (x_e1 E inn dep dom σ) := by
  have h0 : ∀ (k : Nat), k ≤ 6 → ∀ σ : ckS, okS σ → okR (k, σ) := fun k hk σ h => ⟨hk, h.1, Or.inr h.2⟩
  have hs : okS (st_ask σ dom σ.2.1) := hσ
  unfold x_e1
  split
  · exact h0 _ (by decide) _ hσ
  · unfold x_e2
    split
    · exact h0 _ (by decide) _ hs
    · split
      · exact h0 _ (by decide) _ hs
      · unfold x_e3
        split
        · exact ok_gt hI _ _ _ _ _ _ _ hs
        · exact h0 _ (by decide) _ hs
      · exact h0 _ (by decide) _ hs
theorem ok_six : okI x_six := fun _ σ h => ⟨Nat.le_refl _, h.1, Or.inr h.2⟩
theorem ok_in {e : List Nat → ckS → Nat × ckS} (h : okI e) : okI (x_in e) := by
  intro nm σ hσ
  unfold x_in
  split
  · have := h nm σ hσ
    refine ⟨?_, this.2.1, ?_⟩
    · show (if _ then 6 else _) ≤ 6
      split
      · exact Nat.le_refl _
      · exact this.1
    · rcases this.2.2 with q | q
      · left
        show (if _ then 6 else _) = 6
        split
        · rfl
        · exact q
      · exact Or.inr q
  · exact ok_six nm σ hσ
theorem ok_ev {E : ckE} : ∀ (n dep : Nat), okI (x_ev E n dep) := by
  intro n
  induction n with
  | zero => intro dep nm σ hσ; exact ok_e1 ok_six hσ
  | succ n ih => intro dep nm σ hσ; exact ok_e1 (ok_in (ih (dep + 1))) hσ
/-! the class: what a check touches -/
/-- from s to s' nothing below b has changed but the name asked for, the counts, the expanded name -/
def ckf (s s' : mg_s) (b : Nat) : Prop := (∀ a, ¬ a = 5 → ¬ a = 87 → ¬ a = 89 → (a < b ∨ 137 ≤ a) → s'.1 a = s.1 a) ∧ (∀ k, k < 6 → s'.1 87 k = s.1 87 k) ∧ (∀ a, ¬ a = 6 → ¬ a = 90 → (a < b ∨ 137 ≤ a) → s'.2.1 a = s.2.1 a) ∧ s'.2.2 = s.2.2
theorem ckf.rf (s : mg_s) (b : Nat) : ckf s s b := ⟨fun _ _ _ _ _ => rfl, fun _ _ => rfl, fun _ _ _ _ => rfl, rfl⟩
theorem ckf.trans {s s1 s2 : mg_s} {b : Nat} (h : ckf s s1 b) (k : ckf s1 s2 b) : ckf s s2 b :=
  ⟨fun a h1 h2 h3 h4 => (k.1 a h1 h2 h3 h4).trans (h.1 a h1 h2 h3 h4), fun q hq => (k.2.1 q hq).trans (h.2.1 q hq), fun a h1 h2 h3 => (k.2.2.1 a h1 h2 h3).trans (h.2.2.1 a h1 h2 h3), k.2.2.2.trans h.2.2.2⟩
theorem ckf.less {s s1 : mg_s} {b c : Nat} (h : ckf s s1 b) (hc : c ≤ b) : ckf s s1 c :=
  ⟨fun a h1 h2 h3 h4 => h.1 a h1 h2 h3 (h4.imp_left (fun q => Nat.lt_of_lt_of_le q hc)), h.2.1, fun a h1 h2 h3 => h.2.2.1 a h1 h2 (h3.imp_left (fun q => Nat.lt_of_lt_of_le q hc)), h.2.2.2⟩
theorem ckf.hold {s s1 : mg_s} {b a : Nat} {l : List Nat} (h : ckf s s1 b) (hl : hold s a l) (h5 : ¬ a = 5) (h87 : ¬ a = 87) (h89 : ¬ a = 89) (hb : a + 1 < b ∨ 137 ≤ a) : hold s1 a l :=
  hold_of hl (h.1 a h5 h87 h89 (by omega)) (h.2.2.1 (a + 1) (by omega) (by omega) (by omega))
theorem ckf_M {s : mg_s} {b r : Nat} {f : Nat → Int32} (hb : b ≤ r) (hr : r < 137) (h87 : ¬ r = 87) : ckf s (mg_M s r f) b :=
  ⟨fun a _ _ _ h4 => mg_M_oth (by omega), fun k _ => by rw [mg_M_oth (by omega)], fun _ _ _ _ => rfl, rfl⟩
theorem ckf_I {s : mg_s} {b k : Nat} {x : Int32} (hk : 6 ≤ k) : ckf s (mg_I s 87 k x) b :=
  ⟨fun a _ h2 _ _ => mg_I_oth h2, fun q hq => by rw [mg_I_own, upd_ne _ _ (by omega)], fun _ _ _ _ => rfl, rfl⟩
theorem ckf_T {s s1 : mg_s} {b a : Nat} {l : List Nat} (h : tset s a l s1) (ha : a = 5 ∨ a = 89 ∨ (b ≤ a ∧ a < 136)) (h87 : ¬ a = 87) : ckf s s1 b :=
  ⟨fun c h1 h2 h3 h4 => h.i (by omega), fun k _ => by rw [h.i (by omega)], fun c h1 h2 h3 => h.a (by omega), h.r⟩
theorem ckf_h {s s1 : mg_s} {as : List Nat} {v b : Nat} (h : ckh s s1 as v) : ckf s s1 b :=
  ⟨fun c h1 h2 h3 h4 => h.i h1 h2, fun k hk => h.k (by omega), fun c h1 h2 h3 => h.a h1, h.r⟩
def ckC (s : mg_s) (p : Nat → Nat) (E : ckE) : Prop := isTab s p E.1 ∧ (∀ q ∈ E.1, okrow q) ∧ s.1 87 4 = E.2.1 ∧ hold s 91 E.2.2.1 ∧ hold s 94 E.2.2.2 ∧ ∀ k, k < 11 → s.2.2.2.1 k = some (93 + 4 * k)
theorem ckC_of {s s1 : mg_s} {p : Nat → Nat} {E : ckE} {b : Nat} (h : ckC s p E) (f : ckf s s1 b) (hb : 96 ≤ b) : ckC s1 p E :=
  ⟨isTab_of h.1 (f.1 3 (by decide) (by decide) (by decide) (by omega)) (fun a h1 h2 => ⟨f.1 a (by omega) (by omega) (by omega) (by omega), f.2.2.1 a (by omega) (by omega) (by omega)⟩) (by rw [f.2.2.2]), h.2.1, (f.2.1 4 (by decide)).trans h.2.2.1, f.hold h.2.2.2.1 (by decide) (by decide) (by decide) (by omega), f.hold h.2.2.2.2.1 (by decide) (by decide) (by decide) (by omega), by rw [f.2.2.2]; exact h.2.2.2.2.2⟩
def isCk (s : mg_s) (σ : ckS) : Prop := s.1 87 6 = nI σ.1 ∧ s.1 87 7 = nI σ.2.1 ∧ s.1 87 8 = σ.2.2.1 ∧ s.1 87 9 = nI σ.2.2.2.1 ∧ hold s 5 σ.2.2.2.2
theorem isCk_of {s s1 : mg_s} {σ : ckS} (h : isCk s σ) (h1 : s1.1 87 = s.1 87) (h2 : s1.1 5 = s.1 5) (h3 : s1.2.1 6 = s.2.1 6) : isCk s1 σ :=
  ⟨by rw [h1]; exact h.1, by rw [h1]; exact h.2.1, by rw [h1]; exact h.2.2.1, by rw [h1]; exact h.2.2.2.1, hold_of h.2.2.2.2 h2 h3⟩
theorem isCk_M {s : mg_s} {σ : ckS} {r : Nat} {f : Nat → Int32} (h : isCk s σ) (h5 : ¬ r = 5) (h87 : ¬ r = 87) : isCk (mg_M s r f) σ := isCk_of h (mg_M_oth (fun e => h87 e.symm)) (mg_M_oth (fun e => h5 e.symm)) rfl
theorem isCk_T {s s1 : mg_s} {σ : ckS} {a : Nat} {l : List Nat} (h : isCk s σ) (k : tset s a l s1) (h5 : ¬ a = 5) (h87 : ¬ a = 87) : isCk s1 σ := isCk_of h (k.i (fun e => h87 e.symm)) (k.i (fun e => h5 e.symm)) (k.a (by omega))
theorem isCk_ask {s s1 : mg_s} {σ : ckS} {l : List Nat} (h : isCk s σ) (k : tset s 5 l s1) : isCk s1 (st_ask σ l σ.2.1) := by
  have e : s1.1 87 = s.1 87 := k.i (by decide)
  exact ⟨by rw [e]; exact h.1, by rw [e]; exact h.2.1, by rw [e]; exact h.2.2.1, by rw [e]; exact h.2.2.2.1, k.has⟩
theorem isCk_h {s s1 : mg_s} {σ : ckS} {l : List Nat} {v : Nat} (h : isCk s σ) (k : ckh s s1 l v) : isCk s1 (st_ask σ l v) :=
  ⟨(k.k (by decide)).trans h.1, k.v, (k.k (by decide)).trans h.2.2.1, (k.k (by decide)).trans h.2.2.2.1, k.has⟩
theorem isCk_lk {s : mg_s} {σ : ckS} (h : isCk s σ) : isCk (mg_I s 87 6 (nI (σ.1 + 1))) (st_lk σ) :=
  ⟨by rw [mg_I_own]; rfl, by rw [mg_I_own, upd_ne _ _ (by decide)]; exact h.2.1, by rw [mg_I_own, upd_ne _ _ (by decide)]; exact h.2.2.1, by rw [mg_I_own, upd_ne _ _ (by decide)]; exact h.2.2.2.1, hold_I h.2.2.2.2 (by decide)⟩
theorem isCk_ck {s : mg_s} {σ : ckS} (h : isCk s σ) : isCk (mg_I s 87 9 (nI (σ.2.2.2.1 + 1))) (st_ck σ) :=
  ⟨by rw [mg_I_own, upd_ne _ _ (by decide)]; exact h.1, by rw [mg_I_own, upd_ne _ _ (by decide)]; exact h.2.1, by rw [mg_I_own, upd_ne _ _ (by decide)]; exact h.2.2.1, by rw [mg_I_own]; rfl, hold_I h.2.2.2.2 (by decide)⟩
theorem isCk_mt {s : mg_s} {σ : ckS} {dep n : Nat} {x : Int32} (h : isCk s σ) (hx : x = if dep = 0 then nI n else σ.2.2.1) : isCk (mg_I s 87 8 x) (st_mt σ dep n) :=
  ⟨by rw [mg_I_own, upd_ne _ _ (by decide)]; exact h.1, by rw [mg_I_own, upd_ne _ _ (by decide)]; exact h.2.1, by rw [mg_I_own, hx]; rfl, by rw [mg_I_own, upd_ne _ _ (by decide)]; exact h.2.2.2.1, hold_I h.2.2.2.2 (by decide)⟩
theorem isTerm_of {s s1 : mg_s} {r : Nat} {t : tmT} (h : isTerm s r t) (k : s1.1 r = s.1 r) : isTerm s1 r t := by unfold isTerm; rw [k]; exact h
theorem isL_all : ∀ k, k < 11 → isL (93 + 4 * k) := by unfold isL; decide +kernel
