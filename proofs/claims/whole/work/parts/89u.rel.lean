/-! both halves, call by call -/
/-! both halves and one abstract state: the text, the rows, the name asked for last, the latest check -/
abbrev kT : Type := Option (Nat × ckS × List Nat)
def RCk (s : mg_s) (K : kT) : Prop := match K with
  | none => s.1 87 5 = -1
  | some k => s.1 87 5 = nI k.1 ∧ s.1 87 6 = nI k.2.1.1 ∧ s.1 87 7 = nI k.2.1.2.1 ∧ s.1 87 8 = k.2.1.2.2.1 ∧ s.1 87 9 = nI k.2.1.2.2.2.1 ∧ hold s 94 k.2.2
def RC (s : mg_s) (p : Nat → Nat) (l : List Nat) (R : List rowT) (A : List Nat) (K : kT) : Prop := hold s 1 l ∧ isTab s p R ∧ hold s 5 A ∧ (∀ k, k < 11 → s.2.2.2.1 k = some (93 + 4 * k)) ∧ RCk s K
def RMk (s : mg_s) (K : kT) : Prop := match K with
  | none => s.1 141 34 = 0
  | some k => s.1 141 34 = 1 ∧ s.1 141 36 = nI k.1 ∧ s.1 141 37 = nI k.2.1.1 ∧ s.1 141 38 = nI k.2.1.2.1 ∧ s.1 141 39 = k.2.1.2.2.1 ∧ s.1 141 40 = nI k.2.1.2.2.2.1 ∧ s.1 141 41 = nI k.2.2.length ∧ holdA s 163 0 k.2.2
def RMa (s : mg_s) (A : List Nat) : Prop := (A = [] → s.1 141 14 = 0) ∧ (¬ A = [] → isAsk s A)
def RM (s : mg_s) (l : List Nat) (R : List rowT) (A : List Nat) (K : kT) : Prop := s.1 141 1 = nI l.length ∧ holdA s 142 0 l ∧ isTabM s R ∧ RMa s A ∧ RMk s K
def RO (l : List Nat) (K : kT) : Prop := l.length ≤ 100 ∧ (∀ x ∈ l, 32 ≤ x ∧ x < 127) ∧ ∀ k, K = some k → k.1 ≤ 6 ∧ t_name (gl k.2.2) 0 k.2.2.length = true
theorem RCk_of {s s' : mg_s} {K : kT} (h : RCk s K) (h1 : ∀ k, 5 ≤ k → k ≤ 9 → s'.1 87 k = s.1 87 k) (h2 : s'.1 94 = s.1 94) (h3 : s'.2.1 95 = s.2.1 95) : RCk s' K := by
  cases K with
  | none => exact (h1 5 (by omega) (by omega)).trans h
  | some k =>
    obtain ⟨a, b, c, d, e, f⟩ := h
    exact ⟨(h1 5 (by omega) (by omega)).trans a, (h1 6 (by omega) (by omega)).trans b, (h1 7 (by omega) (by omega)).trans c, (h1 8 (by omega) (by omega)).trans d, (h1 9 (by omega) (by omega)).trans e, hold_of f h2 h3⟩
theorem RC_of {s s' : mg_s} {p : Nat → Nat} {l : List Nat} {R : List rowT} {A : List Nat} {K : kT} (h : RC s p l R A K) (h1 : ∀ a, a < 137 → s'.1 a = s.1 a) (h2 : ∀ a, a < 137 → s'.2.1 a = s.2.1 a) (h3 : s'.2.2 = s.2.2) : RC s' p l R A K := by
  obtain ⟨a, b, c, d, e⟩ := h
  exact ⟨hold_of a (h1 1 (by omega)) (h2 2 (by omega)), isTab_of b (h1 3 (by omega)) (fun a q1 q2 => ⟨h1 a (by omega), h2 a (by omega)⟩) (by rw [h3]), hold_of c (h1 5 (by omega)) (h2 6 (by omega)), by rw [h3]; exact d, RCk_of e (fun k _ _ => by rw [h1 87 (by omega)]) (h1 94 (by omega)) (h2 95 (by omega))⟩
theorem RC_m {s s' : mg_s} {p : Nat → Nat} {l : List Nat} {R : List rowT} {A : List Nat} {K : kT} {F B : List Nat} (h : RC s p l R A K) (m : mfr s s' F B) (hB : ∀ a ∈ B, 137 ≤ a) : RC s' p l R A K :=
  RC_of h (fun a q => m.1 a (by omega)) (fun a q => m.2.2.1 a (fun z => by have := hB a z; omega)) m.2.2.2
theorem RMk_of {s s' : mg_s} {K : kT} (h : RMk s K) (h1 : ∀ k, 34 ≤ k → k ≤ 41 → s'.1 141 k = s.1 141 k) (h2 : s'.2.1 163 = s.2.1 163) : RMk s' K := by
  cases K with
  | none => exact (h1 34 (by omega) (by omega)).trans h
  | some k =>
    obtain ⟨a, b, c, d, e, f, g, i⟩ := h
    exact ⟨(h1 34 (by omega) (by omega)).trans a, (h1 36 (by omega) (by omega)).trans b, (h1 37 (by omega) (by omega)).trans c, (h1 38 (by omega) (by omega)).trans d, (h1 39 (by omega) (by omega)).trans e, (h1 40 (by omega) (by omega)).trans f, (h1 41 (by omega) (by omega)).trans g, holdA_of i h2⟩
theorem RMa_of {s s' : mg_s} {A : List Nat} (h : RMa s A) (h1 : s'.1 141 14 = s.1 141 14) (h2 : s'.1 141 12 = s.1 141 12) (h3 : s'.2.1 149 = s.2.1 149) : RMa s' A :=
  ⟨fun q => h1.trans (h.1 q), fun q => ⟨h1.trans (h.2 q).1, h2.trans (h.2 q).2.1, holdA_of (h.2 q).2.2 h3⟩⟩
theorem RM_of {s s' : mg_s} {l : List Nat} {R : List rowT} {A : List Nat} {K : kT} (h : RM s l R A K) (h1 : s'.1 141 = s.1 141) (h2 : ∀ a, 142 ≤ a → a ≤ 163 → s'.2.1 a = s.2.1 a) : RM s' l R A K := by
  obtain ⟨a, b, c, d, e⟩ := h
  exact ⟨by rw [h1]; exact a, holdA_of b (h2 142 (by omega) (by omega)), isTabM_of c (by rw [h1]) (fun a q1 q2 => h2 a (by omega) (by omega)), RMa_of d (by rw [h1]) (by rw [h1]) (h2 149 (by omega) (by omega)), RMk_of e (fun k _ _ => by rw [h1]) (h2 163 (by omega) (by omega))⟩
theorem RM_m {s s' : mg_s} {l l' : List Nat} {R : List rowT} {A : List Nat} {K : kT} {F B : List Nat} (h : RM s l R A K) (m : mfr s s' F B) (h1 : s'.1 141 1 = nI l'.length) (h2 : holdA s' 142 0 l') (hF : ∀ k ∈ [3, 12, 14, 34, 35, 36, 37, 38, 39, 40, 41], k ∉ F) (hB : ∀ a ∈ [143, 144, 145, 146, 147, 149, 163], a ∉ B) : RM s' l' R A K := by
  obtain ⟨a, b, c, d, e⟩ := h
  refine ⟨h1, h2, isTabM_of c (m.2.1 3 (hF 3 (by decide))) (fun a q1 q2 => m.2.2.1 a (hB a ?_)), RMa_of d (m.2.1 14 (hF 14 (by decide))) (m.2.1 12 (hF 12 (by decide))) (m.2.2.1 149 (hB 149 (by decide))), RMk_of e (fun k q1 q2 => m.2.1 k (hF k ?_)) (m.2.2.1 163 (hB 163 (by decide)))⟩
  · have : a = 143 ∨ a = 144 ∨ a = 145 ∨ a = 146 ∨ a = 147 := by omega
    rcases this with e | e | e | e | e <;> (subst e; decide)
  · have : k = 34 ∨ k = 35 ∨ k = 36 ∨ k = 37 ∨ k = 38 ∨ k = 39 ∨ k = 40 ∨ k = 41 := by omega
    rcases this with e | e | e | e | e | e | e | e <;> (subst e; decide)
theorem RM_0 {s : mg_s} {l : List Nat} {R : List rowT} {A : List Nat} {K : kT} {x : Int32} (h : RM s l R A K) : RM (mg_I s 141 0 x) l R A K := RM_m h (mfr_I s (F := [0]) (A := []) (by decide)) h.1 h.2.1 (by decide) (by decide)
theorem RC_0 {s : mg_s} {p : Nat → Nat} {l : List Nat} {R : List rowT} {A : List Nat} {K : kT} {k : Nat} {x : Int32} (h : RC s p l R A K) : RC (mg_I s 141 k x) p l R A K := RC_m h (mfr_I s (F := [k]) (A := []) (List.mem_singleton.mpr rfl)) (by decide)
theorem hold_RM {s s' : mg_s} {l m : List Nat} {R : List rowT} {A : List Nat} {K : kT} {a : Nat} (h : RM s l R A K) (t : tset s a m s') (ha : a < 140) : RM s' l R A K := RM_of h (t.i (by omega)) (fun b q1 _ => t.a (by omega))
section OPS
variable {L : Nat} {xs : Nat → Int32} {d : Nat} {s : mg_s} {p : Nat → Nat} {l : List Nat} {R : List rowT} {A : List Nat} {K : kT}
theorem RC_t {s s' : mg_s} {m : List Nat} (h : RC s p l R A K) (t : tset s 1 m s') : RC s' p m R A K :=
  ⟨t.has, tset_tab t (Or.inl (by decide)) (by decide) h.2.1, t.other (by decide) h.2.2.1, by rw [t.r]; exact h.2.2.2.1, RCk_of h.2.2.2.2 (fun k _ _ => by rw [t.i (by decide)]) (t.i (by decide)) (t.a (by decide))⟩
def l_ty (l : List Nat) (q : Int64) : List Nat := if t_gd q 8 = true ∧ l.length + (t_bys q 8).length ≤ 100 then l ++ t_bys q 8 else l
def b_ty (l : List Nat) (q : Int64) : Int32 := if t_gd q 8 = true ∧ l.length + (t_bys q 8).length ≤ 100 then 1 else 0
theorem cl_type {q : Int64} (hC : RC s p l R A K) (hM : RM s l R A K) : ca L xs (d + 3) 13 [.ref 0, .long q] s (fun v s' => v = some (.int (b_ty l q)) ∧ RC s' p (l_ty l q) R A K ∧ RM s' l R A K) := by
  unfold b_ty l_ty
  by_cases c : t_gd q 8 = true ∧ l.length + (t_bys q 8).length ≤ 100
  · rw [if_pos c, if_pos c]
    exact ca_mono (gd_type hC.1 c.1 c.2) (fun v s' h => ⟨h.1, RC_t hC h.2, hold_RM hM h.2 (by decide)⟩)
  · rw [if_neg c, if_neg c]
    refine ca_mono (gd_type_n hC.1 c) ?_
    rintro _ _ ⟨rfl, rfl⟩
    exact ⟨rfl, hC, hM⟩
theorem ml_type {q : Int64} {l2 : List Nat} (h100 : l.length ≤ 100) (hC : RC s p l2 R A K) (hM : RM s l R A K) : ca L xs (d + 1) 106 [.ref 141, .long q] s (fun v s' => v = some (.int (b_ty l q)) ∧ RC s' p l2 R A K ∧ RM s' (l_ty l q) R A K) :=
  ca_mono (md_type hM.1 hM.2.1 h100) (fun v s' h => ⟨h.1, RC_m hC h.2.2.1 (by decide), RM_m hM h.2.2.1 h.2.2.2.1 h.2.2.2.2 (by decide) (by decide)⟩)
theorem ro_type {q : Int64} (h : RO l K) : RO (l_ty l q) K := by
  unfold l_ty
  by_cases c : t_gd q 8 = true ∧ l.length + (t_bys q 8).length ≤ 100
  · rw [if_pos c]
    refine ⟨by rw [List.length_append]; exact c.2, fun x hx => ?_, h.2.2⟩
    rcases List.mem_append.mp hx with z | z
    · exact h.2.1 x z
    · exact t_bys_ok q 8 c.1 x z
  · rw [if_neg c]; exact h
theorem ro_nil (h : RO l K) : RO [] K := ⟨Nat.zero_le _, fun x hx => (by cases hx), h.2.2⟩
theorem cl_wipe (hC : RC s p l R A K) (hM : RM s l R A K) : ca L xs (d + 2) 17 [.ref 0] s (fun v s' => v = none ∧ RC s' p [] R A K ∧ RM s' l R A K) :=
  ca_mono gd_wipe (fun v s' h => by
    have t : tset s 1 [] s' := ⟨s.2.1 (1 + 1), h.2, Nat.zero_le _, fun x hx => (by cases hx), fun i hi => absurd hi (by show ¬ i < 0; omega)⟩
    exact ⟨h.1, RC_t hC t, hold_RM hM t (by decide)⟩)
theorem ml_wipe {l2 : List Nat} (hC : RC s p l2 R A K) (hM : RM s l R A K) : ca L xs (d + 1) 107 [.ref 141] s (fun v s' => v = none ∧ RC s' p l2 R A K ∧ RM s' [] R A K) := by
  refine ca_mono md_wipe ?_
  rintro _ _ ⟨rfl, rfl⟩
  exact ⟨rfl, RC_0 (RC_0 hC), RM_m hM ((mfr_I s (F := [0, 1]) (A := []) (by decide)).trans (mfr_I _ (by decide))) rfl ⟨fun x hx => (by cases hx), fun i hi => absurd hi (by show ¬ i < 0; omega)⟩ (by decide) (by decide)⟩
theorem cl_length (hC : RC s p l R A K) : ca L xs (d + 2) 19 [.ref 0] s (fun v s' => v = some (.int (nI l.length)) ∧ s = s') := gd_length hC.1.1
theorem ml_length (hC : RC s p l R A K) (hM : RM s l R A K) : ca L xs (d + 1) 108 [.ref 141] s (fun v s' => v = some (.int (nI l.length)) ∧ RC s' p l R A K ∧ RM s' l R A K) := by
  refine ca_mono md_length ?_
  rintro _ _ ⟨rfl, rfl⟩
  exact ⟨by rw [hM.1], RC_0 hC, RM_0 hM⟩
end OPS
section OPS2
variable {L : Nat} {xs : Nat → Int32} {d : Nat} {s : mg_s} {p : Nat → Nat} {l : List Nat} {R : List rowT} {A : List Nat} {K : kT}
theorem in_cases (x : Int32) {n : Nat} (hn : n < 2 ^ 31) : (∃ k, k < n ∧ x = nI k) ∨ (x < 0 ∨ nI n ≤ x) := by
  by_cases h0 : x < 0
  · exact Or.inr (Or.inl h0)
  · by_cases h1 : nI n ≤ x
    · exact Or.inr (Or.inr h1)
    · obtain ⟨j, h2, h3, _⟩ := pk_mu h0 h1 hn
      exact Or.inl ⟨j, h2, h3⟩
def r_dr (R : List rowT) (x : Int32) : List rowT := if ¬ x < 0 ∧ ¬ nI R.length ≤ x then R.eraseIdx x.toNatClampNeg else R
def b_dr (R : List rowT) (x : Int32) : Int32 := if ¬ x < 0 ∧ ¬ nI R.length ≤ x then 1 else 0
theorem dr_in {k : Nat} (hk : k < R.length) (hR : R.length ≤ 16) : r_dr R (nI k) = R.eraseIdx k ∧ b_dr R (nI k) = 1 := by
  have h : ¬ nI k < 0 ∧ ¬ nI R.length ≤ nI k := ⟨nI_pos (by omega), fun z => absurd ((nI_leI (by omega) (by omega)).mp z) (by omega)⟩
  unfold r_dr b_dr
  rw [if_pos h, if_pos h, nI_nat (by omega)]
  exact ⟨rfl, rfl⟩
theorem dr_out {x : Int32} (hx : x < 0 ∨ nI R.length ≤ x) : r_dr R x = R ∧ b_dr R x = 0 := by
  have h : ¬ (¬ x < 0 ∧ ¬ nI R.length ≤ x) := fun z => hx.elim z.1 z.2
  unfold r_dr b_dr
  rw [if_neg h, if_neg h]
  exact ⟨rfl, rfl⟩
theorem cl_drop {x : Int32} (hC : RC s p l R A K) (hM : RM s l R A K) : ca L xs (d + 2) 20 [.ref 0, .int x] s (fun v s' => v = some (.int (b_dr R x)) ∧ (∃ p', RC s' p' l (r_dr R x) A K) ∧ RM s' l R A K) := by
  have hR16 := hC.2.1.2.1
  rcases in_cases x (n := R.length) (by omega) with ⟨k, hk, rfl⟩ | hx
  · rw [(dr_in hk hR16).1, (dr_in hk hR16).2]
    refine ca_mono (gd_drop hC.2.1 hk) (fun v s' h => ?_)
    obtain ⟨h1, h2, h3, h4, h5⟩ := h
    exact ⟨h1, ⟨_, hold_of hC.1 (h3 1 (by decide)) (by rw [h4]), h2, hold_of hC.2.2.1 (h3 5 (by decide)) (by rw [h4]), by rw [h5]; exact hC.2.2.2.1, RCk_of hC.2.2.2.2 (fun k _ _ => by rw [h3 87 (by decide)]) (h3 94 (by decide)) (by rw [h4])⟩, RM_of hM (h3 141 (by decide)) (fun a _ _ => by rw [h4])⟩
  · rw [(dr_out hx).1, (dr_out hx).2]
    refine ca_mono (gd_dropN hC.2.1 hx) ?_
    rintro _ _ ⟨rfl, rfl⟩
    exact ⟨rfl, ⟨p, hC⟩, hM⟩
theorem ml_drop {x : Int32} {R2 : List rowT} (hC : RC s p l R2 A K) (hM : RM s l R A K) : ca L xs (d + 1) 115 [.ref 141, .int x] s (fun v s' => v = some (.int (b_dr R x)) ∧ RC s' p l R2 A K ∧ RM s' l (r_dr R x) A K) := by
  have hR16 := hM.2.2.1.2.1
  rcases in_cases x (n := R.length) (by omega) with ⟨k, hk, rfl⟩ | hx
  · rw [(dr_in hk hR16).1, (dr_in hk hR16).2]
    refine ca_mono (md_drop hM.2.2.1 hk) (fun v s' h => ?_)
    obtain ⟨h1, h2, h3, h4⟩ := h
    exact ⟨h1, RC_m hC h4 (by decide), (h4.2.1 1 (by decide)).trans hM.1, h4.hold (by decide) hM.2.1, h3, RMa_of hM.2.2.2.1 (h4.2.1 14 (by decide)) (h4.2.1 12 (by decide)) (h4.2.2.1 149 (by decide)), RMk_of hM.2.2.2.2 (fun k q1 q2 => h4.2.1 k (fun z => by rcases List.mem_cons.mp z with e | e; omega; have := List.mem_singleton.mp e; omega)) (h4.2.2.1 163 (by decide))⟩
  · rw [(dr_out hx).1, (dr_out hx).2]
    refine ca_mono (md_dropN hM.2.2.1 hx) ?_
    rintro _ _ ⟨rfl, rfl⟩
    exact ⟨rfl, RC_0 hC, RM_0 hM⟩
def v_rw (R : List rowT) (x : Int32) : Int32 := if x = -1 then nI R.length else if x < 0 ∨ nI R.length ≤ x then -1 else nI ((R[x.toNatClampNeg]?.map (fun q => q.1)).getD 0)
theorem cl_rows {x : Int32} (hC : RC s p l R A K) : ca L xs (d + 2) 32 [.ref 0, .int x] s (fun v s' => v = some (.int (v_rw R x)) ∧ s = s') := by
  have hR16 := hC.2.1.2.1
  unfold v_rw
  by_cases e : x = -1
  · subst e
    rw [if_pos rfl]
    refine ca_mono gd_rowsm ?_
    rintro _ _ ⟨rfl, rfl⟩
    exact ⟨by rw [hC.2.1.1], rfl⟩
  · rw [if_neg e]
    rcases in_cases x (n := R.length) (by omega) with ⟨k, hk, rfl⟩ | hx
    · rw [if_neg (fun z => z.elim (nI_pos (by omega)) (fun y => absurd ((nI_leI (by omega) (by omega)).mp y) (by omega))), nI_nat (by omega), List.getElem?_eq_getElem hk]
      show ca L xs _ _ _ s (fun v s' => v = some (.int (nI (R[k]).1)) ∧ _)
      refine ca_mono (gd_rowsi hC.2.1 hk) ?_
      rintro _ _ ⟨rfl, rfl⟩
      exact ⟨by rw [(hC.2.1.2.2.2.2 k _ (List.getElem?_eq_getElem hk)).1], rfl⟩
    · rw [if_pos hx]
      exact gd_rowso hC.2.1 e hx
theorem ml_rows {x : Int32} (hC : RC s p l R A K) (hM : RM s l R A K) : ca L xs (d + 1) 163 [.ref 141, .int x] s (fun v s' => v = some (.int (v_rw R x)) ∧ RC s' p l R A K ∧ RM s' l R A K) := by
  have hR16 := hM.2.2.1.2.1
  unfold v_rw
  by_cases e : x = -1
  · subst e
    rw [if_pos rfl]
    refine ca_mono md_rowsm ?_
    rintro _ _ ⟨rfl, rfl⟩
    exact ⟨by rw [hM.2.2.1.1], RC_0 hC, RM_0 hM⟩
  · rw [if_neg e]
    rcases in_cases x (n := R.length) (by omega) with ⟨k, hk, rfl⟩ | hx
    · rw [if_neg (fun z => z.elim (nI_pos (by omega)) (fun y => absurd ((nI_leI (by omega) (by omega)).mp y) (by omega))), nI_nat (by omega), List.getElem?_eq_getElem hk]
      show ca L xs _ _ _ s (fun v s' => v = some (.int (nI (R[k]).1)) ∧ _)
      refine ca_mono (md_rowsi hM.2.2.1 hk) ?_
      rintro _ _ ⟨rfl, rfl⟩
      exact ⟨by rw [(hM.2.2.1.2.2 k _ (List.getElem?_eq_getElem hk)).1.1], RC_0 hC, RM_0 hM⟩
    · rw [if_pos hx]
      refine ca_mono (md_rowso hM.2.2.1 e hx) ?_
      rintro _ _ ⟨rfl, rfl⟩
      exact ⟨rfl, RC_0 hC, RM_0 hM⟩
def v_as (A : List Nat) (x : Int32) : Int32 := if A = [] then -1 else if x = -1 then nI A.length else if x < 0 ∨ nI A.length ≤ x then -1 else nI (gl A x.toNatClampNeg)
theorem cl_asked {x : Int32} (hC : RC s p l R A K) : ca L xs (d + 2) 29 [.ref 0, .int x] s (fun v s' => v = some (.int (v_as A x)) ∧ s = s') := by
  have hn := hC.2.2.1.1
  have h55 : A.length ≤ 55 := by have := hn.2; rw [isT_all.2.2.2.2.2.2.1] at this; exact this
  unfold v_as
  by_cases e : A = []
  · rw [if_pos e]; exact gd_askede hn (by rw [e]; rfl)
  · have hl : 0 < A.length := List.length_pos_iff.mpr e
    rw [if_neg e]
    by_cases e1 : x = -1
    · subst e1; rw [if_pos rfl]; exact gd_askedm hn hl
    · rw [if_neg e1]
      rcases in_cases x (n := A.length) (by omega) with ⟨k, hk, rfl⟩ | hx
      · rw [if_neg (fun z => z.elim (nI_pos (by omega)) (fun y => absurd ((nI_leI (by omega) (by omega)).mp y) (by omega))), nI_nat (by omega)]
        refine ca_mono (gd_askedi hn hk) ?_
        rintro _ _ ⟨rfl, rfl⟩
        exact ⟨by rw [hold_at hC.2.2.1], rfl⟩
      · rw [if_pos hx]; exact gd_askedo hn hl e1 hx
theorem ml_asked {x : Int32} (h60 : A.length ≤ 60) (hC : RC s p l R A K) (hM : RM s l R A K) : ca L xs (d + 1) 154 [.ref 141, .int x] s (fun v s' => v = some (.int (v_as A x)) ∧ RC s' p l R A K ∧ RM s' l R A K) := by
  have fin : ∀ {v : Option Value} {w : Int32} {s' : mg_s}, (v = some (.int w) ∧ mg_I s 141 0 0 = s') → v = some (.int w) ∧ RC s' p l R A K ∧ RM s' l R A K := by
    rintro v w _ ⟨h1, rfl⟩
    exact ⟨h1, RC_0 hC, RM_0 hM⟩
  unfold v_as
  by_cases e : A = []
  · rw [if_pos e]; exact ca_mono (md_askede (hM.2.2.2.1.1 e)) (fun v s' h => fin h)
  · have hl : 0 < A.length := List.length_pos_iff.mpr e
    obtain ⟨a1, a2, a3⟩ := hM.2.2.2.1.2 e
    rw [if_neg e]
    by_cases e1 : x = -1
    · subst e1; rw [if_pos rfl]; exact ca_mono (md_askedm a1 a2) (fun v s' h => fin h)
    · rw [if_neg e1]
      rcases in_cases x (n := A.length) (by omega) with ⟨k, hk, rfl⟩ | hx
      · rw [if_neg (fun z => z.elim (nI_pos (by omega)) (fun y => absurd ((nI_leI (by omega) (by omega)).mp y) (by omega))), nI_nat (by omega)]
        have h149 : s.2.1 149 k = nI (gl A k) := by have := a3.2 k hk; rw [Nat.zero_add] at this; exact this
        exact ca_mono (md_askedi a1 a2 hk h60) (fun v s' h => fin (by rw [h149] at h; exact h))
      · rw [if_pos hx]; exact ca_mono (md_askedo a1 a2 e1 hx) (fun v s' h => fin h)
end OPS2
theorem vd_ne {R : List rowT} {f l : List Nat} {r : Int32} {c : Nat} : ¬ (x_vd R f r l c).2 = [] := by
  unfold x_vd
  split
  · intro z; have := congrArg List.length z; rw [nmp_len] at this; exact absurd this (by show ¬ 7 + _ = 0; omega)
  · intro z; have := congrArg List.length z; rw [nmp_len] at this; exact absurd this (by show ¬ 7 + _ = 0; omega)
section OPS3
variable {L : Nat} {xs : Nat → Int32} {d : Nat} {s : mg_s} {p : Nat → Nat} {l : List Nat} {R : List rowT} {A : List Nat} {K : kT}
def v_la (K : kT) (w : Int32) : Int32 := match K with
  | none => -1
  | some k => if w = 0 then nI k.1 else if w = 1 then nI k.2.1.1 else if w = 2 then nI k.2.1.2.1 else if w = 3 then k.2.1.2.2.1 else if w = 4 then nI k.2.1.2.2.2.1 else -1
theorem la_cases (w : Int32) : w = 0 ∨ w = 1 ∨ w = 2 ∨ w = 3 ∨ w = 4 ∨ ((¬ w = 0 ∧ ¬ w = 1 ∧ ¬ w = 2 ∧ ¬ w = 3 ∧ ¬ w = 4) ∧ (w.toInt < 0 ∨ 4 < w.toInt)) := by
  rcases in_cases w (n := 5) (by omega) with ⟨k, hk, rfl⟩ | hx
  · rcases (show k = 0 ∨ k = 1 ∨ k = 2 ∨ k = 3 ∨ k = 4 by omega) with e | e | e | e | e
    · subst e; exact Or.inl rfl
    · subst e; exact Or.inr (Or.inl rfl)
    · subst e; exact Or.inr (Or.inr (Or.inl rfl))
    · subst e; exact Or.inr (Or.inr (Or.inr (Or.inl rfl)))
    · subst e; exact Or.inr (Or.inr (Or.inr (Or.inr (Or.inl rfl))))
  · refine Or.inr (Or.inr (Or.inr (Or.inr (Or.inr ⟨⟨?_, ?_, ?_, ?_, ?_⟩, ?_⟩))))
    · intro e; subst e; exact absurd hx (by decide)
    · intro e; subst e; exact absurd hx (by decide)
    · intro e; subst e; exact absurd hx (by decide)
    · intro e; subst e; exact absurd hx (by decide)
    · intro e; subst e; exact absurd hx (by decide)
    · rcases hx with z | z
      · left; have := Int32.lt_iff_toInt_lt.mp z; exact this
      · right; have := Int32.le_iff_toInt_le.mp z; have e : (nI 5).toInt = 5 := by decide
        omega
theorem cl_latest {w : Int32} (hO : RO l K) (hC : RC s p l R A K) : ca L xs (d + 2) 22 [.ref 0, .int w] s (fun v s' => v = some (.int (v_la K w)) ∧ s = s') := by
  have hk := hC.2.2.2.2
  cases K with
  | none =>
    have h5 : s.1 87 5 = -1 := hk
    show ca L xs (d + 2) 22 [.ref 0, .int w] s (fun v s' => v = some (.int (-1)) ∧ s = s')
    rcases la_cases w with e | e | e | e | e | e
    · subst e; refine ca_mono gd_latest0 ?_; rw [if_pos h5]; exact fun _ _ h => h
    · subst e; refine ca_mono gd_latest1 ?_; rw [if_pos h5]; exact fun _ _ h => h
    · subst e; refine ca_mono gd_latest2 ?_; rw [if_pos h5]; exact fun _ _ h => h
    · subst e; refine ca_mono gd_latest3 ?_; rw [if_pos h5]; exact fun _ _ h => h
    · subst e; refine ca_mono gd_latest4 ?_; rw [if_pos h5]; exact fun _ _ h => h
    · refine ca_mono (gd_latesto e.2) ?_; rw [if_pos h5]; exact fun _ _ h => h
  | some k =>
    obtain ⟨h5, h6, h7, h8, h9, _⟩ := hk
    have hr := (hO.2.2 k rfl).1
    have hn : ¬ s.1 87 5 = -1 := by rw [h5]; exact nI_neg1 (by omega)
    unfold v_la
    dsimp only
    rcases la_cases w with e | e | e | e | e | e
    · subst e; refine ca_mono gd_latest0 ?_; rw [if_neg hn, h5, if_pos rfl]; exact fun _ _ h => h
    · subst e; refine ca_mono gd_latest1 ?_; rw [if_neg hn, h6, if_neg (by decide), if_pos rfl]; exact fun _ _ h => h
    · subst e; refine ca_mono gd_latest2 ?_; rw [if_neg hn, h7, if_neg (by decide), if_neg (by decide), if_pos rfl]; exact fun _ _ h => h
    · subst e; refine ca_mono gd_latest3 ?_; rw [if_neg hn, h8, if_neg (by decide), if_neg (by decide), if_neg (by decide), if_pos rfl]; exact fun _ _ h => h
    · subst e; refine ca_mono gd_latest4 ?_; rw [if_neg hn, h9, if_neg (by decide), if_neg (by decide), if_neg (by decide), if_neg (by decide), if_pos rfl]; exact fun _ _ h => h
    · obtain ⟨⟨n0, n1, n2, n3, n4⟩, e2⟩ := e
      refine ca_mono (gd_latesto e2) ?_; rw [if_neg hn, if_neg n0, if_neg n1, if_neg n2, if_neg n3, if_neg n4]; exact fun _ _ h => h
theorem ml_latest {w : Int32} (hC : RC s p l R A K) (hM : RM s l R A K) : ca L xs (d + 1) 153 [.ref 141, .int w] s (fun v s' => v = some (.int (v_la K w)) ∧ RC s' p l R A K ∧ RM s' l R A K) := by
  have fin : ∀ {v : Option Value} {w : Int32} {s' : mg_s}, (v = some (.int w) ∧ mg_I s 141 0 0 = s') → v = some (.int w) ∧ RC s' p l R A K ∧ RM s' l R A K := by
    rintro v w _ ⟨h1, rfl⟩
    exact ⟨h1, RC_0 hC, RM_0 hM⟩
  have hk := hM.2.2.2.2
  cases K with
  | none =>
    have h5 : s.1 141 34 = 0 := hk
    show ca L xs (d + 1) 153 [.ref 141, .int w] s (fun v s' => v = some (.int (-1)) ∧ RC s' p l R A none ∧ RM s' l R A none)
    rcases la_cases w with e | e | e | e | e | e
    · subst e; refine ca_mono md_latest0 ?_; rw [if_pos h5]; exact fun _ _ h => fin h
    · subst e; refine ca_mono md_latest1 ?_; rw [if_pos h5]; exact fun _ _ h => fin h
    · subst e; refine ca_mono md_latest2 ?_; rw [if_pos h5]; exact fun _ _ h => fin h
    · subst e; refine ca_mono md_latest3 ?_; rw [if_pos h5]; exact fun _ _ h => fin h
    · subst e; refine ca_mono md_latest4 ?_; rw [if_pos h5]; exact fun _ _ h => fin h
    · refine ca_mono (md_latesto e.1.1 e.1.2.1 e.1.2.2.1 e.1.2.2.2.1 e.1.2.2.2.2) ?_; rw [if_pos h5]; exact fun _ _ h => fin h
  | some k =>
    obtain ⟨h34, h5, h6, h7, h8, h9, _⟩ := hk
    have hn : ¬ s.1 141 34 = 0 := by rw [h34]; decide
    unfold v_la
    dsimp only
    rcases la_cases w with e | e | e | e | e | e
    · subst e; refine ca_mono md_latest0 ?_; rw [if_neg hn, h5, if_pos rfl]; exact fun _ _ h => fin h
    · subst e; refine ca_mono md_latest1 ?_; rw [if_neg hn, h6, if_neg (by decide), if_pos rfl]; exact fun _ _ h => fin h
    · subst e; refine ca_mono md_latest2 ?_; rw [if_neg hn, h7, if_neg (by decide), if_neg (by decide), if_pos rfl]; exact fun _ _ h => fin h
    · subst e; refine ca_mono md_latest3 ?_; rw [if_neg hn, h8, if_neg (by decide), if_neg (by decide), if_neg (by decide), if_pos rfl]; exact fun _ _ h => fin h
    · subst e; refine ca_mono md_latest4 ?_; rw [if_neg hn, h9, if_neg (by decide), if_neg (by decide), if_neg (by decide), if_neg (by decide), if_pos rfl]; exact fun _ _ h => fin h
    · obtain ⟨⟨n0, n1, n2, n3, n4⟩, e2⟩ := e
      refine ca_mono (md_latesto n0 n1 n2 n3 n4) ?_; rw [if_neg hn, if_neg n0, if_neg n1, if_neg n2, if_neg n3, if_neg n4]; exact fun _ _ h => fin h
/-- a call that may throw: the class's answer or what it throws, the reference's alike -/
def opx (B L : Nat) (xs : Nat → Int32) (D mj mk : Nat) (x : Int32) (s : mg_s) (p : Nat → Nat) (l : List Nat) (R : List rowT) (A : List Nat) (K : kT) : Prop := ∃ (o : Nat) (V : Int32) (l' : List Nat) (R' : List rowT) (A' : List Nat) (K' : kT), o ≤ B ∧ RO l' K' ∧ ((o = 0 ∧ ca L xs D mj [.ref 0, .int x] s (fun v s' => v = some (.int V) ∧ RC s' p l' R' A' K' ∧ RM s' l R A K)) ∨ (1 ≤ o ∧ l' = l ∧ R' = R ∧ A' = A ∧ K' = K ∧ th L xs D mj [.ref 0, .int x] s o)) ∧ ∀ s1, RC s1 p l' R' A' K' → RM s1 l R A K → ca L xs D mk [.ref 141, .int x] s1 (fun v s' => (∃ V2, v = some (.int V2) ∧ (o = 0 → V2 = V)) ∧ s'.1 141 0 = nI o ∧ s'.2.2 = s1.2.2 ∧ RC s' p l' R' A' K' ∧ RM s' l' R' A' K')
theorem op_row (x : Int32) (hO : RO l K) (hC : RC s p l R A K) (hM : RM s l R A K) : opx 2 L xs (d + 65) 35 109 x s p l R A K := by
  have hR16 := hC.2.1.2.1
  rcases in_cases x (n := 5) (by omega) with ⟨kd, hk, rfl⟩ | hx
  · cases hok : t_ok l kd with
    | false =>
      refine ⟨1, 0, l, R, A, K, by omega, hO, Or.inr ⟨by omega, rfl, rfl, rfl, rfl, gd_row_t1 (d := d + 60) hC.1 (by omega) hok⟩, fun s1 c1 m1 => ?_⟩
      refine ca_mono (md_row_a (d := d + 61) m1.2.2.1 (by omega) m1.1 m1.2.1 hO.1 hok) (fun v s' h => ?_)
      obtain ⟨a1, a2, a3⟩ := h
      exact ⟨⟨_, a1, fun z => absurd z (by decide)⟩, a2, a3.2.2.2, RC_m c1 a3 (by decide), RM_m m1 a3 ((a3.2.1 1 (by decide)).trans m1.1) (a3.hold (by decide) m1.2.1) (by decide) (by decide)⟩
    | true =>
      by_cases hf : R.length = 16
      · refine ⟨2, 0, l, R, A, K, by omega, hO, Or.inr ⟨by omega, rfl, rfl, rfl, rfl, gd_row_t2 (d := d + 60) hC.2.1 hC.1 (by omega) hok hf⟩, fun s1 c1 m1 => ?_⟩
        refine ca_mono (md_row_b (d := d + 61) m1.2.2.1 (by omega) m1.1 m1.2.1 hO.1 hok hf) (fun v s' h => ?_)
        obtain ⟨a1, a2, a3⟩ := h
        exact ⟨⟨_, a1, fun z => absurd z (by decide)⟩, a2, a3.2.2.2, RC_m c1 a3 (by decide), RM_m m1 a3 ((a3.2.1 1 (by decide)).trans m1.1) (a3.hold (by decide) m1.2.1) (by decide) (by decide)⟩
      · refine ⟨0, nI (R.length + 1), [], R ++ [t_row l kd (t_end l)], A, K, by omega, ro_nil hO, Or.inl ⟨rfl, ?_⟩, fun s1 c1 m1 => ?_⟩
        · refine ca_mono (gd_row2 (d := d + 59) hC.2.1 (by omega) hC.1 (by omega) hok) (fun v s' h => ?_)
          obtain ⟨a1, a2, s1, a3, a4, a5, a6⟩ := h
          refine ⟨by rw [a1, List.length_append]; rfl, ⟨a6.has, a2, a6.other (by decide) (hold_of hC.2.2.1 a4 a5), by rw [a6.r, a3.2]; exact hC.2.2.2.1, RCk_of hC.2.2.2.2 (fun k _ _ => by rw [a6.i (by decide), (a3.1 87 (by omega)).1]) ((a6.i (by decide)).trans (a3.1 94 (by omega)).1) ((a6.a (by decide)).trans (a3.1 95 (by omega)).2)⟩, RM_of hM ((a6.i (by decide)).trans (a3.1 141 (by omega)).1) (fun a q1 q2 => (a6.a (by omega)).trans (a3.1 a (by omega)).2)⟩
        · refine ca_mono (md_row (d := d + 61) m1.2.2.1 (by omega) m1.1 m1.2.1 hO.1 hok (by omega) hO.2.1) (fun v s' h => ?_)
          obtain ⟨a1, a2, a3, a4, a5⟩ := h
          exact ⟨⟨_, a1, fun _ => rfl⟩, a2, a5.2.2.2, RC_m c1 a5 (by decide), a3, ⟨fun x hx => (by cases hx), fun i hi => absurd hi (by show ¬ i < 0; omega)⟩, a4, RMa_of m1.2.2.2.1 (a5.2.1 14 (by decide)) (a5.2.1 12 (by decide)) (a5.2.2.1 149 (by decide)), RMk_of m1.2.2.2.2 (fun k q1 q2 => a5.2.1 k (fun z => by simp at z; omega)) (a5.2.2.1 163 (by decide))⟩
  · have hx1 : x.toInt < 0 ∨ 4 < x.toInt := by
      rcases hx with z | z
      · left; exact Int32.lt_iff_toInt_lt.mp z
      · right; have := Int32.le_iff_toInt_le.mp z; have e : (nI 5).toInt = 5 := by decide
        omega
    have hx2 : x < 0 ∨ 4 < x := by
      rcases hx1 with z | z
      · exact Or.inl (Int32.lt_iff_toInt_lt.mpr z)
      · exact Or.inr (Int32.lt_iff_toInt_lt.mpr z)
    refine ⟨1, 0, l, R, A, K, by omega, hO, Or.inr ⟨by omega, rfl, rfl, rfl, rfl, gd_row_tx (d := d + 60) hC.1 hx1⟩, fun s1 c1 m1 => ?_⟩
    refine ca_mono (md_row_x (d := d + 64) hx2) ?_
    rintro _ _ ⟨rfl, rfl⟩
    exact ⟨⟨_, rfl, fun z => absurd z (by decide)⟩, rfl, rfl, RC_0 c1, RM_0 m1⟩
theorem tab_ok {s : mg_s} {R : List rowT} (T : isTabM s R) : ∀ q ∈ R, okrow q := fun q hq => by
  obtain ⟨k, hk, e⟩ := List.getElem_of_mem hq
  exact (T.2.2 k q (by rw [List.getElem?_eq_getElem hk, e])).2
theorem op_check (x : Int32) (hO : RO l K) (hC : RC s p l R A K) (hM : RM s l R A K) : opx 1 L xs (d + 65) 45 116 x s p l R A K := by
  cases hN : t_name (gl l) 0 l.length with
  | false =>
    refine ⟨1, 0, l, R, A, K, by omega, hO, Or.inr ⟨by omega, rfl, rfl, rfl, rfl, gd_check_t1 (d := d + 61) hC.1 hN⟩, fun s1 c1 m1 => ?_⟩
    refine ca_mono (md_checkF (d := d + 54) m1.1 m1.2.1 hO.1 hN) ?_
    rintro _ _ ⟨rfl, rfl⟩
    exact ⟨⟨_, rfl, fun z => absurd z (by decide)⟩, rfl, rfl, RC_0 c1, RM_0 m1⟩
  | true =>
    have hv := ok_ev (E := (R, x, f_adr x, l)) 10 0 l (0, 0, -1, 0, []) ⟨Nat.zero_le _, Nat.zero_le _⟩
    have g1 := gd_check (L := L) (xs := xs) (d := d) (adr := x) hC.2.1 (tab_ok hM.2.2.1) hC.1 hN hC.2.2.2.1
    have g2 := fun s1 (m1 : RM s1 l R A K) => md_checkT (L := L) (xs := xs) (d := d + 54) (s := s1) (a := x) m1.1 m1.2.1 hO.1 hN m1.2.2.1
    generalize x_ev (R, x, f_adr x, l) 10 0 l (0, 0, -1, 0, []) = rr at hv g1 g2
    refine ⟨0, nI rr.1, [], R, rr.2.2.2.2.2, some (rr.1, rr.2, l), by omega, ⟨Nat.zero_le _, fun x hx => (by cases hx), fun k hk => by cases hk; exact ⟨hv.1, hN⟩⟩, Or.inl ⟨rfl, ?_⟩, fun s1 c1 m1 => ?_⟩
    · refine ca_mono g1 (fun v s' h => ?_)
      obtain ⟨a1, a2, a3, a4, a5, a6, a7, a8⟩ := h
      exact ⟨a1, ⟨a2, a3, a4.2.2.2.2, by rw [a8]; exact hC.2.2.2.1, a5, a4.1, a4.2.1, a4.2.2.1, a4.2.2.2.1, a6⟩, RM_of hM (a7 141 (by omega)).1 (fun a q1 _ => (a7 a (by omega)).2)⟩
    · refine ca_mono (g2 s1 m1) (fun v s' h => ?_)
      obtain ⟨a1, a2, a3, a4, a5, a6, a7, a8⟩ := h
      exact ⟨⟨_, a1, fun _ => rfl⟩, a3, a2.2.2.2, RC_m c1 a2 (by decide), a4, ⟨fun x hx => (by cases hx), fun i hi => absurd hi (by show ¬ i < 0; omega)⟩, a7.1, ⟨a8.2.2.2.2.1, fun z => a8.2.2.2.2.2 z⟩, a5, a6, a8.1, a8.2.1, a8.2.2.1, a8.2.2.2.1, a7.2.2.1, a7.2.2.2.1⟩
theorem op_policy (x : Int32) (hO : RO l K) (hC : RC s p l R A K) (hM : RM s l R A K) : opx 2 L xs (d + 65) 86 155 x s p l R A K := by
  have thr : ∀ {o : Nat}, 1 ≤ o → o ≤ 2 → th L xs (d + 65) 86 [.ref 0, .int x] s o → (∀ s1, RM s1 l R A K → ca L xs (d + 65) 155 [.ref 141, .int x] s1 (fun v s' => v = some (.int 0) ∧ mg_I s1 141 0 (nI o) = s')) → opx 2 L xs (d + 65) 86 155 x s p l R A K := fun {o} h1 h2 ht hm => by
    refine ⟨o, 0, l, R, A, K, h2, hO, Or.inr ⟨h1, rfl, rfl, rfl, rfl, ht⟩, fun s1 c1 m1 => ?_⟩
    refine ca_mono (hm s1 m1) ?_
    rintro _ _ ⟨rfl, rfl⟩
    exact ⟨⟨_, rfl, fun z => absurd z (by omega)⟩, rfl, rfl, RC_0 c1, RM_0 m1⟩
  cases hN : t_name (gl l) 0 l.length with
  | false => exact thr (o := 1) (by omega) (by omega) (gd_policy_t1 (d := d + 61) hC.1 hN) (fun s1 m1 => md_policyN (d := d + 56) m1.1 m1.2.1 hO.1 hN)
  | true =>
    rcases in_cases x (n := 100) (by omega) with ⟨ch, hch, rfl⟩ | hx
    · cases hK : K with
      | none =>
        subst hK
        exact thr (o := 2) (by omega) (by omega) (gd_policy_t2 (d := d + 61) hC.1 hN (by omega) hC.2.2.2.2) (fun s1 m1 => md_policyU (d := d + 56) m1.1 m1.2.1 hO.1 hN (by omega) m1.2.2.2.2)
      | some k =>
        subst hK
        have hk := hO.2.2 k rfl
        have hfl := t_name_len hk.2
        have g1 := gd_policy (L := L) (xs := xs) (d := d + 56) (s := s) (c := ch) (r := nI k.1) hC.2.1 hC.1 hN hC.2.2.2.2.2.2.2.2.2 hC.2.2.2.2.1 (nI_neg1 (by omega)) (hC.2.2.2.1 0 (by omega)) (by omega)
        have g2 := fun s1 (m1 : RM s1 l R A (some k)) => md_policyT (L := L) (xs := xs) (d := d + 56) (s := s1) (ch := ch) (rs := nI k.1) (fst := k.2.2) m1.1 m1.2.1 hO.1 hN (by omega) m1.2.2.2.2.1 m1.2.2.2.2.2.2.2.2.2.2.2 (by omega) (by omega) m1.2.2.2.2.2.2.2.2.2.2.1 m1.2.2.2.2.2.1 m1.2.2.1
        have hne : ¬ (x_vd R k.2.2 (nI k.1) l ch).2 = [] := vd_ne
        generalize x_vd R k.2.2 (nI k.1) l ch = rr at g1 g2 hne
        refine ⟨0, rr.1, [], R, rr.2, some k, by omega, ⟨Nat.zero_le _, fun x hx => (by cases hx), hO.2.2⟩, Or.inl ⟨rfl, ?_⟩, fun s1 c1 m1 => ?_⟩
        · refine ca_mono g1 (fun v s' h => ?_)
          obtain ⟨a1, s1, a2, a3⟩ := h
          refine ⟨a1, ⟨a3.has, tset_tab a3 (Or.inl (by decide)) (by decide) (isTab_of hC.2.1 (a2.1 3 (by decide) (by decide) (by decide)) (fun a q1 q2 => ⟨a2.1 a (by omega) (by omega) (by omega), a2.2.1 a (by omega) (by omega)⟩) (by rw [a2.2.2.1])), a3.other (by decide) a2.2.2.2, by rw [a3.r, a2.2.2.1]; exact hC.2.2.2.1, RCk_of hC.2.2.2.2 (fun k _ _ => by rw [a3.i (by decide), a2.1 87 (by decide) (by decide) (by decide)]) ((a3.i (by decide)).trans (a2.1 94 (by decide) (by decide) (by decide))) ((a3.a (by decide)).trans (a2.2.1 95 (by decide) (by decide)))⟩, RM_of hM ((a3.i (by decide)).trans (a2.1 141 (by decide) (by decide) (by decide))) (fun a q1 q2 => (a3.a (by omega)).trans (a2.2.1 a (by omega) (by omega)))⟩
        · refine ca_mono (g2 s1 m1) (fun v s' h => ?_)
          obtain ⟨a1, a2, a3, a4, a5⟩ := h
          exact ⟨⟨_, a1, fun _ => rfl⟩, a3, a2.2.2.2, RC_m c1 a2 (by decide), a4, ⟨fun x hx => (by cases hx), fun i hi => absurd hi (by show ¬ i < 0; omega)⟩, a2.tab (by decide) tab_no2 m1.2.2.1, ⟨fun z => absurd z hne, fun _ => a5⟩, RMk_of m1.2.2.2.2 (fun k q1 q2 => a2.2.1 k (fun z => by simp at z; omega)) (a2.2.2.1 163 (by decide))⟩
    · have hx1 : x < 0 ∨ 99 < x := by
        rcases hx with z | z
        · exact Or.inl z
        · right; have := Int32.le_iff_toInt_le.mp z; have e : (nI 100).toInt = 100 := by decide
          exact Int32.lt_iff_toInt_lt.mpr (by have e9 : (99 : Int32).toInt = 99 := by decide
                                              omega)
      refine thr (o := 1) (by omega) (by omega) (gd_policy_t1n (d := d + 61) hC.1 hN hx1) (fun s1 m1 => ?_)
      by_cases h0 : x < 0
      · exact md_policyL (d := d + 56) m1.1 m1.2.1 hO.1 hN h0
      · exact md_policyG (d := d + 56) m1.1 m1.2.1 hO.1 hN h0 (fun z => absurd (hx1.resolve_left h0) (Int32.not_lt.mpr z))
end OPS3
