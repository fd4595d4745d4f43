/-! a text is set: what is kept, what is there -/
theorem gd_l {l m : List Nat} {i : Nat} (h : i < l.length) : (l ++ m).getD i 0 = l.getD i 0 := by
  rw [List.getD_eq_getElem?_getD, List.getD_eq_getElem?_getD, List.getElem?_append_left h]
theorem gd_r {l m : List Nat} {i : Nat} (h : l.length ≤ i) : (l ++ m).getD i 0 = m.getD (i - l.length) 0 := by
  rw [List.getD_eq_getElem?_getD, List.getD_eq_getElem?_getD, List.getElem?_append_right h]
theorem ca_mono {L : Nat} {xs : Nat → Int32} {d mj : Nat} {av : List Value} {s : mg_s} {Q Q' : Option Value → mg_s → Prop} (h : ca L xs d mj av s Q) (k : ∀ v s', Q v s' → Q' v s') : ca L xs d mj av s Q' := by
  intro h0 S
  obtain ⟨v, s', h', g, q1, q2, q3, q4⟩ := h h0 S
  exact ⟨v, s', h', g, q1, q2, q3, k v s' q4⟩
theorem wp_mono {L : Nat} {xs : Nat → Int32} {d mi pc : Nat} {ls : ax_L} {st : List Value} {s : mg_s} {Q Q' : Option Value → mg_s → Prop} (h : wp L xs d mi pc ls st s Q) (k : ∀ v s', Q v s' → Q' v s') : wp L xs d mi pc ls st s Q' := by
  intro h0 S
  obtain ⟨v, s', h', g, q1, q2, q3, q4⟩ := h h0 S
  exact ⟨v, s', h', g, q1, q2, q3, k v s' q4⟩
theorem ca_deep {L : Nat} {xs : Nat → Int32} {d d' mj : Nat} {av : List Value} {s : mg_s} {Q : Option Value → mg_s → Prop} (hd : d ≤ d') (h : ca L xs d mj av s Q) : ca L xs d' mj av s Q := by
  intro h0 S
  obtain ⟨v, s', h', g, q⟩ := h h0 S
  exact ⟨v, s', h', ag_deep hd g, q⟩
/-- from s to s' the text a has been set to l, nothing else has changed -/
def tset (s : mg_s) (a : Nat) (l : List Nat) (s' : mg_s) : Prop := ∃ f, mg_T s a f l.length = s' ∧ l.length ≤ tlim a ∧ okc l ∧ ∀ i, i < l.length → f i = nI (gl l i)
theorem tset.has {s s' : mg_s} {a : Nat} {l : List Nat} (h : tset s a l s') : hold s' a l := by
  obtain ⟨f, rfl, h1, h2, h3⟩ := h
  refine ⟨mg_T_own h1, h2, fun i hi => ?_⟩
  show (if a + 1 = a + 1 then f else s.2.1 (a + 1)) i = _
  rw [if_pos rfl]
  exact h3 i hi
theorem tset.i {s s' : mg_s} {a b : Nat} {l : List Nat} (h : tset s a l s') (hb : ¬ b = a) : s'.1 b = s.1 b := by
  obtain ⟨f, rfl, -⟩ := h
  exact if_neg hb
theorem tset.a {s s' : mg_s} {a b : Nat} {l : List Nat} (h : tset s a l s') (hb : ¬ b = a + 1) : s'.2.1 b = s.2.1 b := by
  obtain ⟨f, rfl, -⟩ := h
  exact if_neg hb
theorem tset.r {s s' : mg_s} {a : Nat} {l : List Nat} (h : tset s a l s') : s'.2.2 = s.2.2 := by
  obtain ⟨f, rfl, -⟩ := h
  rfl
theorem tset.other {s s' : mg_s} {a b : Nat} {l m : List Nat} (h : tset s a l s') (hb : ¬ b = a) (hm : hold s b m) : hold s' b m := hold_of hm (h.i hb) (h.a (by omega))
theorem tset.trans {s s1 s2 : mg_s} {a : Nat} {l m : List Nat} (h : tset s a l s1) (k : tset s1 a m s2) : tset s a m s2 := by
  obtain ⟨f, rfl, -⟩ := h
  obtain ⟨g, rfl, k1⟩ := k
  exact ⟨g, (mg_T_T s a l.length m.length f g).symm ▸ rfl, k1⟩
theorem okc_nil : okc [] := fun x h => by cases h
theorem okc_app {l m : List Nat} (h : okc l) (k : okc m) : okc (l ++ m) := fun x hx => by
  rcases List.mem_append.mp hx with q | q
  · exact h x q
  · exact k x q
theorem okc_sub {l m : List Nat} (h : okc l) (k : ∀ x ∈ m, x ∈ l) : okc m := fun x hx => h x (k x hx)
section TS
variable {L : Nat} {xs : Nat → Int32} {d a b : Nat} {s : mg_s}
theorem ts_clear (H : isT a) : ca L xs (d + 1) 18 [.ref a] s (fun v s' => v = none ∧ tset s a [] s') :=
  ca_mono (tx_clear H) (fun v s' h => ⟨h.1, s.2.1 (a + 1), h.2, Nat.zero_le _, okc_nil, fun i hi => absurd hi (Nat.not_lt_zero i)⟩)
theorem ts_add {l : List Nat} {c : Nat} (H : isT a) (hn : hold s a l) (hc : c < 128) : ca L xs (d + 1) 16 [.ref a, .int (nI c)] s (fun v s' => v = none ∧ tset s a (if l.length < tlim a then l ++ [c] else l) s') := by
  refine ca_mono (tx_add H hn.1 (by omega)) (fun v s' h => ⟨h.1, ?_⟩)
  have h2 := h.2
  by_cases e : l.length < tlim a
  · rw [if_pos e] at h2 ⊢
    refine ⟨upd (s.2.1 (a + 1)) l.length (nI c), ?_, ?_, okc_app hn.2.1 (fun x hx => by rw [List.mem_singleton] at hx; omega), fun i hi => ?_⟩
    · rw [List.length_append, List.length_singleton]; exact h2
    · rw [List.length_append, List.length_singleton]; omega
    · rw [List.length_append, List.length_singleton] at hi
      unfold upd gl
      by_cases e2 : i = l.length
      · rw [if_pos e2, e2, gd_r (Nat.le_refl _)]; simp
      · rw [if_neg e2, gd_l (by omega)]; exact hn.2.2 i (by omega)
  · rw [if_neg e] at h2 ⊢
    refine ⟨s.2.1 (a + 1), ?_, hn.1.2, hn.2.1, hn.2.2⟩
    rw [mg_T_self hn.1.1]; exact h2
/-- the letters from i up to j -/
def seg (l : List Nat) (i j : Nat) : List Nat := (l.take j).drop i
theorem seg_len (l : List Nat) (i j : Nat) : (seg l i j).length = min j l.length - i := by unfold seg; simp
theorem seg_gl {l : List Nat} {i j q : Nat} (h : q < (seg l i j).length) : gl (seg l i j) q = gl l (i + q) := by
  rw [seg_len] at h
  unfold gl seg
  rw [List.getD_eq_getElem?_getD, List.getD_eq_getElem?_getD, List.getElem?_drop, List.getElem?_take_of_lt (by omega)]
theorem ts_addPart {l m : List Nat} {fr to : Nat} (H : isT a) (hn : hold s a l) (H2 : isT b) (hm : hold s b m) (hne : ¬ b = a) (hto : to < 2 ^ 30) (hf : fr < 2 ^ 30) : ca L xs (d + 1) 44 [.ref a, .ref b, .int (nI fr), .int (nI to)] s (fun v s' => v = none ∧ tset s a ((l ++ seg m fr to).take (tlim a)) s') := by
  refine ca_mono (tx_addPart H hn.1 H2 hm.1 hne hto hf) (fun v s' h => ⟨h.1, ?_⟩)
  have h2 := h.2
  have hlt := hn.1.2
  rw [s_app_eq hne _ _ _ _ hn.1.1] at h2
  have hl : ((l ++ seg m fr to).take (tlim a)).length = l.length + min (min to m.length - fr) (tlim a - l.length) := by
    rw [List.length_take, List.length_append, seg_len]; omega
  refine ⟨_, by rw [hl]; exact h2, by rw [List.length_take]; omega, okc_sub (okc_app hn.2.1 (okc_sub hm.2.1 (fun x hx => List.mem_of_mem_take (List.mem_of_mem_drop hx)))) (fun x hx => List.mem_of_mem_take hx), fun i hi => ?_⟩
  rw [hl] at hi
  have e0 : gl ((l ++ seg m fr to).take (tlim a)) i = gl (l ++ seg m fr to) i := by
    unfold gl
    rw [List.getD_eq_getElem?_getD, List.getD_eq_getElem?_getD, List.getElem?_take_of_lt (by omega)]
  rw [e0]
  unfold t_app
  by_cases e : l.length ≤ i
  · rw [if_pos ⟨e, by omega⟩, hold_at hm]
    have e1 : gl (l ++ seg m fr to) i = gl (seg m fr to) (i - l.length) := by
      unfold gl
      rw [gd_r e]
    rw [e1, seg_gl (by rw [seg_len]; omega)]
  · rw [if_neg (by omega)]
    have e1 : gl (l ++ seg m fr to) i = gl l i := by
      unfold gl
      rw [gd_l (by omega)]
    rw [e1]
    exact hn.2.2 i (by omega)
end TS
