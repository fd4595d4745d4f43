/-! the primitives: String constants, their length and letters, Math.min, Math.max -/
section AX3f
variable {p : Program} {l : Launch} {e : Env} {R : Room} {s : State} {m : MethodId} {args : Array Value} {below : List Frame} {meth : Method} {c : Code} {H : Heap} {locs : List Loc} {cells slots : Nat} {Q : State → Prop}
variable {pc w : Nat} {b : Nat} {as : Nat → Nat} {a : Array Slot} {ls : ax_L} {T : ax_T} {TB : List Jvm.Cond} {D : va_G} {tA : Nat → ClassId} {mi : Nat} {h : ax_H}
/-- what a String's method begins with, and how it ends -/
def ax_sP (b : Nat) (as : Nat → Nat) (T : ax_T) (D : va_G) (tA : Nat → ClassId) (h : ax_H) (U : State) : Prop := ax_R b as D (ax_cl T) tA h U.heap ∧ ax_ro b as T U U.heap
def ax_sQ (b : Nat) (as : Nat → Nat) (T : ax_T) (D : va_G) (tA : Nat → ClassId) (h : ax_H) (v : Value) (_ : Array Value) (st : State) (o : Outcome) (t : State) : Prop := o = .returned (some v) ∧ ax_R b as D (ax_cl T) tA h t.heap ∧ va_F (fun q => b ≤ q) st t ∧ ax_E h.2.2.2 h st.heap t.heap
theorem ax_sQ_of {v : Value} {A : Array Value} {st t : State} {o : Outcome} (hp : ax_sP b as T D tA h st) (ho : o = .returned (some v)) (ht : t.heap = st.heap) : ax_sQ b as T D tA h v A st o t := by
  refine ⟨ho, by rw [ht]; exact hp.1, ⟨by rw [ht]; exact Nat.le_refl _, fun q _ _ => by rw [ht]⟩, Nat.le_refl _, fun _ q _ => by rw [ht]⟩
theorem ax_sB (av : List Value) : FrameBlind (va_Pc av (ax_sP b as T D tA h)) := by
  intro A U g mk q
  exact ⟨q.1, q.2.1, ax_ro.same (u := U) (U := U.calling g mk A) rfl q.2.2⟩
theorem ax_sk {a0 : Nat} {q : String × Nat × String × List Nat} {U : State} {H : Heap} (hX : ax_ro b as T U H) (hb : ax_big < a0) (hq : ax_str[a0 - ax_big - 1]? = some q) : sx_k b (as a0) q.2.2.2 U H := by
  have h1 := (hX.2.2.2.1.2.2 (a0 - ax_big - 1) q hq).2
  rw [show ax_big + 1 + (a0 - ax_big - 1) = a0 by omega] at h1
  exact h1
theorem ax_sV {a0 : Nat} {q : String × Nat × String × List Nat} (hAs : ax_As b as) (hX : ax_ro b as T s s.heap) (hR : ax_R b as D (ax_cl T) tA h H) (hS : va_S (fun q => b ≤ q) s.heap H locs) (hb : ax_big < a0) (hq : ax_str[a0 - ax_big - 1]? = some q) (av : List Value) :
    PreV s H Lib.str (as a0) (va_Pc (.ref (as a0) :: av) (ax_sP b as T D tA h)) av := by
  have hX1 := hX.kept hAs hS.2.1
  obtain ⟨h1, ⟨cell, kA, c1, c2, c3, c4, c5⟩, -⟩ := ax_sk hX1 hb hq
  exact ⟨ax_sB _, ⟨cell, c1, c4, c2⟩, fun U hU hW => ⟨rfl, by rw [hU]; exact hR, by rw [hU]; exact ax_ro.moved hW hX1⟩⟩
theorem ax_pri_ok (hO : ax_ok TB T) (X : ax_X b as TB T D tA mi p s m args meth c) (hl : ax_lr as ls a) (hml : ls.length = ax_mx T mi) (hRf : 9 ≤ R.frames) (hRl : 160 ≤ R.locals) (hc : cells ≤ R.cells) (hs : slots ≤ R.slots) {i : Instr} {st st' : List Value} {pc' : Nat} (hd : decode (ax_code T mi) pc = .ok (i, ax_ml i)) (hp : ax_pri T mi i pc st = some (pc', st'))
    (k : ax_G w b as T D tA p l e R s m args below meth c cells slots Q h pc' a st') : ax_G w b as T D tA p l e R s m args below meth c cells slots Q h pc a st := by
  intro H locs hR hS hE0
  obtain ⟨hx, hb, hmx, -, -, -, -, hown, hts, hK, hX, hAs⟩ := X
  have hsize : a.size = ax_mx T mi := by rw [← hml]; exact hl.1
  have F : CallFix p m c (ax_code T mi) (ax_mx T mi) s args TB (ax_nm T mi).cls := ⟨hx, hb, hmx, hown, hts⟩
  have hws : ∀ w ∈ TB, ∀ (a' : Array Value) (U : State), s.WarmedH U.vm → w.before a' U = true := fun w hw a' U hW => hO.2.2.2.2 w hw args a' s U hW (hts w hw)
  unfold ax_pri at hp
  split at hp
  · rename_i idx
    split at hp
    · rename_i hk
      cases hp
      have hE := hO.2.1 mi idx
      generalize hg : ax_pl T mi idx = x at *
      obtain ⟨x1, k0, x3⟩ := x
      dsimp only at hk k ⊢
      subst hk
      simp only [ax_okE] at hE
      obtain ⟨q, hq, q1, q2⟩ := hE
      have hv := (hX.2.2.2.1.2.2 k0 q hq).1
      rw [q1, q2] at hv
      exact va_ldcS hx hb hown hv hd (k H locs hR hS hE0)
    · cases hp
  · rename_i idx a0 r
    split at hp
    · rename_i hk
      obtain ⟨hk1, hk2, hk3⟩ := hk
      rw [Option.map_eq_some_iff] at hp
      obtain ⟨q, hq, hp⟩ := hp
      cases hp
      have hE := hO.2.1 mi idx
      generalize hg : ax_pl T mi idx = x at *
      obtain ⟨x1, x2, x3⟩ := x
      dsimp only at hk1
      subst hk1
      simp only [ax_okE] at hE
      obtain ⟨g1, g2, g3, g4⟩ := hE
      have hM : Met l Lib.Str.length.name TB (ax_rm 0 0 0) (va_Pc [.ref (as a0)] (ax_sP b as T D tA h)) (ax_sQ b as T D tA h (.int (nI q.2.2.2.length))) 0 0 (fun q => b ≤ q) := sx_len (as := as) g4 (by decide) (by decide) (fun U hU => ⟨hU.2.2.2.2.1, ax_sk hU.2 hk2 hq⟩) (fun st o t h1 h2 h3 => ax_sQ_of h1 h2 h3)
      have hcd := g4 _ (List.mem_of_getElem? (i := 0) (l := sx_wl) rfl)
      have hin := g4 _ (List.mem_of_getElem? (i := 6) (l := sx_wl) rfl)
      have cb : CallB R s args (ax_nm T mi).cls idx Lib.Str.length.name Lib.String.length.code 1 (some .int) TB (ax_rm 0 0 0) 0 0 0 :=
        ⟨rfl, rfl, by show 0 + 8 + 1 ≤ R.frames; omega, by show 8 + (1 + 11) + (40 * 0 + 120) ≤ R.locals; omega, hws, hcd, hts _ hcd, hts _ hin, ⟨by decide, by decide⟩, fun sig h => by rw [show parseMethodDescriptor Lib.Str.length.name.desc = some ⟨[], some .int⟩ from by decide +kernel] at h; cases h; rfl, hts _ g1⟩
      refine ax_callW (w := w) (h := h) (h1 := h) (b := b) (as := as) (D := D) (T := T) (tA := tA) (mc := 0) (ms := 0) (vv := some (.int (nI q.2.2.2.length))) (rest := r.map (ax_tv as)) (va_runV (n := 0) (C := Lib.str) F hM ⟨cb, hts _ g2, hts _ g3⟩ (ax_sV hAs hX hR hS hk2 hq []) rfl rfl hsize rfl (lv_room (by rw [ax_wsum]; exact hk3)) hd ⟨hc, hs⟩) hS hE0 ?_
      intro H1 locs1 r1 r2 r3
      exact k H1 locs1 r1 r2 r3
    · cases hp
  · rename_i idx j a0 r
    split at hp
    · rename_i hk
      obtain ⟨hk1, hk2, hk3, hk4⟩ := hk
      rw [Option.bind_eq_some_iff] at hp
      obtain ⟨q, hq, hp⟩ := hp
      rw [Option.map_eq_some_iff] at hp
      obtain ⟨y, hy, hp⟩ := hp
      cases hp
      have hE := hO.2.1 mi idx
      generalize hg : ax_pl T mi idx = x at *
      obtain ⟨x1, x2, x3⟩ := x
      dsimp only at hk1
      subst hk1
      simp only [ax_okE] at hE
      obtain ⟨g1, g2, g3, g4⟩ := hE
      obtain ⟨n, hn, rfl⟩ := nI_of hk4
      rw [nI_clamp hn] at hy
      have hnl : n < q.2.2.2.length := (List.getElem?_eq_some_iff.mp hy).1
      have hgd : q.2.2.2.getD n 0 = y := by simp [List.getD, hy]
      have hM : Met l Lib.Str.charAt.name TB (ax_rm 0 0 0) (va_Pc [.ref (as a0), .int (nI n)] (ax_sP b as T D tA h)) (ax_sQ b as T D tA h (.int (nI y))) 0 0 (fun q => b ≤ q) := sx_cat (as := as) g4 (by decide) (by decide) hnl (fun U hU => ⟨hU.2.2.2.2.1, ax_sk hU.2 hk2 hq⟩) (fun st o t h1 h2 h3 => by rw [hgd] at h2; exact ax_sQ_of h1 h2 h3)
      have hcd := g4 _ (List.mem_of_getElem? (i := 0) (l := sx_wc) rfl)
      have hin := g4 _ (List.mem_of_getElem? (i := 9) (l := sx_wc) rfl)
      have cb : CallB R s args (ax_nm T mi).cls idx Lib.Str.charAt.name Lib.Str.charAt.code 2 (some .char) TB (ax_rm 0 0 0) 0 0 1 :=
        ⟨rfl, rfl, by show 0 + 8 + 1 ≤ R.frames; omega, by show 8 + (2 + 11) + (40 * 0 + 120) ≤ R.locals; omega, hws, hcd, hts _ hcd, hts _ hin, ⟨by decide, by decide⟩, fun sig h => by rw [show parseMethodDescriptor Lib.Str.charAt.name.desc = some ⟨[.int], some .char⟩ from by decide +kernel] at h; cases h; rfl, hts _ g1⟩
      refine ax_callW (w := w) (h := h) (h1 := h) (b := b) (as := as) (D := D) (T := T) (tA := tA) (mc := 0) (ms := 0) (vv := some (.int (nI y))) (rest := r.map (ax_tv as)) (va_runV (n := 1) (C := Lib.str) F hM ⟨cb, hts _ g2, hts _ g3⟩ (ax_sV hAs hX hR hS hk2 hq [.int (nI n)]) rfl rfl hsize rfl (lv_room (by rw [ax_wsum]; exact hk3)) hd ⟨hc, hs⟩) hS hE0 ?_
      intro H1 locs1 r1 r2 r3
      exact k H1 locs1 r1 r2 r3
    · cases hp
  · rename_i idx y x r
    split at hp
    · rename_i hk
      have hlo : (((r.map (ax_tv as))).map (fun v => v.category)).sum + 13 ≤ R.locals := by rw [ax_wsum]; omega
      have hE := hO.2.1 mi idx
      generalize hg : ax_pl T mi idx = z at *
      obtain ⟨x1, x2, x3⟩ := z
      dsimp only at hp
      split at hp
      · rename_i h19
        subst h19
        cases hp
        simp only [ax_okE] at hE
        obtain ⟨g1, g2, g3, g4⟩ := hE
        exact va_mmin hx hb (hmx.trans hsize.symm) hown (hts _ g1) (hts _ g2) (hts _ g3) (hts _ g4) (by omega) hlo hc hs hd (k H locs hR hS hE0)
      · split at hp
        · rename_i h20
          subst h20
          cases hp
          simp only [ax_okE] at hE
          obtain ⟨g1, g2, g3, g4⟩ := hE
          exact va_mmax hx hb (hmx.trans hsize.symm) hown (hts _ g1) (hts _ g2) (hts _ g3) (hts _ g4) (by omega) hlo hc hs hd (k H locs hR hS hE0)
        · cases hp
    · cases hp
  · cases hp
end AX3f
