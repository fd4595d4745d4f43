/-- the contract of a call that throws -/
def ax_KT (TB : List Jvm.Cond) (T : ax_T) (D : va_G) (tA : Nat → ClassId) (b : Nat) (as : Nat → Nat) (l : Launch) (d mi : Nat) (av : List Value) (h : ax_H) (n : Nat) (h1 : ax_H) : Prop :=
  (h1.2.1 = h.2.1 + 1 ∧ h1.2.2.1 = h.2.2.1 + 6 ∧ h1.2.2.2 = h.2.2.2) ∧ MetFree l (ax_nm T mi) (headSpec (ax_w TB T mi) (ax_rm d 1 6)) (va_Pc (av.map (ax_tv as)) (fun U => ax_R b as D (ax_cl T) tA h U.heap ∧ va_K D (ax_cl T) (ax_tys tA T) U ∧ ax_ro b as T U U.heap)) (fun _ _ _ _ _ => True)
    (fun _ st o t => o = .threw (as (h1.2.1 - 1)) ∧ st.WarmedH t.vm ∧ st.sameButNew ({ t with vm := st.vm } : State) [] 1 6 ∧ ax_R b as D (ax_cl T) tA h1 t.heap ∧ ∃ ce : Cell, t.heap[as (h1.2.1 - 1)]? = some ce ∧ ce.vm = .none ∧ st.vm.findClass (ax_en n) = some ce.cls)
section AX3e
variable {p : Program} {l : Launch} {e : Env} {R : Room} {s : State} {m : MethodId} {args : Array Value} {below : List Frame} {meth : Method} {c : Code} {H : Heap} {locs : List Loc} {cells slots : Nat} {Q : State → Prop}
variable {pc w : Nat} {b : Nat} {as : Nat → Nat} {a : Array Slot} {ls : ax_L} {T : ax_T} {TB : List Jvm.Cond} {D : va_G} {tA : Nat → ClassId} {mi : Nat} {h : ax_H}
theorem ax_same_of {s t : State} {k n : Nat} (h : s.sameButNew t [] k n) : ∀ q : Nat, q < s.heap.size → t.heap[q]? = s.heap[q]? := by
  intro q hq
  obtain ⟨c', k1, k2, k3, k4⟩ := h.2.2.2.2.2 q _ (Array.getElem?_eq_getElem hq)
  rw [k1, Array.getElem?_eq_getElem hq]
  have k5 : c'.slots = (s.heap[q]).slots := by
    apply Array.ext_getElem?
    intro i
    exact k4 i (fun z => by cases z)
  rw [k5] at k2
  exact congrArg some k2
theorem ax_catchV (hO : ax_ok TB T) (X : ax_X b as TB T D tA mi p s m args meth c) (hl : ax_lr as ls a) (hml : ls.length = ax_mx T mi) {d : Nat} (hRf : d + 9 ≤ R.frames) (hRl : 40 * d + 160 ≤ R.locals) {i : Instr} {st av r : List Value} {mj n pc' : Nat} (hd : decode (ax_code T mi) pc = .ok (i, 3)) (hcv : ax_cv T mi i = true) (hi : ax_inv T mi i st h = some (mj, av, r)) {h1 : ax_H}
    (hM : ax_KT TB T D tA b as l d mj av h n h1) (hh : ax_hd T mi pc n = some pc') (hc : cells + 1 ≤ R.cells) (hs : slots + 6 ≤ R.slots)
    (k : ax_G w b as T D tA p l e R s m args below meth c (cells + 1) (slots + 6) Q h1 pc' a [.ref (h1.2.1 - 1)]) : ax_G w b as T D tA p l e R s m args below meth c cells slots Q h pc a st := by
  intro H locs hR hS hE0
  obtain ⟨hx, hb, hmx, -, -, htab, -, hown, hts, hK, hX, hAs⟩ := X
  have hsize : a.size = ax_mx T mi := by rw [← hml]; exact hl.1
  have hE := hO.2.1 mi
  unfold ax_cv at hcv
  split at hcv
  · rename_i idx
    have hcv : (ax_pl T mi idx).1 = 7 := by simpa using hcv
    simp only [ax_inv] at hi
    split at hi
    · rename_i q r0 hdr
      split at hi
      · rename_i ci fs hq
        split at hi
        · rename_i hk
          obtain ⟨-, hk2, hk3⟩ := hk
          cases hi
          have hE1 := hE idx
          generalize hg : ax_pl T mi idx = x at *
          obtain ⟨x1, mj, nn⟩ := x
          dsimp only at hcv hk2 hk3 hM hdr
          subst hcv
          have hst : st.map (ax_tv as) = (((st.take nn).reverse.map (ax_tv as))).reverse ++ .ref (as q) :: r.map (ax_tv as) := by
            rw [← List.map_reverse, List.reverse_reverse, show (.ref (as q) :: r.map (ax_tv as) : List Value) = (.ref q :: r).map (ax_tv as) from rfl, ← hdr, ← List.map_append, List.take_append_drop]
          have hn2 : nn ≤ st.length := by
            have := congrArg List.length hdr
            simp at this
            omega
          have hlen : ((st.take nn).reverse.map (ax_tv as)).length = nn := by simp; omega
          cases hw : (ax_cl T)[ci]? with
          | none => rw [hw] at hk2; cases hk2
          | some w0 =>
            rw [hw] at hk2
            have hk2 : w0.1 = (ax_nm T mj).cls := by simpa using hk2
            obtain ⟨cellB, hcB, hoB, hclB⟩ : ∃ cell : Cell, H[as q]? = some cell ∧ cell.vm.isStatics = false ∧ s.vm.findClass (ax_nm T mj).cls = some cell.cls := by
              rw [← hk2]
              exact va_recv hK (hR.at hq) hw (q0 := 0) rfl
            simp only [ax_okE] at hE1
            obtain ⟨g1, g2, g3, g4, g5, hm⟩ := hE1
            have hcode := hts _ hm.2.1
            have hgood := ax_words hO hts (mj := mj) (by rw [ax_cd_n hm.1]; exact hm.2.1)
            have hlink := hts _ g1
            have hinst := hts _ g2
            have hsel := hts _ g3
            intro U hU Z
            obtain ⟨mk, methM, hnamed, hmethM, hstM, habM⟩ := Cond.instanceMethod_spec hinst
            obtain ⟨methM', cM, hmethM', -, -, -, -, -, -, hsigM⟩ := Cond.code_spec hnamed hcode
            cases hmethM.symm.trans hmethM'
            obtain ⟨c2, r2, m2, q1, q2, q3, q4, kP, hkP, hkPi⟩ := Cond.selects_spec hsel
            cases hclB.symm.trans q1
            cases (State.methodFound?_of_named hnamed ⟨hm.2.2.2.1, hm.2.2.2.2⟩).symm.trans q2
            cases hnamed.symm.trans q3
            have hselP : selectMethod e.platform s.vm cellB.cls mk = .method mk := by rw [Launch.admits_selectMethod Z.admits]; exact q4
            have hln : ((st.take nn).reverse.map (ax_tv as)).length = methM.sig.parameters.length := by
              rw [hlen]
              rw [hsigM] at g5
              exact (Option.some.inj g5).symm
            obtain ⟨vm₁, Z₁, hstep₁⟩ := Z.invokevirtual hx hown hlink hnamed hmethM hstM hkP hkPi ⟨hm.2.2.2.1, hm.2.2.2.2⟩ (a := as q) (cell := cellB) (by rw [hU]; exact hcB)
              (fun z hz => by rw [hz] at hoB; cases hoB) hselP hmethM habM hkP hkPi (g := F0 m pc a (st.map (ax_tv as))) rfl (argsL := (st.take nn).reverse.map (ax_tv as)) (rest := r.map (ax_tv as)) hln hst (by rw [hb]; exact hd)
            obtain ⟨x, t, T', hq', e1, e2, Z', hsteps⟩ := ax_backT (bytes := ax_code T mj) (maxL := ax_mx T mj) (ret := ax_rt T mj) (a := (Value.ref (as q) :: (st.take nn).reverse.map (ax_tv as)).toArray) hM.2 (fun _ _ _ _ hq => ⟨_, hq.1, hq.2.1, hq.2.2.1⟩) Z₁ (g := { F0 m pc a (st.map (ax_tv as)) with stack := r.map (ax_tv as) }) rfl (by rw [hmx]; exact hsize) (by rw [hb]; exact hd) (by show d + 8 + 1 ≤ R.frames; omega) (by
              show 2 * 0 + ((r.map (ax_tv as)).map fun v => v.category).sum + (ax_mx T mj + 11) + (40 * d + 120) ≤ R.locals
              rw [ax_wsum]
              have := hm.2.2.1
              omega) (Z₁.named hnamed) (atoms_intro fun w hw => hgood w hw _ _ Z₁.warmed) (hO.2.2.2.2 _ hm.2.1 _ _ _ _ Z₁.warmed hcode) (word_at Z₁.warmed (Or.inl (by first | rfl | simp [Cond.onTables, Cond.keeps, Cond.steady])) (hts _ g4)) hc hs (by
              refine ax_blind T D tA b as (.ref q :: (st.take nn).reverse) h _ _ _ _ ⟨rfl, ?_, va_K.moved Z₁.warmed.alike hK, ?_⟩
              · show ax_R b as D (ax_cl T) tA h U.heap
                rw [hU]; exact hR
              · show ax_ro b as T _ U.heap
                rw [hU]; exact ax_ro.moved Z₁.warmed (hX.kept hAs hS.2.1))
            obtain ⟨hx1, hwx, hsx, hRx, ce, hce, hcv1, hcv2⟩ := hq'
            cases hx1
            unfold ax_hd at hh
            have hfc : s.vm.findClass (ax_en n) = some ce.cls := by
              have hal : s.vm.Alike vm₁ := Z₁.warmed.alike
              have h0 : vm₁.findClass (ax_en n) = some ce.cls := hcv2
              rw [← hal.findClass]
              exact h0
            have hnc := hX.2.2.2.2
            split at hh
            · rename_i y ys hys
              rw [hys] at htab
              obtain ⟨x0, t0, hx0, hx0y, hys2⟩ : ∃ x0 t0, c.exceptionTable.toList = x0 :: t0 ∧ (x0.startPc, x0.endPc, x0.handlerPc, x0.catchType) = y ∧ t0.map (fun h => (h.startPc, h.endPc, h.handlerPc, h.catchType)) = ys := by
                cases hl0 : c.exceptionTable.toList with
                | nil => rw [hl0] at htab; cases htab
                | cons x0 t0 => rw [hl0] at htab; exact ⟨x0, t0, rfl, (List.cons.inj htab).1, (List.cons.inj htab).2⟩
              subst hx0y
              have hE2 := hE x0.catchType
              split at hh
              · rename_i hy
                obtain ⟨y1, y2, y3, y4⟩ := hy
                cases hh
                dsimp only at y1 y2 y3 y4
                rw [y4] at hE2
                simp only [ax_okE] at hE2
                obtain ⟨vm', hw', Z2, hst2⟩ := ax_caught Z' (g := { F0 m pc a (st.map (ax_tv as)) with stack := r.map (ax_tv as) }) rfl hx0 (by simp [covers, y1, y2]) y3 hown (hts _ hE2) (by rw [e1]; exact hce) hcv1 hfc
                have hTH : ∀ q : Nat, q < H.size → t.heap[q]? = H[q]? := by
                  intro q hq
                  have := ax_same_of hsx q (by show q < U.heap.size; rw [hU]; exact hq)
                  have h3 : t.heap[q]? = U.heap[q]? := this
                  rw [h3, hU]
                have hTz : H.size ≤ t.heap.size := by
                  have h3 : U.heap.size ≤ t.heap.size := hsx.2.1
                  rw [hU] at h3
                  exact h3
                obtain ⟨t9, s9, q9⟩ := k t.heap locs hRx ⟨Nat.le_trans hS.1 hTz, fun q hq1 hq2 => by rw [hTH q (Nat.lt_of_lt_of_le hq1 hS.1)]; exact hS.2.1 q hq1 hq2, hS.2.2⟩ ⟨by rw [hM.1.2.2]; exact hE0.1, fun hq z hz => by
                  rw [hM.1.2.2] at hq
                  rw [hTH z (Nat.lt_of_lt_of_le hz hS.1)]
                  exact hE0.2 hq z hz⟩ (T'.setVm vm') e1 Z2
                exact ⟨t9, hstep₁ _ fun acts => by rw [doInvoke_state]; exact hsteps.trans (hst2 _ s9), q9⟩
              · split at hh
                · rename_i z zs
                  split at hh
                  · rename_i hy
                    obtain ⟨rfl, ⟨y1, y2, y3, y4⟩, y5, y6, y7, y8⟩ := hy
                    cases hh
                    obtain ⟨x2, t2, hx2, hx2y⟩ : ∃ x2 t2, t0 = x2 :: t2 ∧ (x2.startPc, x2.endPc, x2.handlerPc, x2.catchType) = z := by
                      cases hl0 : t0 with
                      | nil => rw [hl0] at hys2; cases hys2
                      | cons x2 t2 => rw [hl0] at hys2; exact ⟨x2, t2, rfl, (List.cons.inj hys2).1⟩
                    subst hx2y
                    subst hx2
                    have hE3 := hE x2.catchType
                    dsimp only at y1 y2 y3 y4 y5 y6 y7 y8
                    rw [y4] at hE2
                    rw [y8] at hE3
                    simp only [ax_okE] at hE2 hE3
                    obtain ⟨vm', hw', Z2, hst2⟩ := ax_caught2 Z' (g := { F0 m pc a (st.map (ax_tv as)) with stack := r.map (ax_tv as) }) rfl hx0 (by simp [covers, y1, y2]) y3 (by simp [covers, y5, y6]) y7 hown (hts _ hE2) (hts _ hE3) (fun c1 c2 q1 q2 => hnc c1 c2 q1 q2) (by rw [e1]; exact hce) hcv1 hfc
                    have hTH : ∀ q : Nat, q < H.size → t.heap[q]? = H[q]? := by
                      intro q hq
                      have := ax_same_of hsx q (by show q < U.heap.size; rw [hU]; exact hq)
                      have h3 : t.heap[q]? = U.heap[q]? := this
                      rw [h3, hU]
                    have hTz : H.size ≤ t.heap.size := by
                      have h3 : U.heap.size ≤ t.heap.size := hsx.2.1
                      rw [hU] at h3
                      exact h3
                    obtain ⟨t9, s9, q9⟩ := k t.heap locs hRx ⟨Nat.le_trans hS.1 hTz, fun q hq1 hq2 => by rw [hTH q (Nat.lt_of_lt_of_le hq1 hS.1)]; exact hS.2.1 q hq1 hq2, hS.2.2⟩ ⟨by rw [hM.1.2.2]; exact hE0.1, fun hq z hz => by
                      rw [hM.1.2.2] at hq
                      rw [hTH z (Nat.lt_of_lt_of_le hz hS.1)]
                      exact hE0.2 hq z hz⟩ (T'.setVm vm') e1 Z2
                    exact ⟨t9, hstep₁ _ fun acts => by rw [doInvoke_state]; exact hsteps.trans (hst2 _ s9), q9⟩
                  · cases hh
                · cases hh
            · cases hh
        · cases hi
      · cases hi
    · cases hi
  · cases hcv
end AX3e
