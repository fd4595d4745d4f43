/-! a method that throws a new exception of a class of its own making, nothing written before: how it ends -/
/-- the end of a method that throws: the exception is the newest cell -/
def ax_QT (b : Nat) (as : Nat → Nat) (T : ax_T) (D : va_G) (tA : Nat → ClassId) (below : List Frame) (s : State) (n : Nat) (h1 : ax_H) (cells slots : Nat) (t : State) : Prop :=
  t.status = .running ∧ Ended t below (.threw (as (h1.2.1 - 1))) ∧ s.WarmedH t.vm ∧ s.sameButNew ({ t with vm := s.vm } : State) [] cells slots ∧ ax_R b as D (ax_cl T) tA h1 t.heap ∧
    ∃ ce : Cell, t.heap[as (h1.2.1 - 1)]? = some ce ∧ ce.vm = .none ∧ s.vm.findClass (ax_en n) = some ce.cls
section AX3b
variable {p : Program} {l : Launch} {e : Env} {R : Room} {s : State} {m : MethodId} {args : Array Value} {below : List Frame} {meth : Method} {c : Code} {H : Heap} {locs : List Loc} {cells slots : Nat} {Q : State → Prop}
variable {pc w : Nat} {b : Nat} {as : Nat → Nat} {a : Array Slot} {ls : ax_L} {T : ax_T} {TB : List Jvm.Cond} {D : va_G} {tA : Nat → ClassId} {mi : Nat} {h : ax_H}
/-- where no old cell has changed nothing counts as written -/
theorem ax_unlocs {g : JFrame} (hH : ∀ q : Nat, q < s.heap.size → H[q]? = s.heap[q]?) (k : W p l e R s m args below meth c H [] cells slots Q g) : W p l e R s m args below meth c H locs cells slots Q g := by
  intro U hU X
  refine k U hU { X with same := ?_ }
  obtain ⟨h1, h2, h3, h4, h5, h6⟩ := X.same
  refine ⟨h1, h2, h3, h4, h5, fun x cell hx => ⟨cell, ?_, rfl, rfl, fun _ _ => rfl⟩⟩
  have hlt : x < s.heap.size := (Array.getElem?_eq_some_iff.mp hx).1
  show U.heap[x]? = some cell
  rw [hU, hH x hlt]
  exact hx
theorem ax_thr_ok (hfl : l.flags = Jvm.pinnedFlags ++ [Jvm.noTraceFlag]) (X : ax_X b as TB T D tA mi p s m args meth c) (hl : ax_lr as ls a) (hml : ls.length = ax_mx T mi) {idx ic n : Nat} {st : List Value} (hT : ax_okT TB (ax_nm T mi).cls idx ic n)
    (hd0 : decode (ax_code T mi) pc = .ok (.new idx, 3)) (hd1 : decode (ax_code T mi) (pc + 3) = .ok (.dup, 1)) (hd2 : decode (ax_code T mi) (pc + 4) = .ok (.invokespecial ic, 3)) (hd3 : decode (ax_code T mi) (pc + 7) = .ok (.athrow, 1))
    (hout : ∀ x ∈ c.exceptionTable.toList, covers x (pc + 7) = false) (hw : h.2.2.2 = w) (hbig : h.2.1 < ax_big) (hst : (st.map (fun v => v.category)).sum ≤ 8) (hRf : 8 ≤ R.frames) (hRl : 120 ≤ R.locals) (hc : 1 ≤ R.cells) (hs : 6 ≤ R.slots) (hsz : s.heap.size = b + h.2.1) :
    ax_G w b as T D tA p l e R s m args below meth c 0 0 (ax_QT b as T D tA below s n (ax_one h) 1 6) h pc a st := by
  intro H locs hR hS hE0
  obtain ⟨hx, hb, hmx, -, hlk, -, -, hown, hts, hK, hX, hAs⟩ := X
  have hsame := hE0.2 hw
  refine ax_unlocs hsame ?_
  refine W.newc hx hb hown (hts _ hT.1) (hts _ hT.2.1) (hts _ hT.2.2.1) rfl hd0 (by omega) (by omega) fun cC kC h1 h2 h3 h4 => ?_
  refine lv_dup hx hb hd1 rfl ?_
  intro U hU Z
  have has := hAs.1 h.2.1 hbig
  have hz : H.size = b + h.2.1 := hR.1
  have hcell : U.heap[H.size]? = some (freshCell cC kC) := by rw [hU]; simp
  have hold : ∀ q : Nat, q < s.heap.size → U.heap[q]? = s.heap[q]? := fun q hq => by
    rw [hU, Array.getElem?_push, if_neg (by have := hS.1; omega)]
    exact hsame q hq
  have hat : ∀ w ∈ Bundle.ownAtoms0 (ax_nm T mi).cls ic (ax_en n) ax_up2, w.before args s = true := by
    intro w hw
    rcases hT.2.2.2.2 w hw with g | g
    · exact hts w g
    · simp only [ax_zs, List.mem_cons, List.not_mem_nil, or_false] at g
      rcases g with rfl | rfl | rfl | rfl
      · exact hX.2.1.ref
      · exact hX.2.2.1.ref
      · exact hX.2.1.lay
      · exact hX.2.2.1.lay
  obtain ⟨V, g1, g2, g3, g4, g5, ce, g6, g7⟩ := Z.ctorThrow0 hx (Launch.traces_off hfl Z.admits) hown hT.2.2.2.1 (names := ax_up2) (by decide) hat (fun _ h => by cases h) h1 h2 hcell hS.1 (g := F0 m (pc + 3 + 1) a (.ref H.size :: .ref H.size :: st.map (ax_tv as))) rfl (by rw [hmx, ← hml]; exact hl.1) rfl rfl rfl (by rw [hb]; exact hd2) (by rw [hb]; exact hd3) hout (by show 2 + 3 < R.frames; omega) (by
    show 2 * 0 + ((Value.ref H.size :: st.map (ax_tv as)).map fun v => v.category).sum + (13 * (2 + 1) + 41) ≤ R.locals
    rw [List.map_cons, List.sum_cons, ax_wsum]
    show 0 + (1 + _) + _ ≤ _
    omega)
  refine ⟨V, g1, ?_⟩
  have hx1 : as ((ax_one h).2.1 - 1) = H.size := by
    show as (h.2.1 + 1 - 1) = H.size
    rw [Nat.add_sub_cancel, has, hz]
  have hVs : V.heap.size = b + (h.2.1 + 1) := by
    have k1 : V.heap.size ≤ s.heap.size + (0 + 1) := g5.2.2.1
    have k2 : H.size < V.heap.size := (Array.getElem?_eq_some_iff.mp g6).1
    omega
  have hV : ∀ q : Nat, q < s.heap.size → V.heap[q]? = s.heap[q]? := by
    intro q hq
    obtain ⟨c', k1, k2, k3, k4⟩ := g5.2.2.2.2.2 q _ (Array.getElem?_eq_getElem hq)
    have k1 : V.heap[q]? = some c' := k1
    rw [k1, Array.getElem?_eq_getElem hq]
    have k5 : c'.slots = (s.heap[q]).slots := by
      apply Array.ext_getElem?
      intro i
      exact k4 i (fun z => by cases z)
    rw [k5] at k2
    exact congrArg some k2
  refine ⟨g2, by rw [hx1]; exact g3, g4, g5, ⟨hVs, hbig, fun i cc hi => ?_⟩, ce, by rw [hx1]; exact g6, g7.vm, g7.cls⟩
  obtain ⟨k1, k2⟩ := hR.2.2 i cc hi
  refine ⟨k1.imp Nat.lt_succ_of_lt id, k2.kept ?_⟩
  have k3 : as i < s.heap.size := by
    have := k2.lt
    have k4 : as i < H.size := this
    omega
  show V.heap[as i]? = H[as i]?
  rw [hV _ k3, hsame _ k3]
end AX3b
