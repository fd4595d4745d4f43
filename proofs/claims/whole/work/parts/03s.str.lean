/-! String constants: what is known of them, and the calls of their length and their letters -/
/-- an instance field of a String -/
def sx_f (nm ds : String) (v : Value) (a : Nat) (U : State) (H : Heap) : Prop := ∃ (cf : ClassId) (k : Class) (i : Nat) (f : Field) (cell : Cell), U.fieldFound? Lib.str nm ds = some (cf, k, i, f) ∧ f.isStatic = false ∧ H[a]? = some cell ∧ cell.vm ≠ .unknown ∧ cell.vm.isStatics = false ∧ U.vm.assignable cell.cls cf = true ∧ cell.slots[f.slot]? = some v
theorem sx_f.moved {nm ds : String} {v : Value} {a : Nat} {u U : State} {H : Heap} (hvm : u.vm.Alike U.vm) (h : sx_f nm ds v a u H) : sx_f nm ds v a U H := by
  obtain ⟨cf, k, i, f, cell, h1, h2, h3, h4, h5, h6, h7⟩ := h
  obtain ⟨k', hi', -⟩ := State.fieldFound?_setVm hvm h1
  exact ⟨cf, k', i, f, cell, hi', h2, h3, h4, h5, by rw [hvm.assignable]; exact h6, h7⟩
theorem sx_f.kept {nm ds : String} {v : Value} {a : Nat} {U : State} {H H1 : Heap} (h : sx_f nm ds v a U H) (hq : a < H.size → H1[a]? = H[a]?) : sx_f nm ds v a U H1 := by
  obtain ⟨cf, k, i, f, cell, h1, h2, h3, h4⟩ := h
  exact ⟨cf, k, i, f, cell, h1, h2, by rw [hq (Array.getElem?_eq_some_iff.mp h3).1]; exact h3, h4⟩
theorem sx_f.ev {nm ds : String} {v : Value} {a : Nat} {U : State} (h : sx_f nm ds v a U U.heap) {t : Jvm.Term} {args : Array Value} (ht : t.eval args U none [] U = some (.ref a)) : (Jvm.Term.field t Lib.str nm ds).eval args U none [] U = some v := by
  obtain ⟨cf, k, i, f, cell, h1, h2, h3, h4, h5, h6, h7⟩ := h
  exact Term.field_intro h1 h2 ht h3 h4 h5 h6 h7
/-- a static that holds v -/
def sx_st (C nm ds : String) (v : Value) (b : Nat) (U : State) (H : Heap) : Prop := ∃ (cf i : Nat) (k : Class) (f : Field) (a : Nat) (cell : Cell), U.fieldFound? C nm ds = some (cf, k, i, f) ∧ f.isStatic = true ∧ k.init = .initialized ∧ k.statics = some a ∧ H[a]? = some cell ∧ cell.vm ≠ .unknown ∧ cell.slots[f.slot]? = some v ∧ a < b
theorem sx_st.moved {C nm ds : String} {v : Value} {b : Nat} {u U : State} {H : Heap} (hvm : u.vm.Alike U.vm) (h : sx_st C nm ds v b u H) : sx_st C nm ds v b U H := by
  obtain ⟨cf, i, k, f, a, cell, h1, h2, h3, h4, h5⟩ := h
  obtain ⟨k', hk', he⟩ := State.fieldFound?_setVm hvm h1
  exact ⟨cf, i, k', f, a, cell, hk', h2, by rw [he]; exact h3, by rw [he]; exact h4, h5⟩
theorem sx_st.kept {C nm ds : String} {v : Value} {b : Nat} {U : State} {H H1 : Heap} (h : sx_st C nm ds v b U H) (hq : ∀ q : Nat, q < H.size → ¬ b ≤ q → H1[q]? = H[q]?) : sx_st C nm ds v b U H1 := by
  obtain ⟨cf, i, k, f, a, cell, h1, h2, h3, h4, h5, h6, h7, h8⟩ := h
  exact ⟨cf, i, k, f, a, cell, h1, h2, h3, h4, by rw [hq a (Array.getElem?_eq_some_iff.mp h5).1 (Nat.not_le.mpr h8)]; exact h5, h6, h7, h8⟩
theorem sx_st.is {C nm ds : String} {v : Value} {b : Nat} {U : State} (h : sx_st C nm ds v b U U.heap) : Lib.Cold.StaticIs U C nm ds v := by
  obtain ⟨cf, i, k, f, a, cell, h1, h2, h3, h4, h5, h6, h7, -⟩ := h
  exact ⟨cf, i, k, f, a, cell, h1, h2, h3, h4, h5, h6, h7⟩
/-- the String at a has these letters -/
def sx_k (b a : Nat) (tx : List Nat) (U : State) (H : Heap) : Prop := a < b ∧ (∃ (cell : Cell) (kA : Class), H[a]? = some cell ∧ U.vm.findClass Lib.str = some cell.cls ∧ U.vm.classes[cell.cls]? = some kA ∧ cell.vm.isStatics = false ∧ (kA.kind = .ordinary → cell.slots.size = kA.instanceTypes.size)) ∧ sx_f "coder" "B" (.int 0) a U H ∧ tx.length < 2 ^ 31 ∧ (∀ x ∈ tx, x < 128) ∧
  ∃ (d : Nat) (arr : Cell), d < b ∧ sx_f "value" "[B" (.ref d) a U H ∧ H[d]? = some arr ∧ U.isArrayOf arr .byte ∧ arr.vm ≠ .unknown ∧ tx.length ≤ arr.slots.size ∧ arr.slots.size.toInt32 = Int32.ofNat tx.length ∧ ∀ j : Nat, j < tx.length → arr.slots[j]? = some (.int (nI (tx.getD j 0)))
theorem sx_k.moved {b a : Nat} {tx : List Nat} {u U : State} {H : Heap} (hvm : u.vm.Alike U.vm) (h : sx_k b a tx u H) : sx_k b a tx U H := by
  obtain ⟨h1, ⟨cell, kA, c1, c2, c3, c4, c5⟩, h3, h4, h5, d, arr, d1, d2, d3, d4, d5⟩ := h
  obtain ⟨k', hk', he⟩ := hvm.2.2 _ _ c3
  exact ⟨h1, ⟨cell, k', c1, by rw [hvm.findClass]; exact c2, hk', c4, by rw [he]; exact c5⟩, h3.moved hvm, h4, h5, d, arr, d1, d2.moved hvm, d3, State.isArrayOf_alike hvm d4, d5⟩
theorem sx_k.kept {b a : Nat} {tx : List Nat} {U : State} {H H1 : Heap} (h : sx_k b a tx U H) (hq : ∀ q : Nat, q < H.size → ¬ b ≤ q → H1[q]? = H[q]?) : sx_k b a tx U H1 := by
  obtain ⟨h1, ⟨cell, kA, c1, c2⟩, h3, h4, h5, d, arr, d1, d2, d3, d4⟩ := h
  exact ⟨h1, ⟨cell, kA, by rw [hq a (Array.getElem?_eq_some_iff.mp c1).1 (Nat.not_le.mpr h1)]; exact c1, c2⟩, h3.kept (fun z => hq a z (Nat.not_le.mpr h1)), h4, h5, d, arr, d1, d2.kept (fun z => hq a z (Nat.not_le.mpr h1)), by rw [hq d (Array.getElem?_eq_some_iff.mp d3).1 (Nat.not_le.mpr d1)]; exact d3, d4⟩
theorem sx_k.ex {b a : Nat} {tx : List Nat} {U : State} (h : sx_k b a tx U U.heap) {t : Jvm.Term} {args : Array Value} (ht : t.eval args U none [] U = some (.ref a)) : (Jvm.Cond.exactly t Lib.str).before args U = true := by
  obtain ⟨h1, ⟨cell, kA, c1, c2, c3, c4, c5⟩, -⟩ := h
  simp only [Cond.before, Cond.holds, Cond.value, ht, c2, c1, c3]
  by_cases hk : kA.kind = .ordinary
  · simp [c4, c5 hk, hk]
  · cases hq : kA.kind <;> simp_all
/-- all that is known of String constants and of what their methods read -/
def sx_ro (b : Nat) (as : Nat → Nat) (U : State) (H : Heap) : Prop :=
  (∃ z : Int32, z ≠ 0 ∧ sx_st Lib.str "COMPACT_STRINGS" "Z" (.int z) b U H) ∧ (∃ fmt : Value, fmt.isRef = true ∧ sx_st Lib.pre_ "SIOOBE_FORMATTER" "Ljava/util/function/BiFunction;" fmt b U H) ∧ ∀ (k : Nat) (q : String × Nat × String × List Nat), ax_str[k]? = some q → vk_R q.1 q.2.1 q.2.2.1 (as (ax_big + 1 + k)) U ∧ sx_k b (as (ax_big + 1 + k)) q.2.2.2 U H
theorem sx_ro.moved {b : Nat} {as : Nat → Nat} {u U : State} {H : Heap} (hW : u.WarmedH U.vm) (h : sx_ro b as u H) : sx_ro b as U H := by
  obtain ⟨⟨z, z1, z2⟩, ⟨fm, f1, f2⟩, h3⟩ := h
  exact ⟨⟨z, z1, z2.moved hW.alike⟩, ⟨fm, f1, f2.moved hW.alike⟩, fun k q hk => ⟨(h3 k q hk).1.warm hW, (h3 k q hk).2.moved hW.alike⟩⟩
theorem sx_ro.same {b : Nat} {as : Nat → Nat} {u U : State} {H : Heap} (hv : U.vm = u.vm) (h : sx_ro b as u H) : sx_ro b as U H := by
  have hal : u.vm.Alike U.vm := by rw [hv]; exact Vm.Alike.refl _
  obtain ⟨⟨z, z1, z2⟩, ⟨fm, f1, f2⟩, h3⟩ := h
  exact ⟨⟨z, z1, z2.moved hal⟩, ⟨fm, f1, f2.moved hal⟩, fun k q hk => ⟨(h3 k q hk).1.same hv, (h3 k q hk).2.moved hal⟩⟩
theorem sx_ro.kept {b : Nat} {as : Nat → Nat} {U : State} {H H1 : Heap} (h : sx_ro b as U H) (hq : ∀ q : Nat, q < H.size → ¬ b ≤ q → H1[q]? = H[q]?) : sx_ro b as U H1 := by
  obtain ⟨⟨z, z1, z2⟩, ⟨fm, f1, f2⟩, h3⟩ := h
  exact ⟨⟨z, z1, z2.kept hq⟩, ⟨fm, f1, f2.kept hq⟩, fun k q hk => ⟨(h3 k q hk).1, (h3 k q hk).2.kept hq⟩⟩
/-- the words of the JDK's methods -/
def sx_wl : List Jvm.Cond := [.code Lib.Str.length.name Lib.String.length.code 1 (some .int), .fieldLink Lib.str 9 Lib.str "value" "[B", .methodLink Lib.str 335 Lib.String.coder.name, .initialized Lib.str, .selects Lib.str Lib.String.coder.name Lib.String.coder.name, .instanceMethod Lib.String.coder.name, .initialized Lib.str,
  .code Lib.String.coder.name Lib.String.coder.code 1 (some .byte), .fieldLink Lib.str 38 Lib.str "COMPACT_STRINGS" "Z", .fieldLink Lib.str 15 Lib.str "coder" "B"]
def sx_wc : List Jvm.Cond := [.code Lib.Str.charAt.name Lib.Str.charAt.code 2 (some .char), .methodLink Lib.str 492 Lib.Str.isLatin1.name, .initialized Lib.str, .selects Lib.str Lib.Str.isLatin1.name Lib.Str.isLatin1.name, .instanceMethod Lib.Str.isLatin1.name, .fieldLink Lib.str 9 Lib.str "value" "[B", .methodLink Lib.str 495 Lib.SL1.charAt.name, .static Lib.SL1.charAt.name, .initialized Lib.sl1, .initialized Lib.str,
  .code Lib.Str.isLatin1.name Lib.String.isLatin1.code 1 (some .boolean), .fieldLink Lib.str 38 Lib.str "COMPACT_STRINGS" "Z", .fieldLink Lib.str 15 Lib.str "coder" "B",
  .code Lib.SL1.charAt.name Lib.SL1.charAt.code 2 (some .char), .methodLink Lib.sl1 9 Lib.Str.checkIndex.name, .static Lib.Str.checkIndex.name,
  .code Lib.Str.checkIndex.name Lib.Str.checkIndex.code 2 none, .fieldLink Lib.str 1053 Lib.pre_ "SIOOBE_FORMATTER" "Ljava/util/function/BiFunction;", .methodLink Lib.str 1059 Lib.Preconditions.checkIndex.name, .static Lib.Preconditions.checkIndex.name, .initialized Lib.pre_,
  .code Lib.Preconditions.checkIndex.name Lib.Preconditions.checkIndex.code Lib.Preconditions.checkIndex.maxLocals (some .int)]
theorem sx_decl {y : MethodName} {cd : ByteArray} {n : Nat} {rt : Option FieldType} {A : Array Value} {s : State} (hc : (Jvm.Cond.code y cd n rt).before A s = true) (hi : (Jvm.Cond.instanceMethod y).before A s = true) : (Jvm.Cond.declares y).before A s = true := by
  obtain ⟨mk, meth, hn, hm, hst, hab⟩ := Cond.instanceMethod_spec hi
  obtain ⟨meth', c, c1, -, -, -, -, -, -, c8⟩ := Cond.code_spec hn hc
  cases hm.symm.trans c1
  simp [Cond.before, Cond.holds, Cond.value, hn, hm, hst, c8]
theorem sx_room {s : State} {pl : Platform} {r r' : Room} (hf : r.frames ≤ r'.frames) (hl : r.locals ≤ r'.locals) (hc : r.cells ≤ r'.cells) (hs : r.slots ≤ r'.slots) (h : s.hasRoom pl r' = true) : s.hasRoom pl r = true := by
  simp only [State.hasRoom, Bool.and_eq_true, decide_eq_true_eq] at h ⊢
  obtain ⟨⟨⟨⟨y, a, b, c, d, e⟩, f⟩, g⟩, i⟩ := h
  exact ⟨⟨⟨⟨by omega, by omega, by omega, by omega, by omega, e⟩, by omega⟩, by omega⟩, i⟩
theorem sx_pure {st t : State} {o : Outcome} (h : Free.PureEnd st o t) : t.heap = st.heap ∧ Free.FrameEnd st o t [] 0 0 := by
  obtain ⟨h1, h2, h3⟩ := h
  have h4 := h3.sameButNew 0 0
  refine ⟨?_, h1, h2, h4⟩
  have hz : t.heap.size = st.heap.size := h3.2.1
  apply Array.ext_getElem?
  intro q
  by_cases hq : q < st.heap.size
  · obtain ⟨c', k1, k2, k3, k4⟩ := h3.2.2 q _ (Array.getElem?_eq_getElem hq)
    have k1 : t.heap[q]? = some c' := k1
    rw [k1, Array.getElem?_eq_getElem hq]
    have k5 : c'.slots = (st.heap[q]).slots := by
      apply Array.ext_getElem?
      intro i
      exact k4 i (fun z => by cases z)
    rw [k5] at k2
    exact congrArg some k2
  · rw [Array.getElem?_eq_none (by omega), Array.getElem?_eq_none (by omega)]
/-- the run of length() -/
theorem sx_len {l : Launch} {TB : List Jvm.Cond} {b a : Nat} {as : Nat → Nat} {tx : List Nat} {rm : Room} {Pc : State → Prop} {Qc : Array Value → State → Outcome → State → Prop} {free : Addr → Prop} (hw : ∀ w ∈ sx_wl, w ∈ TB) (hf : 1 ≤ rm.frames) (hl : 24 ≤ rm.locals) (hP : ∀ U, Pc U → sx_ro b as U U.heap ∧ sx_k b a tx U U.heap)
    (hQ : ∀ st o t, Pc st → o = .returned (some (.int (nI tx.length))) → t.heap = st.heap → Qc (([Value.ref a] : List Value).toArray) st o t) : Met l Lib.Str.length.name TB rm (va_Pc [.ref a] Pc) Qc 0 0 free := by
  unfold Met
  intro p e ha hc hk s m args below hf0 happ hPc hK
  obtain ⟨a1, a2, a3, a4, a5, a6, a7, a8⟩ := (Spec.appliesLoose_iff hf0).mp happ
  obtain ⟨rfl, hPU⟩ := hPc
  have hts := atoms_spec (ws := TB) a8
  obtain ⟨⟨⟨z, z1, z2⟩, -, -⟩, hk2⟩ := hP s hPU
  have hex := hk2.ex (t := .arg 0) (args := ([Value.ref a] : List Value).toArray) rfl
  obtain ⟨h1, -, h3, h4, h5, d, arr, d1, d2, d3, d4, d5, d6, d7, d8⟩ := hk2
  have tw : ∀ (i : Nat) (w : Jvm.Cond), sx_wl[i]? = some w → w.before ([Value.ref a] : List Value).toArray s = true := fun i w h => hts w (hw w (List.mem_of_getElem? h))
  have hpre : Lib.Cold.length.spec.pre.before ([Value.ref a] : List Value).toArray s = true := by
    simp only [Lib.Cold.length.spec, Cond.before_and, Bool.and_eq_true]
    exact ⟨tw 0 _ rfl, rfl, hex, tw 1 _ rfl, tw 2 _ rfl, sx_decl (tw 7 _ rfl) (tw 5 _ rfl), tw 4 _ rfl, tw 5 _ rfl, tw 6 _ rfl⟩
  have hcp : Lib.Cold.coder.spec.pre.before ([Value.ref a] : List Value).toArray s = true := by
    simp only [Lib.Cold.coder.spec, Cond.before_and, Bool.and_eq_true]
    exact ⟨tw 7 _ rfl, rfl, tw 8 _ rfl, tw 9 _ rfl⟩
  have hP' : Lib.Cold.length.P a d z arr ([Value.ref a] : List Value).toArray s := ⟨rfl, d2.ev rfl, d3, d4, hcp, rfl, z2.is, z1, h3.ev rfl⟩
  obtain ⟨n, o, g1, g2, g3, g4, g5⟩ := Lib.Cold.length.met l a d z arr p e ha hc hk s m _ below hf0 ((Spec.appliesLoose_iff hf0).mpr ⟨a1, a2, a3, a4, a5, a6, sx_room hf hl (Nat.zero_le _) (Nat.zero_le _) a7, hpre⟩) hP' trivial
  obtain ⟨e1, e2⟩ := sx_pure g4
  rw [d7] at g5
  exact ⟨n, o, g1, g2, g3, hQ _ _ _ hPU g5 e1, [], e2, fun q hq => by cases hq⟩
theorem sx_byte {x : Nat} (h : x < 128) : ((nI x &&& 255).toUInt32.toUInt16.toUInt32.toInt32) = nI x := by
  have : ∀ y : Fin 128, ((nI y.val &&& 255).toUInt32.toUInt16.toUInt32.toInt32) = nI y.val := by decide +kernel
  exact this ⟨x, h⟩
/-- the run of charAt(j) -/
theorem sx_cat {l : Launch} {TB : List Jvm.Cond} {b a j : Nat} {as : Nat → Nat} {tx : List Nat} {rm : Room} {Pc : State → Prop} {Qc : Array Value → State → Outcome → State → Prop} {free : Addr → Prop} (hw : ∀ w ∈ sx_wc, w ∈ TB) (hf : 3 ≤ rm.frames) (hl : 72 ≤ rm.locals) (hj : j < tx.length) (hP : ∀ U, Pc U → sx_ro b as U U.heap ∧ sx_k b a tx U U.heap)
    (hQ : ∀ st o t, Pc st → o = .returned (some (.int (nI (tx.getD j 0)))) → t.heap = st.heap → Qc (([Value.ref a, .int (nI j)] : List Value).toArray) st o t) : Met l Lib.Str.charAt.name TB rm (va_Pc [.ref a, .int (nI j)] Pc) Qc 0 0 free := by
  unfold Met
  intro p e ha hc hk s m args below hf0 happ hPc hK
  obtain ⟨a1, a2, a3, a4, a5, a6, a7, a8⟩ := (Spec.appliesLoose_iff hf0).mp happ
  obtain ⟨rfl, hPU⟩ := hPc
  have hts := atoms_spec (ws := TB) a8
  obtain ⟨⟨⟨z, z1, z2⟩, ⟨fm, f1, f2⟩, -⟩, hk2⟩ := hP s hPU
  have hex := hk2.ex (t := .arg 0) (args := ([Value.ref a, .int (nI j)] : List Value).toArray) rfl
  obtain ⟨h1, -, h3, h4, h5, d, arr, d1, d2, d3, d4, d5, d6, d7, d8⟩ := hk2
  have tw : ∀ (i : Nat) (w : Jvm.Cond), sx_wc[i]? = some w → ∀ A : Array Value, w.before A s = true := fun i w h A => by
    have h0 := hts w (hw w (List.mem_of_getElem? h))
    have hg : ∀ w ∈ sx_wc, ∀ (A B : Array Value) (U : State), w.before A U = true → w.before B U = true := by
      intro w hw
      simp only [sx_wc, List.mem_cons, List.not_mem_nil, or_false] at hw
      rcases hw with rfl | rfl | rfl | rfl | rfl | rfl | rfl | rfl | rfl | rfl | rfl | rfl | rfl | rfl | rfl | rfl | rfl | rfl | rfl | rfl | rfl | rfl <;> exact fun A B U h => h
    exact hg w (List.mem_of_getElem? h) _ A s h0
  have sg : ∀ (y : MethodName) (cd : ByteArray) (n : Nat) (rt : Option FieldType), (Jvm.Cond.code y cd n rt).before #[] s = true → Lib.Cold.Sig s y := by
    intro y cd n rt h
    obtain ⟨mk, hn⟩ := Cond.code_named h
    obtain ⟨meth, c, c1, -, -, -, -, -, -, c8⟩ := Cond.code_spec hn h
    exact ⟨mk, meth, hn, c1, c8⟩
  have hj31 : j < 2 ^ 31 := by omega
  have hjc : (nI j).toNatClampNeg = j := nI_clamp hj31
  have hpre : Lib.Cold.charAt.spec.pre.before ([Value.ref a, .int (nI j)] : List Value).toArray s = true := by
    simp only [Lib.Cold.charAt.spec, Cond.before_and, Bool.and_eq_true]
    exact ⟨tw 0 _ rfl _, rfl, hex, tw 1 _ rfl _, sx_decl (tw 10 _ rfl _) (tw 4 _ rfl _), tw 3 _ rfl _, tw 4 _ rfl _, tw 5 _ rfl _, tw 6 _ rfl _, tw 7 _ rfl _, tw 8 _ rfl _, tw 9 _ rfl _⟩
  have hil : Lib.Cold.isLatin1.spec.pre.before #[.ref a] s = true := by
    simp only [Lib.Cold.isLatin1.spec, Cond.before_and, Bool.and_eq_true]
    exact ⟨tw 10 _ rfl _, rfl, tw 11 _ rfl _, tw 12 _ rfl _⟩
  have hl1 : Lib.Cold.latin1.spec.pre.before #[.ref d, .int (nI j)] s = true := by
    simp only [Lib.Cold.latin1.spec, Cond.before_and, Bool.and_eq_true]
    exact ⟨tw 13 _ rfl _, rfl, tw 14 _ rfl _, tw 15 _ rfl _, tw 9 _ rfl _⟩
  have hck : Lib.Cold.checkIndex.spec.pre.before #[.int (nI j), .int arr.slots.size.toInt32] s = true := by
    simp only [Lib.Cold.checkIndex.spec, Cond.before_and, Bool.and_eq_true]
    exact ⟨tw 16 _ rfl _, rfl, tw 17 _ rfl _, tw 18 _ rfl _, tw 19 _ rfl _, tw 20 _ rfl _⟩
  have hpc : Lib.Preconditions.checkIndex.spec.pre.before #[.int (nI j), .int arr.slots.size.toInt32, fm] s = true := by
    simp only [Lib.Preconditions.checkIndex.spec, Cond.before_and, Bool.and_eq_true]
    have e1 : (nI j : Int32) < Int32.ofNat tx.length := nI_lt hj h4
    have e0 : (0 : Int32) ≤ nI j := nI_pos' hj31
    refine ⟨tw 21 _ rfl _, rfl, rfl, rfl, ?_, ?_, ?_⟩
    · cases fm <;> first | rfl | cases f1
    · simp [Cond.before, Cond.holds, Cond.value, Jvm.Term.eval, e0]
    · simp [Cond.before, Cond.holds, Cond.value, Jvm.Term.eval, d7, e1]
  have hbd : ¬ (nI j < 0 ∨ arr.slots.size ≤ (nI j).toNatClampNeg) := by
    rw [hjc]
    rintro (q | q)
    · exact nI_pos hj31 q
    · omega
  have hP' : Lib.Cold.charAt.P a d (nI j) (nI (tx.getD j 0)) z fm arr ([Value.ref a, .int (nI j)] : List Value).toArray s :=
    ⟨rfl, d2.ev rfl, sg _ _ _ _ (tw 13 _ rfl _), hil, ⟨rfl, z2.is, z1, h3.ev rfl⟩, hl1, rfl, d3, d4, d5, hbd, by rw [hjc]; exact d8 j hj, sg _ _ _ _ (tw 16 _ rfl _), hck, rfl, f2.is, sg _ _ _ _ (tw 21 _ rfl _), hpc⟩
  obtain ⟨n, o, g1, g2, g3, g4, g5⟩ := Lib.Cold.charAt.met l a d (nI j) (nI (tx.getD j 0)) z fm arr p e ha hc hk s m _ below hf0 ((Spec.appliesLoose_iff hf0).mpr ⟨a1, a2, a3, a4, a5, a6, sx_room hf hl (Nat.zero_le _) (Nat.zero_le _) a7, hpre⟩) hP' trivial
  obtain ⟨e1, e2⟩ := sx_pure g4
  rw [sx_byte (by
    have : tx.getD j 0 = tx[j] := by simp [List.getD, hj]
    rw [this]; exact h5 _ (List.getElem_mem hj))] at g5
  exact ⟨n, o, g1, g2, g3, hQ _ _ _ hPU g5 e1, [], e2, fun q hq => by cases hq⟩
