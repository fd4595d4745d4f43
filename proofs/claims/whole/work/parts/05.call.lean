/-! calls and whole runs -/
def ax_cd (T : ax_T) (mi : Nat) : Jvm.Cond := match ax_hs T mi with
  | [] => Jvm.Cond.code (ax_nm T mi) (ax_code T mi) (ax_mx T mi) (ax_rt T mi)
  | x :: t => Jvm.Cond.codeWith (ax_nm T mi) (ax_code T mi) (ax_mx T mi) (ax_rt T mi) (x :: t)
theorem ax_cd_n {T : ax_T} {mi : Nat} (h : ax_hs T mi = []) : ax_cd T mi = Jvm.Cond.code (ax_nm T mi) (ax_code T mi) (ax_mx T mi) (ax_rt T mi) := by
  unfold ax_cd
  rw [h]
theorem ax_cd_c {T : ax_T} {mi : Nat} (h : ax_hs T mi ≠ []) : ax_cd T mi = Jvm.Cond.codeWith (ax_nm T mi) (ax_code T mi) (ax_mx T mi) (ax_rt T mi) (ax_hs T mi) := by
  unfold ax_cd
  split
  · rename_i q; exact absurd q h
  · rename_i q; rw [q]
def ax_w (TB : List Jvm.Cond) (T : ax_T) (mi : Nat) : List Jvm.Cond := ax_cd T mi :: TB
def ax_rm (d mc ms : Nat) : Room := { frames := d + 8, cells := mc, slots := ms, locals := 40 * d + 120 }
/-- a word that holds on while entries of the pools are resolved -/
def ax_tr (w : Jvm.Cond) : Prop := ∀ (args a' : Array Value) (s U : State), s.WarmedH U.vm → w.before args s = true → w.before a' U = true
def ax_gw (w : Jvm.Cond) : Bool := goodWord w || (match w with
  | .fieldLinkNest _ _ _ _ _ _ | .methodLinkNest _ _ _ _ | .arrayOver (.object _) | .declares _ | .castable _ _ => true
  | _ => false)
theorem ax_tr_of {w : Jvm.Cond} (h : ax_gw w = true) : ax_tr w := by
  intro args a' s U hW hb
  unfold ax_gw at h
  rw [Bool.or_eq_true] at h
  rcases h with h | h
  · exact word_at hW (good_of_word h) hb
  · split at h
    · exact va_Nw.use rfl (va_Nw.warmF hW (va_Nw.of rfl hb))
    · exact va_Nw.use rfl (va_Nw.warmM hW (va_Nw.of rfl hb))
    · exact va_AO.use (va_AO.moved hW.alike (va_AO.of hb))
    · exact va_Nw.use rfl (va_Nw.warmD hW (va_Nw.of rfl hb))
    · exact va_Nw.use rfl (va_Nw.warmC hW (va_Nw.of rfl hb))
    · cases h
def ax_good (TB : List Jvm.Cond) : Prop := ∀ w ∈ TB, ax_tr w
def ax_ok (TB : List Jvm.Cond) (T : ax_T) : Prop := ax_okC TB T ∧ ax_okP TB T ∧ ax_okA TB T ∧ (∀ mi, plainName (ax_nm T mi).cls = true) ∧ ax_good TB
/-- the contract of a call that answers -/
def ax_K (TB : List Jvm.Cond) (T : ax_T) (D : va_G) (tA : Nat → ClassId) (b : Nat) (as : Nat → Nat) (l : Launch) (d mi : Nat) (av : List Value) (h : ax_H) (v : Option Value) (h1 : ax_H) : Prop :=
  Met l (ax_nm T mi) (ax_w TB T mi) (ax_rm d (h1.2.1 - h.2.1) (h1.2.2.1 - h.2.2.1)) (va_Pc (av.map (ax_tv as)) (fun U => ax_R b as D (ax_cl T) tA h U.heap ∧ va_K D (ax_cl T) (ax_tys tA T) U ∧ ax_ro b as T U U.heap))
    (fun _ st o t => o = .returned (v.map (ax_tv as)) ∧ ax_R b as D (ax_cl T) tA h1 t.heap ∧ va_F (fun q => b ≤ q) st t ∧ ax_E h.2.2.2 h1 st.heap t.heap) (h1.2.1 - h.2.1) (h1.2.2.1 - h.2.2.1) (fun q => b ≤ q)
section AX3
variable {p : Program} {l : Launch} {e : Env} {R : Room} {s : State} {m : MethodId} {args : Array Value} {below : List Frame} {meth : Method} {c : Code} {H : Heap} {locs : List Loc} {cells slots : Nat} {Q : State → Prop}
variable {pc w : Nat} {b : Nat} {as : Nat → Nat} {a : Array Slot} {ls : ax_L} {T : ax_T} {TB : List Jvm.Cond} {D : va_G} {tA : Nat → ClassId} {mi : Nat} {h : ax_H}
theorem ax_E.call {w : Nat} {h h1 : ax_H} {H0 H H1 : Heap} (hE : ax_E w h H0 H) (hz : H0.size ≤ H.size) (h2 : ax_E h.2.2.2 h1 H H1) : ax_E w h1 H0 H1 := by
  refine ⟨Nat.le_trans hE.1 h2.1, fun q z hz1 => ?_⟩
  have g1 := hE.1
  have g2 := h2.1
  rw [h2.2 (by omega) z (Nat.lt_of_lt_of_le hz1 hz)]
  exact hE.2 (by omega) z hz1
theorem ax_callW {st0 rest : List Value} {mc ms : Nat} {vv : Option Value} {h1 : ax_H} (hr : va_Run p l e R s m args below meth c H locs cells slots mc ms (F0 m pc a st0) rest (fun st o t => o = .returned vv ∧ ax_R b as D (ax_cl T) tA h1 t.heap ∧ va_F (fun q => b ≤ q) st t ∧ ax_E h.2.2.2 h1 st.heap t.heap) (fun q => b ≤ q)) (hS : va_S (fun q => b ≤ q) s.heap H locs) (hE0 : ax_E w h s.heap H)
    (kk : ∀ (H1 : Heap) (locs1 : List Loc), ax_R b as D (ax_cl T) tA h1 H1 → va_S (fun q => b ≤ q) s.heap H1 locs1 → ax_E w h1 s.heap H1 → W p l e R s m args below meth c H1 locs1 (cells + mc) (slots + ms) Q (F0 m (pc + 3) a (vv.toList ++ rest))) : W p l e R s m args below meth c H locs cells slots Q (F0 m pc a st0) := by
  intro T1 hT X
  obtain ⟨v, st₀, t, T', L, h0, X', hL, e1, e2, ⟨hv, hRR, ⟨hz, hk⟩, hE1⟩, st⟩ := hr T1 hT X
  cases hv
  rw [h0] at hz hk hE1
  obtain ⟨t2, a1, b1⟩ := kk T'.heap (locs ++ L) (by rw [e1]; exact hRR) ⟨Nat.le_trans hS.1 (by rw [e1]; exact hz), fun q h1 h2 => by rw [e1, hk q (Nat.lt_of_lt_of_le h1 hS.1) h2]; exact hS.2.1 q h1 h2, fun q hq => by
    rcases List.mem_append.mp hq with h | h
    · exact hS.2.2 q h
    · exact hL q h⟩ (by rw [e1]; exact hE0.call hS.1 hE1) T' rfl X'
  exact ⟨t2, st t2 a1, b1⟩
theorem ax_wsum (as : Nat → Nat) (r : List Value) : (((r.map (ax_tv as))).map (fun v => v.category)).sum = (r.map (fun v => v.category)).sum := by
  rw [List.map_map, show ((fun v => v.category) ∘ ax_tv as) = (fun v : Value => v.category) from funext (ax_tv_cat as)]
theorem ax_blind (T : ax_T) (D : va_G) (tA : Nat → ClassId) (b : Nat) (as : Nat → Nat) (av : List Value) (h : ax_H) : FrameBlind (va_Pc (av.map (ax_tv as)) (fun U => ax_R b as D (ax_cl T) tA h U.heap ∧ va_K D (ax_cl T) (ax_tys tA T) U ∧ ax_ro b as T U U.heap)) := by
  intro A U g mk q
  obtain ⟨q0, q1, q2, q3⟩ := q
  exact ⟨q0, q1, va_K.moved (u := U) (U := U.calling g mk A) (Vm.Alike.refl U.vm) q2, ax_ro.same (u := U) (U := U.calling g mk A) rfl q3⟩
theorem ax_words (hO : ax_ok TB T) (hts : ∀ w ∈ TB, w.before args s = true) {mj : Nat} (hm : ax_cd T mj ∈ TB) : ∀ w ∈ ax_w TB T mj, ∀ (a' : Array Value) (U : State), s.WarmedH U.vm → w.before a' U = true := by
  intro w hw a' U hW
  rcases List.mem_cons.mp hw with rfl | hw
  · exact hO.2.2.2.2 _ hm args a' s U hW (hts _ hm)
  · exact hO.2.2.2.2 w hw args a' s U hW (hts w hw)
theorem ax_cb (hO : ax_ok TB T) (hts : ∀ w ∈ TB, w.before args s = true) {d mc ms idx n mj : Nat} {own : String} (hRf : d + 9 ≤ R.frames) (hRl : 40 * d + 160 ≤ R.locals) (hini : Jvm.Cond.initialized (ax_nm T mj).cls ∈ TB) (hl : Jvm.Cond.methodLink own idx (ax_nm T mj) ∈ TB) (hn : (parseMethodDescriptor (ax_nm T mj).desc).map (fun d => d.parameters.length) = some n) (hm : ax_okM TB T mj) :
    CallB R s args own idx (ax_nm T mj) (ax_code T mj) (ax_mx T mj) (ax_rt T mj) (ax_w TB T mj) (ax_rm d mc ms) mc ms n := by
  have hcd := ax_cd_n hm.1
  have h21 := hm.2.2.1
  refine ⟨rfl, rfl, ?_, ?_, ax_words hO hts (by rw [hcd]; exact hm.2.1), by rw [ax_w, hcd]; exact List.mem_cons_self, hts _ hm.2.1, hts _ hini, hm.2.2.2, fun sig h => ?_, hts _ hl⟩
  · show d + 8 + 1 ≤ R.frames; omega
  · show 8 + (ax_mx T mj + 11) + (40 * d + 120) ≤ R.locals
    omega
  · rw [h] at hn
    exact (Option.some.inj hn).symm
theorem ax_cn (hO : ax_ok TB T) (hts : ∀ w ∈ TB, w.before args s = true) {d mc ms idx n mj : Nat} {own host : String} (hRf : d + 9 ≤ R.frames) (hRl : 40 * d + 160 ≤ R.locals) (hini : Jvm.Cond.initialized (ax_nm T mj).cls ∈ TB) (hl : Jvm.Cond.methodLinkNest own idx (ax_nm T mj) host ∈ TB) (hn : (parseMethodDescriptor (ax_nm T mj).desc).map (fun d => d.parameters.length) = some n) (hm : ax_okM TB T mj) :
    va_CN R s args own idx (ax_nm T mj) host (ax_code T mj) (ax_mx T mj) (ax_rt T mj) (ax_w TB T mj) (ax_rm d mc ms) mc ms n := by
  have hcd := ax_cd_n hm.1
  have h21 := hm.2.2.1
  refine ⟨⟨rfl, rfl, ?_, ?_, ax_words hO hts (by rw [hcd]; exact hm.2.1), by rw [ax_w, hcd]; exact List.mem_cons_self⟩, hts _ hm.2.1, hts _ hini, hm.2.2.2, fun sig h => ?_, hts _ hl⟩
  · show d + 8 + 1 ≤ R.frames; omega
  · show 8 + (ax_mx T mj + 11) + (40 * d + 120) ≤ R.locals
    omega
  · rw [h] at hn
    exact (Option.some.inj hn).symm
/-- a static method with handlers -/
theorem ax_runSW {y : MethodName} {bytes cc : ByteArray} {maxL nL mc ms n index : Nat} {ret : Option FieldType} {ws : List Jvm.Cond} {rm : Room} {Pc : Array Value → State → Prop} {Qc : Array Value → State → Outcome → State → Prop} {free : Addr → Prop} {Ts : List Jvm.Cond} {own : String} {As rest : List Value} {g : JFrame} {hh : List (Nat × Nat × Nat × Nat)}
    (S : CallFix p m c cc nL s args Ts own) (hM : Met l y ws rm Pc Qc mc ms free) (hrc : rm.cells = mc) (hrs : rm.slots = ms) (hfr : rm.frames + 1 ≤ R.frames) (hlo : 8 + (maxL + 11) + rm.locals ≤ R.locals) (hws : ∀ w ∈ ws, ∀ (a' : Array Value) (U : State), s.WarmedH U.vm → w.before a' U = true) (hcw : Jvm.Cond.codeWith y bytes maxL ret hh ∈ ws) (hcode : (Jvm.Cond.codeWith y bytes maxL ret hh).before args s = true)
    (hini : (Jvm.Cond.initialized y.cls).before args s = true) (hy : y.cls ≠ "java/lang/invoke/MethodHandle" ∧ y.cls ≠ "java/lang/invoke/VarHandle") (hlen : ∀ sig, parseMethodDescriptor y.desc = some sig → n = sig.parameters.length) (hl : (Jvm.Cond.methodLink own index y).before args s = true) (hstt : (Jvm.Cond.static y).before args s = true) (hp : PreS s H Pc As)
    (hg : g.method = m) (hn : As.length = n) (hsize : g.locals.size = nL) (hstack : g.stack = As.reverse ++ rest) (hW : 2 * g.monitorRoom + (rest.map fun v => v.category).sum ≤ 8) (hdg : decode cc g.pc = .ok (.invokestatic index, 3)) (hf : cells + mc ≤ R.cells ∧ slots + ms ≤ R.slots) :
    va_Run p l e R s m args below meth c H locs cells slots mc ms g rest (Qc As.toArray) free := by
  have hK : Back l R p e below s args y 3 8 (PreOf R mc ms Pc) (PostOf Qc mc ms free) := by
    refine Back.of_freeWith (handlers := hh) (S := headSpec ws rm) (P := Pc) (K := fun _ _ _ _ _ => True) (Q := fun a st o t => Qc a st o t ∧ ∃ L, FrameEnd st o t L mc ms ∧ ∀ q ∈ L, free q.base) (bytes := bytes) (maxL := maxL) (ret := ret)
      (E := fun a st o t L k n => k = mc ∧ n = ms ∧ ∀ q ∈ L, free q.base) hM hfr hlo ?_ ?_ (fun _ _ _ _ _ _ _ _ _ => trivial) ?_ ?_
    · intro m meth c A a X hp
      exact ⟨atoms_intro fun w hw => hws w hw _ _ X.warmed, hws _ hcw _ _ X.warmed, word_at X.warmed (Or.inl (by first | rfl | simp [Cond.onTables, Cond.keeps, Cond.steady])) hini, by rw [show (headSpec ws rm).room.cells = mc from hrc]; exact hp.1, by rw [show (headSpec ws rm).room.slots = ms from hrs]; exact hp.2.1⟩
    · intro m meth c A a g mk X hq
      exact hp.1 _ _ _ _ hq.2.2
    · intro a st o t ⟨hq, L, hF, hL⟩
      exact ⟨L, mc, ms, hF, rfl, rfl, hL⟩
    · intro m meth c A a g mk v t L k n X hp hq hF ⟨e1, e2, hL⟩
      subst e1; subst e2
      exact ⟨g, mk, t, L, rfl, rfl, hq.1, rfl, hL, rfl, rfl⟩
  obtain ⟨hx, hb, hml, ho, -⟩ := S
  obtain ⟨mk, methM, cM, hnamed, hmethM, -, -, -, -, -, -, hsigM⟩ := Cond.codeWith_spec hcode
  have hstatic : methM.isStatic = true := Cond.static_spec hnamed hmethM hstt
  obtain ⟨kP, hkP, -⟩ := className_of_methodNamed hnamed
  have hinitP : kP.init = .initialized := Cond.initialized_spec (findClass_of_methodNamed hnamed) hkP hini
  intro T hT X
  obtain ⟨vm₁, X₁, hstep₁⟩ := X.invokestatic hx ho hl hnamed hmethM hstatic hkP hinitP hy (g := g) hg (argsL := As) (rest := rest) (hn.trans (hlen _ hsigM)) hstack (by rw [hb]; exact hdg)
  obtain ⟨v, ⟨U', l2, c2, s2⟩, X', ⟨g', mk', t, L, e1, e2, hq, h1, hL, h2, h3⟩, hsteps⟩ := hK m meth c ⟨T.setVm vm₁, locs, cells, slots⟩ { g with stack := rest } (.invokestatic index) mk As.toArray X₁ hg (hsize.trans hml.symm) (by rw [hb]; exact hdg) hW (X₁.named hnamed) ⟨hf.1, hf.2, hp.2 (T.setVm vm₁) hT X₁.warmed⟩
  dsimp only [Pt.U, Pt.locs, Pt.cells, Pt.slots] at X' e1 e2 h1 h2 h3 hsteps
  subst h1; subst h2; subst h3
  exact ⟨v, (T.setVm vm₁).calling g' mk' As.toArray, t, U', L, hT, X', hL, e1, e2, hq, fun target h => hstep₁ _ fun acts => by rw [doInvoke_state]; exact hsteps.trans h⟩
/-- a call whose contract is known -/
theorem ax_inv_ok (hO : ax_ok TB T) (X : ax_X b as TB T D tA mi p s m args meth c) (hl : ax_lr as ls a) (hml : ls.length = ax_mx T mi) {d : Nat} (hRf : d + 9 ≤ R.frames) (hRl : 40 * d + 160 ≤ R.locals) {i : Instr} {st av r : List Value} {mj : Nat} (hd : decode (ax_code T mi) pc = .ok (i, 3)) (hi : ax_inv T mi i st h = some (mj, av, r)) {v : Option Value} {h1 : ax_H}
    (hM : ax_K TB T D tA b as l d mj av h v h1) (hc : cells + (h1.2.1 - h.2.1) ≤ R.cells) (hs : slots + (h1.2.2.1 - h.2.2.1) ≤ R.slots)
    (k : ax_G w b as T D tA p l e R s m args below meth c (cells + (h1.2.1 - h.2.1)) (slots + (h1.2.2.1 - h.2.2.1)) Q h1 (pc + 3) a (v.toList ++ r)) : ax_G w b as T D tA p l e R s m args below meth c cells slots Q h pc a st := by
  intro H locs hR hS hE0
  obtain ⟨hx, hb, hmx, -, -, -, -, hown, hts, hK, hX, hAs⟩ := X
  have hsize : a.size = ax_mx T mi := by rw [← hml]; exact hl.1
  have F : CallFix p m c (ax_code T mi) (ax_mx T mi) s args TB (ax_nm T mi).cls := ⟨hx, hb, hmx, hown, hts⟩
  have kk : ∀ (H1 : Heap) (locs1 : List Loc), ax_R b as D (ax_cl T) tA h1 H1 → va_S (fun q => b ≤ q) s.heap H1 locs1 → ax_E w h1 s.heap H1 → W p l e R s m args below meth c H1 locs1 (cells + (h1.2.1 - h.2.1)) (slots + (h1.2.2.1 - h.2.2.1)) Q (F0 m (pc + 3) a ((v.map (ax_tv as)).toList ++ r.map (ax_tv as))) := by
    intro H1 locs1 g1 g2 g3
    have := k H1 locs1 g1 g2 g3
    rw [List.map_append] at this
    cases v <;> exact this
  have hpre : ∀ (av0 : List Value), PreS s H (va_Pc (av0.map (ax_tv as)) (fun U => ax_R b as D (ax_cl T) tA h U.heap ∧ va_K D (ax_cl T) (ax_tys tA T) U ∧ ax_ro b as T U U.heap)) (av0.map (ax_tv as)) := by
    intro av0
    exact ⟨ax_blind T D tA b as av0 h, fun U hU hW => ⟨rfl, by rw [hU]; exact hR, va_K.moved hW.alike hK, by rw [hU]; exact ax_ro.moved hW (hX.kept hAs hS.2.1)⟩⟩
  have hE := hO.2.1 mi
  unfold ax_inv at hi
  split at hi
  · rename_i idx
    split at hi
    · rename_i hk
      obtain ⟨hk1, hk2, hk3⟩ := hk
      cases hi
      have hE := hE idx
      generalize hg : ax_pl T mi idx = x at *
      obtain ⟨x1, mj, n⟩ := x
      dsimp only at hk1 hk2 hk3 hM hc hs k kk ⊢
      have hst : st.map (ax_tv as) = (((st.take n).reverse.map (ax_tv as))).reverse ++ (st.drop n).map (ax_tv as) := by
        rw [← List.map_reverse, List.reverse_reverse, ← List.map_append, List.take_append_drop]
      have hlen : ((st.take n).reverse.map (ax_tv as)).length = n := by simp; omega
      rcases hk1 with rfl | rfl | rfl
      · simp only [ax_okE] at hE
        obtain ⟨g1, g2, g3, g4, g5⟩ := hE
        exact ax_callW (va_runS F hM ⟨ax_cb hO hts hRf hRl g3 g1 g4 g5, hts _ g2⟩ (hpre _) rfl hlen hsize hst (lv_room (by rw [ax_wsum]; exact hk3)) hd ⟨hc, hs⟩) hS hE0 kk
      · simp only [ax_okE] at hE
        obtain ⟨g1, g2, g3, g4, g5⟩ := hE
        exact ax_callW (va_runSN F hM ⟨ax_cn hO hts hRf hRl g3 g1 g4 g5, hts _ g2, trivial⟩ (hpre _) rfl hlen hsize hst (lv_room (by rw [ax_wsum]; exact hk3)) hd ⟨hc, hs⟩) hS hE0 kk
      · simp only [ax_okE] at hE
        obtain ⟨g1, g2, g3, g4, g5⟩ := hE
        have hcd := ax_cd_c g5.1
        have hg6 := g5.2.2.1
        exact ax_callW (ax_runSW (hh := ax_hs T mj) (bytes := ax_code T mj) (maxL := ax_mx T mj) (ret := ax_rt T mj) (n := n) F hM rfl rfl (by show d + 8 + 1 ≤ R.frames; omega) (by show 8 + (ax_mx T mj + 11) + (40 * d + 120) ≤ R.locals; omega) (ax_words hO hts (by rw [hcd]; exact g5.2.1)) (by rw [ax_w, hcd]; exact List.mem_cons_self) (hts _ g5.2.1) (hts _ g3) g5.2.2.2 (fun sig hsig => by rw [hsig] at g4; exact (Option.some.inj g4).symm) (hts _ g1) (hts _ g2) (hpre _) rfl hlen hsize hst (lv_room (by rw [ax_wsum]; exact hk3)) hd ⟨hc, hs⟩) hS hE0 kk
    · cases hi
  · rename_i idx
    split at hi
    · rename_i q r0 hdr
      split at hi
      · rename_i ci fs hq
        split at hi
        · rename_i hk
          obtain ⟨hk1, hk2, hk3⟩ := hk
          cases hi
          have hE := hE idx
          generalize hg : ax_pl T mi idx = x at *
          obtain ⟨x1, mj, n⟩ := x
          dsimp only at hk1 hk2 hk3 hM hc hs k kk hdr ⊢
          have hst : st.map (ax_tv as) = (((st.take n).reverse.map (ax_tv as))).reverse ++ .ref (as q) :: r.map (ax_tv as) := by
            rw [← List.map_reverse, List.reverse_reverse, show (.ref (as q) :: r.map (ax_tv as) : List Value) = (.ref q :: r).map (ax_tv as) from rfl, ← hdr, ← List.map_append, List.take_append_drop]
          have hn2 : n ≤ st.length := by
            have := congrArg List.length hdr
            simp at this
            omega
          have hlen : ((st.take n).reverse.map (ax_tv as)).length = n := by simp; omega
          cases hw : (ax_cl T)[ci]? with
          | none => rw [hw] at hk2; cases hk2
          | some w =>
            rw [hw] at hk2
            have hk2 : w.1 = (ax_nm T mj).cls := by simpa using hk2
            have hrecv : ∃ cell : Cell, H[as q]? = some cell ∧ cell.vm.isStatics = false ∧ s.vm.findClass (ax_nm T mj).cls = some cell.cls := by
              rw [← hk2]
              exact va_recv hK (hR.at hq) hw (q0 := 0) rfl
            have hpv : PreV s H (ax_nm T mj).cls (as q) (va_Pc ((Value.ref q :: (st.take n).reverse).map (ax_tv as)) (fun U => ax_R b as D (ax_cl T) tA h U.heap ∧ va_K D (ax_cl T) (ax_tys tA T) U ∧ ax_ro b as T U U.heap)) ((st.take n).reverse.map (ax_tv as)) :=
              ⟨(hpre (.ref q :: (st.take n).reverse)).1, hrecv, (hpre (.ref q :: (st.take n).reverse)).2⟩
            rcases hk1 with rfl | rfl
            · simp only [ax_okE] at hE
              obtain ⟨g1, g2, g3, g4, g5, g6⟩ := hE
              exact ax_callW (va_runV F hM ⟨ax_cb hO hts hRf hRl g4 g1 g5 g6, hts _ g2, hts _ g3⟩ hpv rfl hlen hsize hst (lv_room (by rw [ax_wsum]; exact hk3)) hd ⟨hc, hs⟩) hS hE0 kk
            · simp only [ax_okE] at hE
              obtain ⟨g1, g2, g3, g4, g5, g6⟩ := hE
              exact ax_callW (va_runVN F hM ⟨ax_cn hO hts hRf hRl g4 g1 g5 g6, hts _ g2, hts _ g3⟩ hpv rfl hlen hsize hst (lv_room (by rw [ax_wsum]; exact hk3)) hd ⟨hc, hs⟩) hS hE0 kk
        · cases hi
      · cases hi
    · cases hi
  · rename_i idx
    split at hi
    · rename_i q r0 hdr
      split at hi
      · rename_i hk
        obtain ⟨hk1, hk3⟩ := hk
        cases hi
        have hE := hE idx
        generalize hg : ax_pl T mi idx = x at *
        obtain ⟨x1, mj, n⟩ := x
        dsimp only at hk1 hk3 hM hc hs k kk hdr ⊢
        have hst : st.map (ax_tv as) = (((st.take n).reverse.map (ax_tv as))).reverse ++ .ref (as q) :: r.map (ax_tv as) := by
          rw [← List.map_reverse, List.reverse_reverse, show (.ref (as q) :: r.map (ax_tv as) : List Value) = (.ref q :: r).map (ax_tv as) from rfl, ← hdr, ← List.map_append, List.take_append_drop]
        have hn2 : n ≤ st.length := by
          have := congrArg List.length hdr
          simp at this
          omega
        have hlen : ((st.take n).reverse.map (ax_tv as)).length = n := by simp; omega
        rcases hk1 with rfl | rfl
        · simp only [ax_okE] at hE
          obtain ⟨g1, g2, g3, g4, g5, g6, g7⟩ := hE
          have hcb := ax_cb (R := R) (s := s) (args := args) (own := (ax_nm T mi).cls) (mc := h1.2.1 - h.2.1) (ms := h1.2.2.1 - h.2.2.1) hO hts hRf hRl g5 g1 g6 g7
          rw [g4] at hcb
          exact ax_callW (va_runI F hM ⟨hcb, g3, hts _ g2⟩ (hpre (.ref q :: (st.take n).reverse)) rfl hlen hsize hst (lv_room (by rw [ax_wsum]; exact hk3)) hd ⟨hc, hs⟩) hS hE0 kk
        · simp only [ax_okE] at hE
          obtain ⟨g1, g2, g3, g4, g5, g6, g7⟩ := hE
          have hcb := ax_cn (R := R) (s := s) (args := args) (own := (ax_nm T mi).cls) (mc := h1.2.1 - h.2.1) (ms := h1.2.2.1 - h.2.2.1) hO hts hRf hRl g5 g1 g6 g7
          rw [g4] at hcb
          exact ax_callW (va_runIN F hM ⟨hcb, g3, hts _ g2⟩ (hpre (.ref q :: (st.take n).reverse)) rfl hlen hsize hst (lv_room (by rw [ax_wsum]; exact hk3)) hd ⟨hc, hs⟩) hS hE0 kk
      · cases hi
    · cases hi
  · cases hi
end AX3
