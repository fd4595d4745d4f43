/-! an exception that is caught by the first row of the caller's table, whose class may be resolved there first -/
theorem ax_findCold {e : Env} {s : State} {f : JFrame} {a : Addr} {meth : Method} {code : Code} (hm : s.vm.method? f.method = some meth) (hc : meth.code = some code) {x : ExceptionTableEntry} {rest : List ExceptionTableEntry} (htab : code.exceptionTable.toList = x :: rest) (hx : covers x f.pc = true) (h0 : x.catchType ≠ 0) {cX : ClassId} {vm' : Vm}
    (hg : (Jvm.resolveClass f.method.cls x.catchType).Gives e.toSetting s.vm (.ok cX) vm') (hsz : vm'.classes.size ≤ s.vm.classes.size) {cell : Cell} (hcell : s.heap[a]? = some cell) (hobj : ∀ k, cell.vm ≠ .statics k) (hk : ∃ k, vm'.classes[cell.cls]? = some k) (hcl : ∃ k, vm'.classes[cX]? = some k) (hfit : vm'.assignable cell.cls cX = true) :
    ∀ (Q : Handler → Pre) (E : CtlPost) (d : Bool) (acts : List Action), wp (findHandler f a) Q E e d acts s ↔ Q (.found x.handlerPc) d acts (s.setVm vm') := by
  intro Q E d acts
  obtain ⟨ha, ht⟩ := hg.op (op := VmOp.resolveClass f.method.cls x.catchType) rfl
  rw [W.findHandler_eq hm hc, htab]
  simp only [covers] at hx
  simp [findHandler.go, hx, h0, ha, ht, hsz, hcell, hobj, hk, hcl, hfit, VmOp.dirties, VmOp.acts]
theorem ax_stepCatch {e : Env} {s : State} {a : Addr} {f : JFrame} {r : List Frame} {pc : Nat} {vm' : Vm} (hfind : ∀ (Q : Handler → Pre) (E : CtlPost) (d : Bool) (acts : List Action), wp (findHandler f a) Q E e d acts s ↔ Q (.found pc) d acts (s.setVm vm')) :
    (stepThrowing e s a (.java f :: r)).Is ((s.setVm vm').setFrames (.java { f with pc := pc, stack := [.ref a] } :: r)) [] := by
  simp only [stepThrowing, searchFrame, vmDo]
  generalize hr : Sem.go _ e false [] s = res
  obtain ⟨as, rfl, ha⟩ := Sem.eq_ok_of hr (a := Handler.found pc) (s' := s.setVm vm') (acts' := []) (by simp [hfind])
  exact ⟨rfl, ha⟩
section AX3c
variable {p : Program} {l : Launch} {e : Env} {R : Room} {s : State} {m : MethodId} {args : Array Value} {below : List Frame} {meth : Method} {c : Code} {T : State} {locs : List Loc} {cells slots : Nat}
theorem ax_caught (X : Stand p l e R s m args below meth c T locs cells slots) {own C : String} {x : ExceptionTableEntry} {rest : List ExceptionTableEntry} {g : JFrame} (hg : g.method = m) (htab : c.exceptionTable.toList = x :: rest) (hx : covers x g.pc = true) (h0 : x.catchType ≠ 0)
    (hown : s.vm.findClass own = some m.cls) (hlink : (Jvm.Cond.classLink own x.catchType C).before args s = true) {a : Addr} {cell : Cell} (hcell : T.heap[a]? = some cell) (hvm : cell.vm = .none) (hcls : s.vm.findClass C = some cell.cls) :
    ∃ vm' : Vm, s.WarmedH vm' ∧ Stand p l e R s m args below meth c (T.setVm vm') locs cells slots ∧ ∀ tg, Steps p.tables e below ((T.setVm vm').setTop { g with pc := x.handlerPc, stack := [.ref a] }) tg → Steps p.tables e below ((T.setTop g).pushFrame (.throwing a)) tg := by
  subst hg
  have hpl : e.platform.magicAccessors = ({} : Platform).magicAccessors := by rw [X.admits.platform]
  obtain ⟨cX, hfc, hcl⟩ := Cond.classLink_spec hown hlink e.platform hpl
  cases hcls.symm.trans hfc
  obtain ⟨hg1, hw1, hr1⟩ := State.classEntry (e := e) X.warmed hcl
  generalize T.vm.noted g.method.cls x.catchType (.cls cell.cls) = vm₁ at hg1 hw1 hr1
  have hal : T.vm.Alike vm₁ := X.warmed.alike.symm.trans hw1.alike
  obtain ⟨kX, hkX, -⟩ := Vm.findClass_spec hcls
  obtain ⟨kX1, hkX1, -⟩ := hw1.alike.2.2 _ _ hkX
  refine ⟨vm₁, hw1, X.noted hw1, fun tg htg => ?_⟩
  have h : At T g.method c below := X.here
  have hfind := ax_findCold (e := e) (s := (T.setTop g).pushFrame (.throwing a)) (f := g) (a := a) (meth := meth) (code := c) (by rw [throwing_vm]; exact X.method') X.code htab hx h0 (by rw [throwing_vm]; exact hg1) (by rw [throwing_vm, hal.2.1]; exact Nat.le_refl _) (by rw [throwing_heap]; exact hcell) (fun k hk => by rw [hvm] at hk; cases hk) ⟨_, hkX1⟩ ⟨_, hkX1⟩ (by show vm₁.assignableAux (255 + 1) cell.cls cell.cls = true; rw [Vm.assignableAux, Bool.or_eq_true, beq_iff_eq]; exact Or.inl rfl)
  obtain ⟨hgo, hw⟩ := h.throwing a
  refine Steps.head hgo hw ?_
  rw [stepThread_throwing (frames_entered h.top _), (ax_stepCatch (s := (T.setTop g).pushFrame (.throwing a)) hfind).1]
  obtain ⟨g₀, hg0⟩ := Option.isSome_iff_exists.mp h.top
  obtain ⟨r, hr⟩ := State.topJava?_eq_some.mp hg0
  have hr' : (T.setVm vm₁).frames = .java g₀ :: r := hr
  rw [State.setTop_of_frames _ hr'] at htg
  rw [State.pushFrame, State.setTop_of_frames _ hr, State.setFrames_setFrames, hr]
  have e1 : ∀ F : List Frame, (T.setFrames F).setVm vm₁ = (T.setVm vm₁).setFrames F := fun _ => rfl
  rw [e1, State.setFrames_setFrames]
  exact htg
end AX3c
