/-! an exception that is caught by the first row of the caller's table, whose class may be resolved there first -/
theorem ax_findCold {e : Env} {s : State} {f : JFrame} {a : Addr} {meth : Method} {code : Code} (hm : s.vm.method? f.method = some meth) (hc : meth.code = some code) {x : ExceptionTableEntry} {rest : List ExceptionTableEntry} (htab : code.exceptionTable.toList = x :: rest) (hx : covers x f.pc = true) (h0 : x.catchType ≠ 0) {cX : ClassId} {vm' : Vm}
    (hg : (Jvm.resolveClass f.method.cls x.catchType).Gives e.toSetting s.vm (.ok cX) vm') (hsz : vm'.classes.size ≤ s.vm.classes.size) {cell : Cell} (hcell : s.heap[a]? = some cell) (hobj : ∀ k, cell.vm ≠ .statics k) (hk : ∃ k, vm'.classes[cell.cls]? = some k) (hcl : ∃ k, vm'.classes[cX]? = some k) (hfit : vm'.assignable cell.cls cX = true) :
    ∀ (Q : Handler → Pre) (E : CtlPost) (d : Bool) (acts : List Action), wp (findHandler f a) Q E e d acts s ↔ Q (.found x.handlerPc) d acts (s.setVm vm') := by
  intro Q E d acts
  obtain ⟨ha, ht⟩ := hg.op (op := VmOp.resolveClass f.method.cls x.catchType) rfl
  rw [W.findHandler_eq hm hc, htab]
  simp only [covers] at hx
  simp [findHandler.go, hx, h0, ha, ht, hsz, hcell, hobj, hk, hcl, hfit, VmOp.dirties, VmOp.acts]
theorem ax_findCold2 {e : Env} {s : State} {f : JFrame} {a : Addr} {meth : Method} {code : Code} (hm : s.vm.method? f.method = some meth) (hc : meth.code = some code) {x y : ExceptionTableEntry} {rest : List ExceptionTableEntry} (htab : code.exceptionTable.toList = x :: y :: rest) (hx : covers x f.pc = true) (h0 : x.catchType ≠ 0) (hy : covers y f.pc = true) (h1 : y.catchType ≠ 0) {cX cY : ClassId} {vm1 vm2 : Vm}
    (hg : (Jvm.resolveClass f.method.cls x.catchType).Gives e.toSetting s.vm (.ok cX) vm1) (hsz : vm1.classes.size ≤ s.vm.classes.size) (hg2 : (Jvm.resolveClass f.method.cls y.catchType).Gives e.toSetting vm1 (.ok cY) vm2) (hsz2 : vm2.classes.size ≤ vm1.classes.size) {cell : Cell} (hcell : s.heap[a]? = some cell) (hobj : ∀ k, cell.vm ≠ .statics k) (hk : ∃ k, vm1.classes[cell.cls]? = some k) (hcl : ∃ k, vm1.classes[cX]? = some k) (hno : vm1.assignable cell.cls cX = false) (hk2 : ∃ k, vm2.classes[cell.cls]? = some k) (hcl2 : ∃ k, vm2.classes[cY]? = some k) (hfit : vm2.assignable cell.cls cY = true) :
    ∀ (Q : Handler → Pre) (E : CtlPost) (d : Bool) (acts : List Action), wp (findHandler f a) Q E e d acts s ↔ Q (.found y.handlerPc) d acts (s.setVm vm2) := by
  intro Q E d acts
  obtain ⟨ha, ht⟩ := hg.op (op := VmOp.resolveClass f.method.cls x.catchType) rfl
  obtain ⟨ha2, ht2⟩ := hg2.op (op := VmOp.resolveClass f.method.cls y.catchType) rfl
  rw [W.findHandler_eq hm hc, htab]
  simp only [covers] at hx hy
  simp [findHandler.go, hx, h0, hy, h1, ha, ht, ha2, ht2, hsz, hsz2, hcell, hobj, hk, hcl, hno, hk2, hcl2, hfit, VmOp.dirties, VmOp.acts]
  exact Iff.rfl
theorem ax_stepCatch {e : Env} {s : State} {a : Addr} {f : JFrame} {r : List Frame} {pc : Nat} {vm' : Vm} (hfind : ∀ (Q : Handler → Pre) (E : CtlPost) (d : Bool) (acts : List Action), wp (findHandler f a) Q E e d acts s ↔ Q (.found pc) d acts (s.setVm vm')) :
    (stepThrowing e s a (.java f :: r)).Is ((s.setVm vm').setFrames (.java { f with pc := pc, stack := [.ref a] } :: r)) [] := by
  simp only [stepThrowing, searchFrame, vmDo]
  generalize hr : Sem.go _ e false [] s = res
  obtain ⟨as, rfl, ha⟩ := Sem.eq_ok_of hr (a := Handler.found pc) (s' := s.setVm vm') (acts' := []) (by simp [hfind])
  exact ⟨rfl, ha⟩
section AX3c
variable {p : Program} {l : Launch} {e : Env} {R : Room} {s : State} {m : MethodId} {args : Array Value} {below : List Frame} {meth : Method} {c : Code} {T : State} {locs : List Loc} {cells slots : Nat}
theorem ax_caught (X : Stand p l e R s m args below meth c T locs cells slots) {own C : String} {x : ExceptionTableEntry} {rest : List ExceptionTableEntry} {g : JFrame} (hg : g.method = m) (htab : c.exceptionTable.toList = x :: rest) (hx : covers x g.pc = true) (h0 : x.catchType ≠ 0)
    (hown : s.vm.findClass own = some m.cls) (hlink : (Jvm.Cond.classLink own x.catchType C).before args s = true) {a : Addr} {cell : Cell} (hcell : T.heap[a]? = some cell) (hvm : cell.vm = .none) (hcls : s.vm.findClass C = some cell.cls) :
    ∃ vm' : Vm, s.WarmedH vm' ∧ Stand p l e R s m args below meth c (T.setVm vm') locs cells slots ∧ ∀ tg, Steps p.tables e below ((T.setVm vm').setTop { g with pc := x.handlerPc, stack := [.ref a] }) tg → Steps p.tables e below ((T.setTop g).pushFrame (.throwing a)) tg := by
  subst hg
  have hpl : e.platform.magicAccessors = ({} : Platform).magicAccessors := by rw [X.admits.platform]
  obtain ⟨cX, hfc, hcl⟩ := Cond.classLink_spec hown hlink e.platform hpl
  cases hcls.symm.trans hfc
  obtain ⟨hg1, hw1, hr1⟩ := State.classEntry (e := e) X.warmed hcl
  generalize T.vm.noted g.method.cls x.catchType (.cls cell.cls) = vm₁ at hg1 hw1 hr1
  have hal : T.vm.Alike vm₁ := X.warmed.alike.symm.trans hw1.alike
  obtain ⟨kX, hkX, -⟩ := Vm.findClass_spec hcls
  obtain ⟨kX1, hkX1, -⟩ := hw1.alike.2.2 _ _ hkX
  refine ⟨vm₁, hw1, X.noted hw1, fun tg htg => ?_⟩
  have h : At T g.method c below := X.here
  have hfind := ax_findCold (e := e) (s := (T.setTop g).pushFrame (.throwing a)) (f := g) (a := a) (meth := meth) (code := c) (by rw [throwing_vm]; exact X.method') X.code htab hx h0 (by rw [throwing_vm]; exact hg1) (by rw [throwing_vm, hal.2.1]; exact Nat.le_refl _) (by rw [throwing_heap]; exact hcell) (fun k hk => by rw [hvm] at hk; cases hk) ⟨_, hkX1⟩ ⟨_, hkX1⟩ (by show vm₁.assignableAux (255 + 1) cell.cls cell.cls = true; rw [Vm.assignableAux, Bool.or_eq_true, beq_iff_eq]; exact Or.inl rfl)
  obtain ⟨hgo, hw⟩ := h.throwing a
  refine Steps.head hgo hw ?_
  rw [stepThread_throwing (frames_entered h.top _), (ax_stepCatch (s := (T.setTop g).pushFrame (.throwing a)) hfind).1]
  obtain ⟨g₀, hg0⟩ := Option.isSome_iff_exists.mp h.top
  obtain ⟨r, hr⟩ := State.topJava?_eq_some.mp hg0
  have hr' : (T.setVm vm₁).frames = .java g₀ :: r := hr
  rw [State.setTop_of_frames _ hr'] at htg
  rw [State.pushFrame, State.setTop_of_frames _ hr, State.setFrames_setFrames, hr]
  have e1 : ∀ F : List Frame, (T.setFrames F).setVm vm₁ = (T.setVm vm₁).setFrames F := fun _ => rfl
  rw [e1, State.setFrames_setFrames]
  exact htg
theorem ax_caught2 (X : Stand p l e R s m args below meth c T locs cells slots) {own C D : String} {x y : ExceptionTableEntry} {rest : List ExceptionTableEntry} {g : JFrame} (hg : g.method = m) (htab : c.exceptionTable.toList = x :: y :: rest) (hx : covers x g.pc = true) (h0 : x.catchType ≠ 0) (hy : covers y g.pc = true) (h1 : y.catchType ≠ 0)
    (hown : s.vm.findClass own = some m.cls) (hlink : (Jvm.Cond.classLink own x.catchType C).before args s = true) (hlink2 : (Jvm.Cond.classLink own y.catchType D).before args s = true) (hno : ∀ c1 c2 : ClassId, s.vm.findClass C = some c1 → s.vm.findClass D = some c2 → s.vm.assignable c2 c1 = false) {a : Addr} {cell : Cell} (hcell : T.heap[a]? = some cell) (hvm : cell.vm = .none) (hcls : s.vm.findClass D = some cell.cls) :
    ∃ vm' : Vm, s.WarmedH vm' ∧ Stand p l e R s m args below meth c (T.setVm vm') locs cells slots ∧ ∀ tg, Steps p.tables e below ((T.setVm vm').setTop { g with pc := y.handlerPc, stack := [.ref a] }) tg → Steps p.tables e below ((T.setTop g).pushFrame (.throwing a)) tg := by
  subst hg
  have hpl : e.platform.magicAccessors = ({} : Platform).magicAccessors := by rw [X.admits.platform]
  obtain ⟨cX, hfc, hcl⟩ := Cond.classLink_spec hown hlink e.platform hpl
  obtain ⟨cY, hfc2, hcl2⟩ := Cond.classLink_spec hown hlink2 e.platform hpl
  cases hcls.symm.trans hfc2
  obtain ⟨hg1, hw1, hr1⟩ := State.classEntry (e := e) X.warmed hcl
  generalize T.vm.noted g.method.cls x.catchType (.cls cX) = vm₁ at hg1 hw1 hr1
  have X1 := X.noted hw1
  obtain ⟨hg2, hw2, hr2⟩ := State.classEntry (e := e) X1.warmed hcl2
  have hg2 : (Jvm.resolveClass g.method.cls y.catchType).Gives e.toSetting vm₁ (.ok cell.cls) ((T.setVm vm₁).vm.noted g.method.cls y.catchType (.cls cell.cls)) := hg2
  generalize (T.setVm vm₁).vm.noted g.method.cls y.catchType (.cls cell.cls) = vm₂ at hg2 hw2 hr2
  have hal : T.vm.Alike vm₁ := X.warmed.alike.symm.trans hw1.alike
  have hal2 : vm₁.Alike vm₂ := hw1.alike.symm.trans hw2.alike
  obtain ⟨kX, hkX, -⟩ := Vm.findClass_spec hcls
  obtain ⟨kC, hkC, -⟩ := Vm.findClass_spec hfc
  obtain ⟨kX1, hkX1, -⟩ := hw1.alike.2.2 _ _ hkX
  obtain ⟨kC1, hkC1, -⟩ := hw1.alike.2.2 _ _ hkC
  obtain ⟨kX2, hkX2, -⟩ := hw2.alike.2.2 _ _ hkX
  refine ⟨vm₂, hw2, X.noted hw2, fun tg htg => ?_⟩
  have h : At T g.method c below := X.here
  have hfind := ax_findCold2 (e := e) (s := (T.setTop g).pushFrame (.throwing a)) (f := g) (a := a) (meth := meth) (code := c) (by rw [throwing_vm]; exact X.method') X.code htab hx h0 hy h1 (by rw [throwing_vm]; exact hg1) (by rw [throwing_vm, hal.2.1]; exact Nat.le_refl _) hg2 (by rw [hal2.2.1]; exact Nat.le_refl _) (by rw [throwing_heap]; exact hcell) (fun k hk => by rw [hvm] at hk; cases hk) ⟨_, hkX1⟩ ⟨_, hkC1⟩ (by rw [hw1.alike.assignable]; exact hno cX cell.cls hfc hcls) ⟨_, hkX2⟩ ⟨_, hkX2⟩ (by show vm₂.assignableAux (255 + 1) cell.cls cell.cls = true; rw [Vm.assignableAux, Bool.or_eq_true, beq_iff_eq]; exact Or.inl rfl)
  obtain ⟨hgo, hw⟩ := h.throwing a
  refine Steps.head hgo hw ?_
  rw [stepThread_throwing (frames_entered h.top _), (ax_stepCatch (s := (T.setTop g).pushFrame (.throwing a)) hfind).1]
  obtain ⟨g₀, hg0⟩ := Option.isSome_iff_exists.mp h.top
  obtain ⟨r, hr⟩ := State.topJava?_eq_some.mp hg0
  have hr' : (T.setVm vm₂).frames = .java g₀ :: r := hr
  rw [State.setTop_of_frames _ hr'] at htg
  rw [State.pushFrame, State.setTop_of_frames _ hr, State.setFrames_setFrames, hr]
  have e1 : ∀ F : List Frame, (T.setFrames F).setVm vm₂ = (T.setVm vm₂).setFrames F := fun _ => rfl
  rw [e1, State.setFrames_setFrames]
  exact htg
end AX3c
