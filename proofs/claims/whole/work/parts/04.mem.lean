/-! what the tables must say of the abstract machine's tables -/
def ax_tys (tA : Nat → ClassId) (T : ax_T) : List (ClassId × FieldType) := (List.range (ax_ty T).length).map (fun t => (tA t, (ax_ty T).getD t .int))
theorem ax_tys_at {tA : Nat → ClassId} {T : ax_T} {t : Nat} {ty : FieldType} (h : (ax_ty T)[t]? = some ty) : (ax_tys tA T)[t]? = some (tA t, ty) := by
  have hl : t < (ax_ty T).length := (List.getElem?_eq_some_iff.mp h).1
  simp [ax_tys, hl, List.getD, h]
  exact (List.getElem?_eq_some_iff.mp h).2
def ax_okC (TB : List Jvm.Cond) (T : ax_T) : Prop := ∀ (ci : Nat) (q : vw_C), (ax_cl T)[ci]? = some q →
  (∀ w ∈ u_ws q.1 q.2.1 q.2.2, w ∈ TB) ∧ (∀ k, k < q.2.2 → parseFieldDescriptor (q.2.1 k).2.2.1 = some (ax_fty T ci k)) ∧ (∀ a, a < q.2.2 → ∀ b, b < q.2.2 → a ≠ b → (q.2.1 a).2.1 ≠ (q.2.1 b).2.1)
def ax_en (n : Nat) : String := if n = 1 then "java/lang/IllegalArgumentException" else "java/lang/IllegalStateException"
def ax_up2 : List String := ["java/lang/RuntimeException", "java/lang/Exception"]
def ax_zs : List Jvm.Cond := [.isRef (.static Bundle.tN "UNASSIGNED_STACK" Bundle.steD), .isRef (.static Bundle.tN "SUPPRESSED_SENTINEL" Bundle.listD), .laysStatic Bundle.tN "UNASSIGNED_STACK" Bundle.steD, .laysStatic Bundle.tN "SUPPRESSED_SENTINEL" Bundle.listD]
/-- what the tables must say of 'new X; dup; X.<init>; athrow' -/
def ax_okT (TB : List Jvm.Cond) (own : String) (idx ic n : Nat) : Prop := Jvm.Cond.classLink own idx (ax_en n) ∈ TB ∧ Jvm.Cond.instantiable (ax_en n) 6 ∈ TB ∧ Jvm.Cond.initialized (ax_en n) ∈ TB ∧ Bundle.fit (ax_en n) = true ∧ (∀ w ∈ Bundle.ownAtoms0 own ic (ax_en n) ax_up2, w ∈ TB ∨ w ∈ ax_zs)
/-- a method that is called -/
def ax_okM (TB : List Jvm.Cond) (T : ax_T) (mi : Nat) : Prop := ax_hs T mi = [] ∧ Jvm.Cond.code (ax_nm T mi) (ax_code T mi) (ax_mx T mi) (ax_rt T mi) ∈ TB ∧ ax_mx T mi ≤ 21 ∧ (ax_nm T mi).cls ≠ "java/lang/invoke/MethodHandle" ∧ (ax_nm T mi).cls ≠ "java/lang/invoke/VarHandle"
/-- .. one with handlers -/
def ax_okW (TB : List Jvm.Cond) (T : ax_T) (mi : Nat) : Prop := ax_hs T mi ≠ [] ∧ Jvm.Cond.codeWith (ax_nm T mi) (ax_code T mi) (ax_mx T mi) (ax_rt T mi) (ax_hs T mi) ∈ TB ∧ ax_mx T mi ≤ 21 ∧ (ax_nm T mi).cls ≠ "java/lang/invoke/MethodHandle" ∧ (ax_nm T mi).cls ≠ "java/lang/invoke/VarHandle"
/-- an entry of the pool of the class own is what the tables say -/
def ax_okE (TB : List Jvm.Cond) (T : ax_T) (own : String) (idx : Nat) (x : Nat × Nat × Nat) : Prop := match x with
  | (1, ci, k) => match (ax_cl T)[ci]? with
    | some q => k < q.2.2 ∧ Jvm.Cond.fieldLink own idx (q.2.1 k).1 (q.2.1 k).2.1 (q.2.1 k).2.2.1 ∈ TB
    | none => False
  | (2, ci, k) => match (ax_cl T)[ci]? with
    | some q => k < q.2.2 ∧ Jvm.Cond.fieldLinkNest own idx (q.2.1 k).1 (q.2.1 k).2.1 (q.2.1 k).2.2.1 "MailGuard" ∈ TB
    | none => False
  | (4, ci, n) => match (ax_cl T)[ci]? with
    | some q => n = q.2.2 ∧ Jvm.Cond.classLink own idx q.1 ∈ TB ∧ Jvm.Cond.instantiable q.1 n ∈ TB ∧ Jvm.Cond.initialized q.1 ∈ TB
    | none => False
  | (6, mj, n) => Jvm.Cond.methodLink own idx (ax_nm T mj) ∈ TB ∧ Jvm.Cond.static (ax_nm T mj) ∈ TB ∧ Jvm.Cond.initialized (ax_nm T mj).cls ∈ TB ∧ (parseMethodDescriptor (ax_nm T mj).desc).map (fun d => d.parameters.length) = some n ∧ ax_okM TB T mj
  | (16, mj, n) => Jvm.Cond.methodLinkNest own idx (ax_nm T mj) "MailGuard" ∈ TB ∧ Jvm.Cond.static (ax_nm T mj) ∈ TB ∧ Jvm.Cond.initialized (ax_nm T mj).cls ∈ TB ∧ (parseMethodDescriptor (ax_nm T mj).desc).map (fun d => d.parameters.length) = some n ∧ ax_okM TB T mj
  | (7, mj, n) => Jvm.Cond.methodLink own idx (ax_nm T mj) ∈ TB ∧ Jvm.Cond.instanceMethod (ax_nm T mj) ∈ TB ∧ Jvm.Cond.selects (ax_nm T mj).cls (ax_nm T mj) (ax_nm T mj) ∈ TB ∧ Jvm.Cond.initialized (ax_nm T mj).cls ∈ TB ∧ (parseMethodDescriptor (ax_nm T mj).desc).map (fun d => d.parameters.length) = some n ∧ ax_okM TB T mj
  | (17, mj, n) => Jvm.Cond.methodLinkNest own idx (ax_nm T mj) "MailGuard" ∈ TB ∧ Jvm.Cond.instanceMethod (ax_nm T mj) ∈ TB ∧ Jvm.Cond.selects (ax_nm T mj).cls (ax_nm T mj) (ax_nm T mj) ∈ TB ∧ Jvm.Cond.initialized (ax_nm T mj).cls ∈ TB ∧ (parseMethodDescriptor (ax_nm T mj).desc).map (fun d => d.parameters.length) = some n ∧ ax_okM TB T mj
  | (8, mj, n) => Jvm.Cond.methodLink own idx (ax_nm T mj) ∈ TB ∧ Jvm.Cond.instanceMethod (ax_nm T mj) ∈ TB ∧ (ax_nm T mj).name = "<init>" ∧ ax_rt T mj = none ∧ Jvm.Cond.initialized (ax_nm T mj).cls ∈ TB ∧ (parseMethodDescriptor (ax_nm T mj).desc).map (fun d => d.parameters.length) = some n ∧ ax_okM TB T mj
  | (18, mj, n) => Jvm.Cond.methodLinkNest own idx (ax_nm T mj) "MailGuard" ∈ TB ∧ Jvm.Cond.instanceMethod (ax_nm T mj) ∈ TB ∧ (ax_nm T mj).name = "<init>" ∧ ax_rt T mj = none ∧ Jvm.Cond.initialized (ax_nm T mj).cls ∈ TB ∧ (parseMethodDescriptor (ax_nm T mj).desc).map (fun d => d.parameters.length) = some n ∧ ax_okM TB T mj
  | (26, mj, n) => Jvm.Cond.methodLink own idx (ax_nm T mj) ∈ TB ∧ Jvm.Cond.static (ax_nm T mj) ∈ TB ∧ Jvm.Cond.initialized (ax_nm T mj).cls ∈ TB ∧ (parseMethodDescriptor (ax_nm T mj).desc).map (fun d => d.parameters.length) = some n ∧ ax_okW TB T mj
  | (10, n, ic) => ax_okT TB own idx ic n
  | (12, n, _) => Jvm.Cond.classLink own idx (ax_en n) ∈ TB
  | (11, v, _) => Jvm.Cond.constantLong own idx (Int64.ofNat v) ∈ TB
  | (13, k, _) => ∃ q, ax_str[k]? = some q ∧ q.1 = own ∧ q.2.1 = idx
  | (14, _, _) => Jvm.Cond.methodLink own idx Lib.Str.length.name ∈ TB ∧ Jvm.Cond.instanceMethod Lib.Str.length.name ∈ TB ∧ Jvm.Cond.selects Lib.str Lib.Str.length.name Lib.Str.length.name ∈ TB ∧ ∀ w ∈ sx_wl, w ∈ TB
  | (15, _, _) => Jvm.Cond.methodLink own idx Lib.Str.charAt.name ∈ TB ∧ Jvm.Cond.instanceMethod Lib.Str.charAt.name ∈ TB ∧ Jvm.Cond.selects Lib.str Lib.Str.charAt.name Lib.Str.charAt.name ∈ TB ∧ ∀ w ∈ sx_wc, w ∈ TB
  | (19, _, _) => Jvm.Cond.methodLink own idx Lib.Math.min.name ∈ TB ∧ Jvm.Cond.static Lib.Math.min.name ∈ TB ∧ Jvm.Cond.initialized "java/lang/Math" ∈ TB ∧ Jvm.Cond.code Lib.Math.min.name Lib.Math.min.code 2 (some .int) ∈ TB
  | (20, _, _) => Jvm.Cond.methodLink own idx Lib.Math.max.name ∈ TB ∧ Jvm.Cond.static Lib.Math.max.name ∈ TB ∧ Jvm.Cond.initialized "java/lang/Math" ∈ TB ∧ Jvm.Cond.code Lib.Math.max.name Lib.Math.max.code 2 (some .int) ∈ TB
  | (9, _, _) => Jvm.Cond.methodLink own idx objectInit ∈ TB ∧ Jvm.Cond.instanceMethod objectInit ∈ TB ∧ Jvm.Cond.code objectInit ⟨#[0xb1]⟩ 1 none ∈ TB
  | _ => True
def ax_okP (TB : List Jvm.Cond) (T : ax_T) : Prop := ∀ mi idx, ax_okE TB T (ax_nm T mi).cls idx (ax_pl T mi idx)
/-- the array classes' words -/
def ax_okA (TB : List Jvm.Cond) (T : ax_T) : Prop := ∀ ty ∈ ax_ty T, (match ty with | .int | .char | .long => Jvm.Cond.arrayClass ty ∈ TB | .object _ => Jvm.Cond.arrayOver ty ∈ TB | _ => True)
theorem ax_R.at {b : Nat} {as : Nat → Nat} {D : va_G} {cl : List vw_C} {tA : Nat → ClassId} {h : ax_H} {H : Heap} (hR : ax_R b as D cl tA h H) {a : Nat} {c : ax_C} (ha : h.1 a = some c) : va_P D cl [(as a, ax_tc as tA c)] H := by
  intro k q hq
  have hk : k < 1 := (List.getElem?_eq_some_iff.mp hq).1
  rw [show k = 0 by omega] at hq
  cases hq
  exact (hR.2.2 a c ha).2
theorem ax_R.up {b : Nat} {as : Nat → Nat} {D : va_G} {cl : List vw_C} {tA : Nat → ClassId} {h : ax_H} {H H1 : Heap} (hA : ax_As b as) (hR : ax_R b as D cl tA h H) {a : Nat} {c0 c : ax_C} (ha : h.1 a = some c0) (hlt : a < h.2.1) (hz : H1.size = H.size) (ho : ∀ q : Nat, q ≠ as a → H1[q]? = H[q]?) (hc : va_at D cl (as a, ax_tc as tA c) H1) : ax_R b as D cl tA (ax_up h a c) H1 := by
  refine ⟨by rw [hz]; exact hR.1, hR.2.1, fun i c' hi => ?_⟩
  by_cases hia : i = a
  · subst hia
    simp only [ax_up, if_true, Option.some.injEq] at hi
    subst hi
    exact ⟨Or.inl hlt, hc⟩
  · simp only [ax_up, if_neg hia] at hi
    obtain ⟨h1, h2⟩ := hR.2.2 i c' hi
    refine ⟨h1, h2.kept (ho _ ?_)⟩
    show as i ≠ as a
    have hab := hR.2.1
    have e1 := hA.1 a (by omega)
    rcases h1 with h1 | h1
    · rw [hA.1 i (by omega), e1]; omega
    · have := hA.2 i h1
      omega
theorem ax_R.add {b : Nat} {as : Nat → Nat} {D : va_G} {cl : List vw_C} {tA : Nat → ClassId} {h : ax_H} {H H1 : Heap} (hR : ax_R b as D cl tA h H) {c : ax_C} {n : Nat} (hbig : h.2.1 < ax_big) (hz : H1.size = H.size + 1) (ho : ∀ q : Nat, q < H.size → H1[q]? = H[q]?) (hc : va_at D cl (as h.2.1, ax_tc as tA c) H1) : ax_R b as D cl tA (ax_add h c n) H1 := by
  refine ⟨by rw [hz, hR.1]; show b + h.2.1 + 1 = b + (h.2.1 + 1); omega, hbig, fun i c' hi => ?_⟩
  by_cases hia : i = h.2.1
  · subst hia
    simp only [ax_add, if_true, Option.some.injEq] at hi
    subst hi
    exact ⟨Or.inl (Nat.lt_succ_self _), hc⟩
  · simp only [ax_add, if_neg hia] at hi
    obtain ⟨h1, h2⟩ := hR.2.2 i c' hi
    exact ⟨h1.imp Nat.lt_succ_of_lt id, h2.kept (ho _ h2.lt)⟩
theorem ax_Sput {b : Nat} {as : Nat → Nat} {H0 H H1 : Heap} {locs : List Loc} {a k : Nat} (hA : ax_As b as) (ha : a < ax_big) (h : va_S (fun q => b ≤ q) H0 H locs) (z : H1.size = H.size) (oq : ∀ q : Nat, q ≠ as a → H1[q]? = H[q]?) : va_S (fun q => b ≤ q) H0 H1 (locs ++ [⟨as a, k⟩]) := va_S.put h z oq (by show b ≤ as a; rw [hA.1 a ha]; omega)
theorem ax_Sadd {b : Nat} {H0 H H1 : Heap} {locs : List Loc} (h : va_S (fun q => b ≤ q) H0 H locs) (z : H1.size = H.size + 1) (oq : ∀ q : Nat, q < H.size → H1[q]? = H[q]?) : va_S (fun q => b ≤ q) H0 H1 locs :=
  ⟨Nat.le_trans h.1 (by omega), fun x h1 h2 => (oq x (Nat.lt_of_lt_of_le h1 h.1)).trans (h.2.1 x h1 h2), h.2.2⟩
/-- no old cell has changed while nothing was written (w: the writes at the method's entry) -/
def ax_E (w : Nat) (h : ax_H) (H0 H : Heap) : Prop := w ≤ h.2.2.2 ∧ (h.2.2.2 = w → ∀ q : Nat, q < H0.size → H[q]? = H0[q]?)
theorem ax_E.put {w : Nat} {h : ax_H} {H0 H H1 : Heap} {a : Nat} {c : ax_C} (hE : ax_E w h H0 H) : ax_E w (ax_up h a c) H0 H1 := ⟨Nat.le_succ_of_le hE.1, fun q => by
  have h1 : h.2.2.2 + 1 = w := q
  have h2 := hE.1
  omega⟩
theorem ax_E.add {w n : Nat} {h : ax_H} {H0 H H1 : Heap} {c : ax_C} (hE : ax_E w h H0 H) (hz : H0.size ≤ H.size) (oq : ∀ q : Nat, q < H.size → H1[q]? = H[q]?) : ax_E w (ax_add h c n) H0 H1 := ⟨hE.1, fun q z hz1 => (oq z (Nat.lt_of_lt_of_le hz1 hz)).trans (hE.2 q z hz1)⟩
theorem ax_fit_tv {as : Nat → Nat} {ty : FieldType} {v : Value} (h : ax_fit ty v = true) : narrow ty (ax_tv as v) = ax_tv as v ∧ fits ty (ax_tv as v) = true := by
  simp only [ax_fit, Bool.and_eq_true, decide_eq_true_eq] at h
  cases v <;> first | exact h | (cases ty <;> simp_all [ax_tv, narrow, fits])
theorem ax_rf (as : Nat → Nat) (o : Option Nat) : ax_tv as (va_rf o) = va_rf (o.map as) := by cases o <;> rfl
theorem ax_def_tv (as : Nat → Nat) (ty : FieldType) : ax_tv as (defaultValue ty) = defaultValue ty := by cases ty <;> rfl
section AX2
variable {p : Program} {l : Launch} {e : Env} {R : Room} {s : State} {m : MethodId} {args : Array Value} {below : List Frame} {meth : Method} {c : Code} {H : Heap} {locs : List Loc} {cells slots : Nat} {Q : State → Prop}
variable {pc w : Nat} {b : Nat} {as : Nat → Nat} {a : Array Slot} {rest : List Value} {ls : ax_L} {T : ax_T} {TB : List Jvm.Cond} {D : va_G} {tA : Nat → ClassId} {mi : Nat} {h : ax_H}
/-- a static that holds a reference or null, below b -/
def ax_Zr (C n d : String) (b : Nat) (U : State) (H : Heap) : Prop := ∃ (c : ClassId) (k : Class) (i : Nat) (f : Field) (a : Nat) (cell : Cell) (v : Value), U.vm.findClass C = some c ∧ U.fieldFound? C n d = some (c, k, i, f) ∧ f.isStatic = true ∧ k.statics = some a ∧ H[a]? = some cell ∧ cell.vm.isStatics = true ∧ cell.cls = c ∧ f.slot < cell.slots.size ∧ k.staticTypes[f.slot]? = some f.type ∧ cell.slots[f.slot]? = some v ∧ (v = .null ∨ ∃ t, v = .ref t) ∧ a < b
theorem ax_Zr.moved {C n d : String} {b : Nat} {u U : State} {H : Heap} (hvm : u.vm.Alike U.vm) (h : ax_Zr C n d b u H) : ax_Zr C n d b U H := by
  obtain ⟨c, k, i, f, a, cell, v, h1, h2, h3, h4, h5, h6, h7, h8, h9, h10⟩ := h
  obtain ⟨k', hi', he⟩ := State.fieldFound?_setVm hvm h2
  exact ⟨c, k', i, f, a, cell, v, by rw [hvm.findClass]; exact h1, hi', h3, by rw [he]; exact h4, h5, h6, h7, h8, by rw [he]; exact h9, h10⟩
theorem ax_Zr.kept {C n d : String} {b : Nat} {U : State} {H H1 : Heap} (h : ax_Zr C n d b U H) (hq : ∀ q : Nat, q < H.size → ¬ b ≤ q → H1[q]? = H[q]?) : ax_Zr C n d b U H1 := by
  obtain ⟨c, k, i, f, a, cell, v, h1, h2, h3, h4, h5, h6, h7, h8, h9, h10, h11, h12⟩ := h
  exact ⟨c, k, i, f, a, cell, v, h1, h2, h3, h4, by rw [hq a (Array.getElem?_eq_some_iff.mp h5).1 (Nat.not_le.mpr h12)]; exact h5, h6, h7, h8, h9, h10, h11, h12⟩
theorem ax_Zr.of {C n d : String} {b : Nat} {s : State} {args : Array Value} (hl : (Jvm.Cond.laysStatic C n d).before args s = true) (hr : (Jvm.Cond.isRef (.static C n d)).before args s = true) (hb : s.heap.size ≤ b) : ax_Zr C n d b s s.heap := by
  obtain ⟨c, k, i, f, a, cell, h1, h2, h3, h4, h5, h6, h7, h8, h9⟩ := Cond.laysStatic_spec hl
  obtain ⟨v, hv⟩ : ∃ v, cell.slots[f.slot]? = some v := ⟨_, Array.getElem?_eq_getElem h8⟩
  have he := Term.static_eval (args := args) (first := s) (o := none) (idx := []) h2 h3 h4 h5 h6 hv
  refine ⟨c, k, i, f, a, cell, v, h1, h2, h3, h4, h5, h6, h7, h8, h9, hv, ?_, Nat.lt_of_lt_of_le (Array.getElem?_eq_some_iff.mp h5).1 hb⟩
  simp only [Cond.before, Cond.holds, Cond.value, he] at hr
  cases v <;> simp at hr ⊢
theorem ax_Zr.ref {C n d : String} {b : Nat} {s : State} {args : Array Value} (h : ax_Zr C n d b s s.heap) : (Jvm.Cond.isRef (.static C n d)).before args s = true := by
  obtain ⟨c, k, i, f, a, cell, v, h1, h2, h3, h4, h5, h6, h7, h8, h9, h10, h11, h12⟩ := h
  rcases h11 with rfl | ⟨t, rfl⟩
  · simp [Cond.before, Cond.holds, Cond.value, Term.static_eval h2 h3 h4 h5 h6 h10]
  · simp [Cond.before, Cond.holds, Cond.value, Term.static_eval h2 h3 h4 h5 h6 h10]
theorem ax_Zr.lay {C n d : String} {b : Nat} {s : State} {args : Array Value} (h : ax_Zr C n d b s s.heap) : (Jvm.Cond.laysStatic C n d).before args s = true := by
  obtain ⟨c, k, i, f, a, cell, v, h1, h2, h3, h4, h5, h6, h7, h8, h9, h10, h11, h12⟩ := h
  exact Cond.laysStatic_of h1 h2 h3 h4 h5 h6 h7 h8 h9
/-- an exception of the one class is none of the other -/
def ax_nc (U : State) : Prop := ∀ c1 c2 : ClassId, U.vm.findClass (ax_en 1) = some c1 → U.vm.findClass (ax_en 2) = some c2 → U.vm.assignable c2 c1 = false
theorem ax_nc.moved {u U : State} (hvm : u.vm.Alike U.vm) (h : ax_nc u) : ax_nc U := by
  intro c1 c2 h1 h2
  rw [hvm.findClass] at h1 h2
  rw [hvm.assignable]
  exact h c1 c2 h1 h2
/-- what nobody writes: the script, two statics of Throwable's, the String constants -/
def ax_ro (b : Nat) (as : Nat → Nat) (T : ax_T) (U : State) (H : Heap) : Prop :=
  (∀ q, ax_sc T = some q → va_X (as ax_big) q.1 q.2 U H) ∧ ax_Zr Bundle.tN "UNASSIGNED_STACK" Bundle.steD b U H ∧ ax_Zr Bundle.tN "SUPPRESSED_SENTINEL" Bundle.listD b U H ∧ sx_ro b as U H ∧ ax_nc U
theorem va_X.lt {b L : Nat} {xs : Nat → Int32} {U : State} {H : Heap} (h : va_X b L xs U H) : b < H.size := by
  obtain ⟨scr, h1, -⟩ := h
  exact (Array.getElem?_eq_some_iff.mp h1).1
theorem ax_ro.moved {b : Nat} {as : Nat → Nat} {T : ax_T} {u U : State} {H : Heap} (hW : u.WarmedH U.vm) (h : ax_ro b as T u H) : ax_ro b as T U H := ⟨fun q hq => va_X.moved hW.alike (h.1 q hq), h.2.1.moved hW.alike, h.2.2.1.moved hW.alike, h.2.2.2.1.moved hW, h.2.2.2.2.moved hW.alike⟩
theorem ax_ro.same {b : Nat} {as : Nat → Nat} {T : ax_T} {u U : State} {H : Heap} (hv : U.vm = u.vm) (h : ax_ro b as T u H) : ax_ro b as T U H := by
  have hal : u.vm.Alike U.vm := by rw [hv]; exact Vm.Alike.refl _
  exact ⟨fun q hq => va_X.moved hal (h.1 q hq), h.2.1.moved hal, h.2.2.1.moved hal, h.2.2.2.1.same hv, h.2.2.2.2.moved hal⟩
theorem ax_ro.kept {b : Nat} {as : Nat → Nat} {T : ax_T} {U : State} {H H1 : Heap} (hA : ax_As b as) (h : ax_ro b as T U H) (hq : ∀ q : Nat, q < H.size → ¬ b ≤ q → H1[q]? = H[q]?) : ax_ro b as T U H1 :=
  ⟨fun q h0 => (h.1 q h0).kept (hq _ (h.1 q h0).lt (Nat.not_le.mpr (hA.2 _ (Nat.le_refl _)))), h.2.1.kept hq, h.2.2.1.kept hq, h.2.2.2.1.kept hq, h.2.2.2.2⟩
/-- the machine stands in the method mi -/
def ax_X (b : Nat) (as : Nat → Nat) (TB : List Jvm.Cond) (T : ax_T) (D : va_G) (tA : Nat → ClassId) (mi : Nat) (p : Program) (s : State) (m : MethodId) (args : Array Value) (meth : Method) (c : Code) : Prop :=
  p.tables.exec = Jvm.exec ∧ c.code = ax_code T mi ∧ c.maxLocals = ax_mx T mi ∧ meth.sig.returnType = ax_rt T mi ∧ meth.locks = false ∧ c.exceptionTable.toList.map (fun h => (h.startPc, h.endPc, h.handlerPc, h.catchType)) = ax_hs T mi ∧ ((ax_nm T mi).name = "<init>" → meth.name = "<init>") ∧ s.vm.findClass (ax_nm T mi).cls = some m.cls ∧ (∀ w ∈ TB, w.before args s = true) ∧ va_K D (ax_cl T) (ax_tys tA T) s ∧ ax_ro b as T s s.heap ∧ ax_As b as
/-- a goal: from these cells on -/
abbrev ax_G (w b : Nat) (as : Nat → Nat) (T : ax_T) (D : va_G) (tA : Nat → ClassId) (p : Program) (l : Launch) (e : Env) (R : Room) (s : State) (m : MethodId) (args : Array Value) (below : List Frame) (meth : Method) (c : Code) (cells slots : Nat) (Q : State → Prop) (h : ax_H) (pc : Nat) (a : Array Slot) (st : List Value) : Prop :=
  ∀ (H : Heap) (locs : List Loc), ax_R b as D (ax_cl T) tA h H → va_S (fun q => b ≤ q) s.heap H locs → ax_E w h s.heap H → W p l e R s m args below meth c H locs cells slots Q (F0 m pc a (st.map (ax_tv as)))
theorem ax_getf_ok (hC : ax_okC TB T) (hPl : ax_okP TB T) (X : ax_X b as TB T D tA mi p s m args meth c) {idx q pc' : Nat} {r st' : List Value} {ls' : ax_L} {h' : ax_H} (hd : decode (ax_code T mi) pc = .ok (.getfield idx, 3)) (hp : ax_getf T mi idx q pc ls r h = some (pc', ls', st', h'))
    (k : ls' = ls → h' = h → ax_G w b as T D tA p l e R s m args below meth c cells slots Q h' pc' a st') : ax_G w b as T D tA p l e R s m args below meth c cells slots Q h pc a (.ref q :: r) := by
  intro H locs hR hS hE0
  obtain ⟨hx, hb, -, -, -, -, -, hown, hts, hK, hX, hAs⟩ := X
  unfold ax_getf at hp
  split at hp
  · rename_i cj fs hq
    split at hp
    · rename_i hk
      obtain ⟨hk1, hk2⟩ := hk
      cases hv : fs[(ax_pl T mi idx).2.2]? with
      | none => rw [hv] at hp; cases hp
      | some v =>
        rw [hv] at hp
        cases hp
        have hE := hPl mi idx
        generalize hg : ax_pl T mi idx = x at *
        obtain ⟨x1, x2, x3⟩ := x
        dsimp only at hk1 hk2 hv
        subst hk2
        have hv2 : (fs.map (ax_tv as))[x3]? = some (ax_tv as v) := by rw [List.getElem?_map, hv]; rfl
        rcases hk1 with rfl | rfl
        · simp only [ax_okE] at hE
          split at hE
          · rename_i w hw
            exact va_get hx hb hts (hC x2 w hw).1 hown hK (hR.at hq) 0 rfl hw x3 hE.1 (hts _ hE.2) (fun _ h9 => h9) hv2 hd (k rfl rfl H locs hR hS hE0)
          · exact hE.elim
        · simp only [ax_okE] at hE
          split at hE
          · rename_i w hw
            exact va_getN hx hb hts (hC x2 w hw).1 hown hK (hR.at hq) 0 rfl hw x3 hE.1 (hts _ hE.2) (fun _ h9 => h9) hv2 hd (k rfl rfl H locs hR hS hE0)
          · exact hE.elim
    · cases hp
  · cases hp
theorem ax_putf_ok (hC : ax_okC TB T) (hPl : ax_okP TB T) (X : ax_X b as TB T D tA mi p s m args meth c) {idx q pc' : Nat} {v : Value} {r st' : List Value} {ls' : ax_L} {h' : ax_H} (hd : decode (ax_code T mi) pc = .ok (.putfield idx, 3)) (hp : ax_putf T mi idx q pc v ls r h = some (pc', ls', st', h'))
    (k : ls' = ls → (h'.2.1 = h.2.1 ∧ h'.2.2.1 = h.2.2.1) → ax_G w b as T D tA p l e R s m args below meth c cells slots Q h' pc' a st') : ax_G w b as T D tA p l e R s m args below meth c cells slots Q h pc a (v :: .ref q :: r) := by
  intro H locs hR hS hE0
  obtain ⟨hx, hb, -, -, -, -, hin, hown, hts, hK, hX, hAs⟩ := X
  unfold ax_putf at hp
  split at hp
  · rename_i cj fs hq
    split at hp
    · rename_i hk
      obtain ⟨hlt0, hk1, hk2, hk3, hk4, hk5⟩ := hk
      cases hp
      have hE := hPl mi idx
      generalize hg : ax_pl T mi idx = x at *
      obtain ⟨x1, x2, x3⟩ := x
      dsimp only at hk1 hk2 hk3 hk4 hk5 ⊢
      subst hk2
      subst hk1
      simp only [ax_okE] at hE
      split at hE
      · rename_i w hw
        obtain ⟨C, F, N⟩ := w
        obtain ⟨hin0, hty, hnm⟩ := hC x2 _ hw
        dsimp only at hin0 hty hnm hE
        have hap := va_apart (own := (ax_nm T mi).cls) hts hin0 (ax_fty T x2) hty hnm hK hw
        obtain ⟨r0, h1, cell, q1, q2, q3, q4⟩ := (hR.2.2 q _ hq).2
        have hr : r0 = (C, F, N) := Option.some.inj (h1.symm.trans hw)
        subst hr
        obtain ⟨hSl, hfc, kC, hkC, hkind⟩ := hK.1 x2 _ hw
        obtain ⟨cf, kf, fi, f, hi, hsl⟩ := hSl x3 hE.1
        obtain ⟨hn1, hn2⟩ := ax_fit_tv (as := as) hk4
        have hst := (u_facts hfc hkC (u_lays hts hin0 hE.1) hi).1
        have hl2 : x3 < (fs.map (ax_tv as)).length := by rw [List.length_map]; exact hk3
        have fin : ∀ H1 : Heap, H1[as q]? = some (cell.setSlot f.slot (ax_tv as v)) → H1.size = H.size → (∀ z : Nat, z ≠ as q → H1[z]? = H[z]?) → W p l e R s m args below meth c H1 (locs ++ [⟨as q, f.slot⟩]) cells slots Q (F0 m (pc + 3) a (r.map (ax_tv as))) := by
          intro H1 e1 e2 e3
          refine k rfl ⟨rfl, rfl⟩ H1 _ (hR.up hAs hq hlt0 e2 e3 ⟨_, hw, ?_⟩) (ax_Sput hAs (Nat.lt_of_lt_of_le hlt0 hR.2.1) hS e2 e3) hE0.put
          rw [hsl] at e1
          refine t_OB.to (V := updV (vp_V (fs.map (ax_tv as))) x3 (ax_tv as v)) ⟨_, e1, q2, q3, t_set q4 hap hE.1 (ax_tv as v)⟩ (fun j _ => ?_)
          rw [vp_updV_set hl2, List.map_set]
        by_cases hfin : (F x3).2.2.2 = true
        · simp only [ax_fin, hw, hfin, Bool.not_true, Bool.false_or, Bool.and_eq_true, decide_eq_true_eq] at hk5
          have hlay := hts _ (hin0 _ (u_in_lay hE.1))
          unfold u_lay at hlay
          rw [if_pos hfin] at hlay
          have hcf : m.cls = cf := by
            obtain ⟨_, _, c', _, _, _, -, -, hf', -, -, -, hown2, -⟩ := Cond.laysFinal_spec hlay
            have e1 : c' = cf := by have := hi.symm.trans hf'; simp at this; exact this.1.symm
            rw [← hk5.2] at hown2
            rw [← e1]; exact Option.some.inj (hown.symm.trans hown2)
          have h6 := u_fits hfc hkC hkind (Or.inr hlay) hi (hty x3 hE.1) hn1 hn2
          exact W.putFinK hx hb hown (hts _ hE.2) hi hst hcf (hin hk5.1) (by rw [q2]; exact h6) q1 q3 (by rw [hsl]; exact k2_hasslot (q4 x3 hE.1)) rfl rfl hd fin
        · have hlay := hts _ (hin0 _ (u_in_lay hE.1))
          unfold u_lay at hlay
          rw [if_neg hfin] at hlay
          have h6 := u_store hfc hkC hkind hlay hi (hty x3 hE.1) hn1 hn2
          exact W.putK hx hb (f := f) ⟨hown, hts _ hE.2, ⟨_, _, _, hi⟩, hst⟩ (by rw [q2]; exact h6) q1 q3 (by rw [hsl]; exact k2_hasslot (q4 x3 hE.1)) rfl rfl hd fin
      · exact hE.elim
    · cases hp
  · cases hp
theorem ax_ald_ok (X : ax_X b as TB T D tA mi p s m args meth c) {i : Instr} {j : Int32} {q pc' : Nat} {r st' : List Value} {ls' : ax_L} {h' : ax_H} (hd : decode (ax_code T mi) pc = .ok (i, 1)) (hp : ax_ald T i j q pc ls r h = some (pc', ls', st', h'))
    (k : ls' = ls → h' = h → ax_G w b as T D tA p l e R s m args below meth c cells slots Q h' pc' a st') : ax_G w b as T D tA p l e R s m args below meth c cells slots Q h pc a (.int j :: .ref q :: r) := by
  intro H locs hR hS hE0
  obtain ⟨hx, hb, -, -, -, -, -, hown, hts, hK, hX, hAs⟩ := X
  unfold ax_ald at hp
  split at hp
  · rename_i hq
    subst hq
    unfold ax_scr at hp
    split at hp
    · split at hp
      · rename_i q9 hq9
        split at hp
        · cases hp
        · rename_i hin
          cases hp
          exact va_sld hx hb (hX.1 q9 hq9) (hX.1 q9 hq9).lt (Nat.not_le.mpr (hAs.2 _ (Nat.le_refl _))) hS hin hd (k rfl rfl H locs hR hS hE0)
      · cases hp
    · cases hp
  split at hp
  · rename_i t n x hq
    split at hp
    · cases hp
    · rename_i hin
      split at hp
      · rename_i f ht
        cases hp
        exact va_iald hx hb hK (hR.at hq) 0 t rfl (ax_tys_at ht) hin hd (k rfl rfl H locs hR hS hE0)
      · rename_i f ht
        cases hp
        exact va_cald hx hb hK (hR.at hq) 0 t rfl (ax_tys_at ht) hin hd (k rfl rfl H locs hR hS hE0)
      · rename_i f ht
        cases hp
        exact va_lald hx hb hK (hR.at hq) 0 t rfl (ax_tys_at ht) hin hd (k rfl rfl H locs hR hS hE0)
      · rename_i C f ht
        cases hp
        refine va_aldq hx hb hK (hR.at hq) 0 t rfl (ax_tys_at ht) hin hd ?_
        have hk := k rfl rfl H locs hR hS hE0
        rw [List.map_cons, ax_rf] at hk
        exact hk
      · cases hp
  · cases hp
theorem ax_ast_ok (X : ax_X b as TB T D tA mi p s m args meth c) {i : Instr} {v : Value} {j : Int32} {q pc' : Nat} {r st' : List Value} {ls' : ax_L} {h' : ax_H} (hd : decode (ax_code T mi) pc = .ok (i, 1)) (hp : ax_ast T i v j q pc ls r h = some (pc', ls', st', h'))
    (k : ls' = ls → (h'.2.1 = h.2.1 ∧ h'.2.2.1 = h.2.2.1) → ax_G w b as T D tA p l e R s m args below meth c cells slots Q h' pc' a st') : ax_G w b as T D tA p l e R s m args below meth c cells slots Q h pc a (v :: .int j :: .ref q :: r) := by
  intro H locs hR hS hE0
  obtain ⟨hx, hb, -, -, -, -, -, hown, hts, hK, hX, hAs⟩ := X
  unfold ax_ast at hp
  split at hp
  · rename_i t n x hq
    split at hp
    · cases hp
    · rename_i hin0
      have hlt0 : q < h.2.1 := Nat.not_le.mp fun z => hin0 (Or.inl z)
      have hin : ¬ (j < 0 ∨ n ≤ j.toNatClampNeg) := fun z => hin0 (Or.inr z)
      split at hp
      · rename_i f y ht
        cases hp
        refine W.iast hx hb ((hR.2.2 q _ hq).2) ((hK.2 t _ (ax_tys_at ht)).1 n (fun j => .int (f j))) (fun z => by cases z) (by show ¬ (j < 0 ∨ (arrV _ _ _).slots.size ≤ _); rw [arrV_size]; exact hin) rfl rfl hd fun H1 e1 e2 e3 => ?_
        refine k rfl ⟨rfl, rfl⟩ H1 _ (hR.up hAs hq hlt0 e2 e3 ?_) (ax_Sput hAs (Nat.lt_of_lt_of_le hlt0 hR.2.1) hS e2 e3) hE0.put
        show H1[as q]? = some (vp_cell _ _)
        rw [e1]
        show some ((arrV (tA t) n (fun j => Value.int (f j))).setSlot j.toNatClampNeg (.int y)) = some (arrV (tA t) n (fun z => Value.int (upd f j.toNatClampNeg y z)))
        rw [arrV_store]
        congr 2
        funext z
        by_cases hz : z = j.toNatClampNeg
        · subst hz; simp [updV, upd]
        · simp [updV, upd, hz]
      · rename_i f y ht
        cases hp
        refine W.cast hx hb ((hR.2.2 q _ hq).2) ((hK.2 t _ (ax_tys_at ht)).1 n (fun j => .int (f j))) (fun z => by cases z) (by show ¬ (j < 0 ∨ (arrV _ _ _).slots.size ≤ _); rw [arrV_size]; exact hin) rfl rfl hd fun H1 e1 e2 e3 => ?_
        refine k rfl ⟨rfl, rfl⟩ H1 _ (hR.up hAs hq hlt0 e2 e3 ?_) (ax_Sput hAs (Nat.lt_of_lt_of_le hlt0 hR.2.1) hS e2 e3) hE0.put
        show H1[as q]? = some (vp_cell _ _)
        rw [e1]
        show some ((arrV (tA t) n (fun j => Value.int (f j))).setSlot j.toNatClampNeg _) = some (arrV (tA t) n (fun z => Value.int (upd f j.toNatClampNeg (vp_nar .char y) z)))
        rw [arrV_store]
        congr 2
        funext z
        by_cases hz : z = j.toNatClampNeg
        · subst hz
          simp [updV, upd, vp_nar]
          try rfl
        · simp [updV, upd, hz]
      · rename_i f y ht
        cases hp
        refine W.last hx hb ((hR.2.2 q _ hq).2) ((hK.2 t _ (ax_tys_at ht)).1 n (fun j => .long (f j))) (fun z => by cases z) (by show ¬ (j < 0 ∨ (arrV _ _ _).slots.size ≤ _); rw [arrV_size]; exact hin) rfl rfl hd fun H1 e1 e2 e3 => ?_
        refine k rfl ⟨rfl, rfl⟩ H1 _ (hR.up hAs hq hlt0 e2 e3 ?_) (ax_Sput hAs (Nat.lt_of_lt_of_le hlt0 hR.2.1) hS e2 e3) hE0.put
        show H1[as q]? = some (vp_cell _ _)
        rw [e1]
        show some ((arrV (tA t) n (fun j => Value.long (f j))).setSlot j.toNatClampNeg (.long y)) = some (arrV (tA t) n (fun z => Value.long (vp_updL f j.toNatClampNeg y z)))
        rw [arrV_store]
        congr 2
        funext z
        by_cases hz : z = j.toNatClampNeg
        · subst hz; simp [updV, vp_updL]
        · simp [updV, vp_updL, hz]
      · rename_i C f y ht
        split at hp
        · rename_i ci fs hy
          split at hp
          · rename_i hcl
            cases hp
            cases hw : (ax_cl T)[ci]? with
            | none => rw [hw] at hcl; cases hcl
            | some w =>
              rw [hw] at hcl
              cases hcl
              have hlt : j.toNatClampNeg < n := Nat.not_le.mp fun z => hin (Or.inr z)
              have h0 : ¬ j < 0 := fun z => hin (Or.inl z)
              obtain ⟨r', hr', cellV, g1, g2, g3, -⟩ := (hR.2.2 y _ hy).2
              have hcls := (hK.1 ci w hw).2
              obtain ⟨kA, comp, k1, k2, k3, -⟩ := (hK.2 t _ (ax_tys_at ht)).2
              have hcomp : comp = D.1 ci := Option.some.inj (k3.symm.trans hcls.1)
              subst hcomp
              obtain ⟨kC, hkC, -⟩ := hcls.2
              refine W.aast hx hb ((hR.2.2 q _ hq).2) (fun z hz => by cases hz) (fun hz => by cases hz) k1 k2 rfl hkC ⟨h0, by show _ < (arrV _ _ _).slots.size; rw [arrV_size]; exact hlt⟩ g1 (fun z hz => by rw [g3] at hz; cases hz) (by rw [g2]; exact hkC) (by rw [g2]; exact va_assign hcls) rfl rfl hd fun H1 e1 e2 e3 => ?_
              refine k rfl ⟨rfl, rfl⟩ H1 _ (hR.up hAs hq hlt0 e2 e3 ?_) (ax_Sput hAs (Nat.lt_of_lt_of_le hlt0 hR.2.1) hS e2 e3) hE0.put
              show H1[as q]? = some (vp_cell _ _)
              rw [e1]
              show some ((arrV (tA t) n (fun z => va_rf ((f z).map as))).setSlot j.toNatClampNeg (.ref (as y))) = some (arrV (tA t) n (fun z => va_rf ((va_up f j.toNatClampNeg (some y) z).map as)))
              rw [arrV_store]
              congr 2
              funext z
              by_cases hz : z = j.toNatClampNeg
              · subst hz; simp [updV, va_up, va_rf]
              · simp [updV, va_up, hz]
          · cases hp
        · cases hp
      · cases hp
  · cases hp
theorem ax_alen_ok (X : ax_X b as TB T D tA mi p s m args meth c) {q pc' : Nat} {r st' : List Value} {ls' : ax_L} {h' : ax_H} (hd : decode (ax_code T mi) pc = .ok (.arraylength, 1)) (hp : ax_alen T q pc ls r h = some (pc', ls', st', h'))
    (k : ls' = ls → h' = h → ax_G w b as T D tA p l e R s m args below meth c cells slots Q h' pc' a st') : ax_G w b as T D tA p l e R s m args below meth c cells slots Q h pc a (.ref q :: r) := by
  intro H locs hR hS hE0
  obtain ⟨hx, hb, -, -, -, -, -, hown, hts, hK, hX, hAs⟩ := X
  unfold ax_alen at hp
  split at hp
  · rename_i hq
    subst hq
    rw [Option.map_eq_some_iff] at hp
    obtain ⟨q9, hq9, hp⟩ := hp
    cases hp
    exact va_slen hx hb (hX.1 q9 hq9) (hX.1 q9 hq9).lt (Nat.not_le.mpr (hAs.2 _ (Nat.le_refl _))) hS hd (k rfl rfl H locs hR hS hE0)
  split at hp
  · rename_i t n x hq
    split at hp
    · rename_i ht
      cases hp
      exact va_alen hx hb hK (hR.at hq) 0 t rfl (ax_tys_at (List.getElem?_eq_getElem ht)) rfl hd (k rfl rfl H locs hR hS hE0)
    · cases hp
  · cases hp
theorem ax_tn_at {ty : FieldType} {t : Nat} (h : ax_tn T ty = some t) : (ax_ty T)[t]? = some ty := by
  obtain ⟨h1, h2, -⟩ := List.findIdx?_eq_some_iff_getElem.mp h
  rw [List.getElem?_eq_getElem h1]
  exact congrArg some (by simpa using h2)
theorem ax_newa_ok (hA : ax_okA TB T) (X : ax_X b as TB T D tA mi p s m args meth c) {aty : ArrayType} {n : Int32} {pc' : Nat} {r st' : List Value} {ls' : ax_L} {h' : ax_H} (hd : decode (ax_code T mi) pc = .ok (.newarray aty, 2)) (hp : ax_newa T aty n pc ls r h = some (pc', ls', st', h'))
    (hc : cells + (h'.2.1 - h.2.1) ≤ R.cells) (hs : slots + (h'.2.2.1 - h.2.2.1) ≤ R.slots)
    (k : ls' = ls → h.2.1 ≤ h'.2.1 → h.2.2.1 ≤ h'.2.2.1 → ax_G w b as T D tA p l e R s m args below meth c (cells + (h'.2.1 - h.2.1)) (slots + (h'.2.2.1 - h.2.2.1)) Q h' pc' a st') : ax_G w b as T D tA p l e R s m args below meth c cells slots Q h pc a (.int n :: r) := by
  intro H locs hR hS hE0
  obtain ⟨hx, hb, -, -, -, -, -, hown, hts, hK, hX, hAs⟩ := X
  unfold ax_newa at hp
  split at hp
  · cases hp
  · rename_i hn
    have key : ∀ (ty : FieldType) (t : Nat) (x : vp_A), newarray.typeOf aty = ty → (ty = .int ∨ ty = .char ∨ ty = .long) → ax_tn T ty = some t → (∀ cA : ClassId, vp_cell cA x = arrV cA n.toNatClampNeg (fun _ => defaultValue ty)) → ax_tA as x = x →
        some (pc + 2, ls, Value.ref h.2.1 :: r, ax_add h (.inl (t, x)) n.toNatClampNeg) = some (pc', ls', st', h') → W p l e R s m args below meth c H locs cells slots Q (F0 m pc a ((Value.int n :: r).map (ax_tv as))) := by
      intro ty t x hty hty2 htn hcell htA hp
      cases hp
      have has := hAs.1 h.2.1 (by omega)
      have hat := ax_tn_at htn
      have e1 : h.2.1 + 1 - h.2.1 = 1 := by omega
      have e2 : h.2.2.1 + n.toNatClampNeg - h.2.2.1 = n.toNatClampNeg := by omega
      simp only [ax_add, e1, e2] at hc hs
      have hok : Jvm.Cond.arrayClass (newarray.typeOf aty) ∈ TB := by
        rw [hty]
        have := hA ty (List.mem_of_getElem? hat)
        rcases hty2 with rfl | rfl | rfl <;> exact this
      have hby : n.toNatClampNeg * componentBytes (newarray.typeOf aty) ≤ 536870912 := by
        have h1 : n.toNatClampNeg ≤ 65536 := by omega
        rw [hty]
        rcases hty2 with rfl | rfl | rfl <;> simp only [componentBytes] <;> omega
      refine va_newaK hx hb (hts _ hok) rfl hd rfl (fun z => hn (Or.inl z)) rfl hby hc hs hR.1 fun H1 cA f1 f2 f3 f4 f5 => ?_
      have hcA : cA = tA t := by
        have h2 := (hK.2 t _ (ax_tys_at hat)).2
        rw [hty] at f5
        rcases hty2 with rfl | rfl | rfl <;> exact Option.some.inj (f5.symm.trans h2)
      have hk := k rfl (by simp [ax_add]) (by simp [ax_add]) H1 locs (hR.add (n := n.toNatClampNeg) (by omega) (by rw [f2, hR.1]) (fun z hz => f3 z (by rw [← hR.1]; exact hz)) (by
        show H1[as h.2.1]? = some (vp_cell _ _)
        rw [htA, hcell, has, f1, hcA, hty])) (ax_Sadd hS (by rw [f2, hR.1]) (fun z hz => f3 z (by rw [← hR.1]; exact hz))) (hE0.add hS.1 (fun z hz => f3 z (by rw [← hR.1]; exact hz)))
      simp only [ax_add, e1, e2, List.map_cons, ax_tv, has] at hk
      exact hk
    split at hp
    · rename_i t ht
      exact key .int t _ rfl (Or.inl rfl) ht (fun _ => rfl) rfl hp
    · rename_i t ht
      exact key .char t _ rfl (Or.inr (Or.inl rfl)) ht (fun _ => rfl) rfl hp
    · rename_i t ht
      exact key .long t _ rfl (Or.inr (Or.inr rfl)) ht (fun _ => rfl) rfl hp
    · cases hp
theorem ax_anew_ok (hA : ax_okA TB T) (hPl : ax_okP TB T) (X : ax_X b as TB T D tA mi p s m args meth c) {idx : Nat} {n : Int32} {pc' : Nat} {r st' : List Value} {ls' : ax_L} {h' : ax_H} (hd : decode (ax_code T mi) pc = .ok (.anewarray idx, 3)) (hp : ax_anew T mi idx n pc ls r h = some (pc', ls', st', h'))
    (hc : cells + (h'.2.1 - h.2.1) ≤ R.cells) (hs : slots + (h'.2.2.1 - h.2.2.1) ≤ R.slots)
    (k : ls' = ls → h.2.1 ≤ h'.2.1 → h.2.2.1 ≤ h'.2.2.1 → ax_G w b as T D tA p l e R s m args below meth c (cells + (h'.2.1 - h.2.1)) (slots + (h'.2.2.1 - h.2.2.1)) Q h' pc' a st') : ax_G w b as T D tA p l e R s m args below meth c cells slots Q h pc a (.int n :: r) := by
  intro H locs hR hS hE0
  obtain ⟨hx, hb, -, -, -, -, -, hown, hts, hK, hX, hAs⟩ := X
  unfold ax_anew at hp
  split at hp
  · cases hp
  · rename_i hn
    split at hp
    · rename_i hk5
      have hE := hPl mi idx
      generalize hg : ax_pl T mi idx = x at *
      obtain ⟨x1, ci, x3⟩ := x
      dsimp only at hk5 hp
      subst hk5
      simp only [ax_okE] at hE
      split at hp
      · rename_i q hq
        split at hp
        · rename_i t ht
          have hat := ax_tn_at ht
          have hov : Jvm.Cond.arrayOver (.object q.1) ∈ TB := hA _ (List.mem_of_getElem? hat)
          cases hp
          rw [hq] at hE
          have has := hAs.1 h.2.1 (by omega)
          have e1 : h.2.1 + 1 - h.2.1 = 1 := by omega
          have e2 : h.2.2.1 + n.toNatClampNeg - h.2.2.1 = n.toNatClampNeg := by omega
          simp only [ax_add, e1, e2] at hc hs
          have h1 : n.toNatClampNeg ≤ 65536 := by omega
          refine W.anew hx hb hown (hts _ hE.2.1) (hts _ hov) rfl hd rfl (fun z => hn (Or.inl z)) (by omega) hc hs fun cA kA comp f1 f2 f3 f4 => ?_
          obtain ⟨kA', comp', g1, g2, g3, g4⟩ := (hK.2 t _ (ax_tys_at hat)).2
          have hcA : cA = tA t := Option.some.inj (f1.symm.trans g4)
          generalize hH1 : H.push ({ cls := cA, slots := Array.replicate n.toNatClampNeg .null, vm := .none } : Cell) = H1
          have z1 : H1.size = H.size + 1 := by rw [← hH1, Array.size_push]
          have y1 : H1[H.size]? = some (arrV cA n.toNatClampNeg (fun _ => .null)) := by rw [← hH1, Array.getElem?_push_size, ← arrV_new]
          have o1 : ∀ q : Nat, q < H.size → H1[q]? = H[q]? := fun q hq => by rw [← hH1, Array.getElem?_push, if_neg (Nat.ne_of_lt hq)]
          have hk := k rfl (by simp [ax_add]) (by simp [ax_add]) H1 locs (hR.add (n := n.toNatClampNeg) (by omega) z1 o1 (by
            show H1[as h.2.1]? = some (vp_cell _ _)
            rw [has, ← hR.1, y1, hcA]
            rfl)) (ax_Sadd hS z1 o1) (hE0.add hS.1 o1)
          simp only [ax_add, e1, e2, List.map_cons, ax_tv, has] at hk
          rw [hR.1]
          exact hk
        · cases hp
      · cases hp
    · cases hp
theorem ax_new_ok (hC : ax_okC TB T) (hPl : ax_okP TB T) (X : ax_X b as TB T D tA mi p s m args meth c) {idx pc' : Nat} {r st' : List Value} {ls' : ax_L} {h' : ax_H} (hd : decode (ax_code T mi) pc = .ok (.new idx, 3)) (hp : ax_new T mi idx pc ls r h = some (pc', ls', st', h'))
    (hc : cells + (h'.2.1 - h.2.1) ≤ R.cells) (hs : slots + (h'.2.2.1 - h.2.2.1) ≤ R.slots)
    (k : ls' = ls → h.2.1 ≤ h'.2.1 → h.2.2.1 ≤ h'.2.2.1 → ax_G w b as T D tA p l e R s m args below meth c (cells + (h'.2.1 - h.2.1)) (slots + (h'.2.2.1 - h.2.2.1)) Q h' pc' a st') : ax_G w b as T D tA p l e R s m args below meth c cells slots Q h pc a r := by
  intro H locs hR hS hE0
  obtain ⟨hx, hb, -, -, -, -, -, hown, hts, hK, hX, hAs⟩ := X
  unfold ax_new at hp
  split at hp
  · rename_i hk40
    obtain ⟨hk4, hk4b⟩ := hk40
    cases hp
    have hE := hPl mi idx
    generalize hg : ax_pl T mi idx = x at *
    obtain ⟨x1, ci, n⟩ := x
    dsimp only at hk4 hc hs k ⊢
    subst hk4
    simp only [ax_okE] at hE
    split at hE
    · rename_i w hw
      obtain ⟨C, F, N⟩ := w
      obtain ⟨hn, e2, e3, e4⟩ := hE
      dsimp only at hn e2 e3 e4
      subst hn
      obtain ⟨hin0, hty, hnm⟩ := hC ci _ hw
      dsimp only at hin0 hty hnm
      have e1 : h.2.1 + 1 - h.2.1 = 1 := by omega
      have e2' : h.2.2.1 + n - h.2.2.1 = n := by omega
      simp only [ax_add, e1, e2'] at hc hs
      have hKn := hK.1 ci _ hw
      have has := hAs.1 h.2.1 hk4b
      refine W.newcK hx hb hown (hts _ e2) (hts _ e3) (hts _ e4) rfl hd hc hs hKn.2.1 hR.1 fun H1 kC hkC f1 f2 f3 => ?_
      have z1 : H1.size = H.size + 1 := by rw [f2, hR.1]
      have o1 : ∀ q : Nat, q < H.size → H1[q]? = H[q]? := fun q hq => f3 q (by rw [← hR.1]; exact hq)
      have hk := k rfl (by simp [ax_add]) (by simp [ax_add]) H1 locs (hR.add (n := n) hk4b z1 o1 ⟨_, hw, (u_born (o := as h.2.1) (ax_fty T ci) hts hin0 hKn hkC (by rw [has]; exact f1) hty).to (fun j hj => by
        have hj' : j < n := hj
        simp [vp_V, ax_blank, List.getD, hj', ax_def_tv])⟩) (ax_Sadd hS z1 o1) (hE0.add hS.1 o1)
      simp only [ax_add, e1, e2', List.map_cons, ax_tv, has] at hk
      exact hk
    · exact hE.elim
  · cases hp
theorem ax_ldc2_ok (hPl : ax_okP TB T) (X : ax_X b as TB T D tA mi p s m args meth c) {idx pc' : Nat} {r st' : List Value} {ls' : ax_L} {h' : ax_H} (hd : decode (ax_code T mi) pc = .ok (.ldc2_w idx, 3)) (hp : ax_ldc2 T mi idx pc ls r h = some (pc', ls', st', h'))
    (k : ls' = ls → h' = h → ax_G w b as T D tA p l e R s m args below meth c cells slots Q h' pc' a st') : ax_G w b as T D tA p l e R s m args below meth c cells slots Q h pc a r := by
  intro H locs hR hS hE0
  obtain ⟨hx, hb, -, -, -, -, -, hown, hts, hK, hX, hAs⟩ := X
  unfold ax_ldc2 at hp
  split at hp
  · rename_i hk
    cases hp
    have hE := hPl mi idx
    generalize hg : ax_pl T mi idx = x at *
    obtain ⟨x1, x2, x3⟩ := x
    dsimp only at hk
    subst hk
    simp only [ax_okE] at hE
    exact lv_ldc2 hx hb hown (hts _ hE) hd (k rfl rfl H locs hR hS hE0)
  · cases hp
theorem ax_oini_ok (hPl : ax_okP TB T) (X : ax_X b as TB T D tA mi p s m args meth c) (hl : ax_lr as ls a) (hml : ls.length = ax_mx T mi) (hf : 1 ≤ R.frames) (hlo : 20 ≤ R.locals) {idx pc' q : Nat} {r st' : List Value} {ls' : ax_L} {h' : ax_H} (hd : decode (ax_code T mi) pc = .ok (.invokespecial idx, 3)) (hp : ax_oini T mi idx pc ls r h = some (pc', ls', st', h'))
    (k : ls' = ls → h' = h → ax_G w b as T D tA p l e R s m args below meth c cells slots Q h' pc' a st') : ax_G w b as T D tA p l e R s m args below meth c cells slots Q h pc a (.ref q :: r) := by
  intro H locs hR hS hE0
  obtain ⟨hx, hb, hmx, -, -, -, -, hown, hts, hK, hX, hAs⟩ := X
  unfold ax_oini at hp
  split at hp
  · rename_i hk
    obtain ⟨hk9, hk8⟩ := hk
    cases hp
    have hE := hPl mi idx
    generalize hg : ax_pl T mi idx = x at *
    obtain ⟨x1, x2, x3⟩ := x
    dsimp only at hk9
    subst hk9
    simp only [ax_okE] at hE
    refine W.objInit hx hb hown (hts _ hE.1) (hts _ hE.2.1) (hts _ hE.2.2) rfl (by rw [hmx, ← hml]; exact hl.1) rfl hd hf ?_ (k rfl rfl H locs hR hS hE0)
    show 2 * 0 + (((r.map (ax_tv as))).map (fun v => v.category)).sum + 12 ≤ R.locals
    rw [List.map_map, show ((fun v => v.category) ∘ ax_tv as) = (fun v : Value => v.category) from funext (ax_tv_cat as)]
    omega
  · cases hp
end AX2
