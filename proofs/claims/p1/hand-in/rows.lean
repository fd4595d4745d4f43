section
/-! An abstract machine over the class files' own code: cells by numbers (the cell number i stands at the address base + i), frames as lists; its runs are runs of the machine (02b). -/
abbrev ax_C : Type := (Nat × vp_A) ⊕ (Nat × List Value)
/-- cells, how many have been made, how many slots, how many writes there were -/
abbrev ax_H : Type := (Nat → Option ax_C) × Nat × Nat × Nat
abbrev ax_L : Type := List (Option Value)
/-- methods (name, code, locals, answer's type); pool entries (method, index) ↦ (kind, a, b); classes; field types; array types; handlers (from, to, handler, catch type); the law's script -/
abbrev ax_T : Type := (Nat → MethodName × ByteArray × Nat × Option FieldType) × (Nat → Nat → Nat × Nat × Nat) × List vw_C × (Nat → Nat → FieldType) × List FieldType × (Nat → List (Nat × Nat × Nat × Nat)) × Option (Nat × (Nat → Int32))
/-- the number of the cell that holds the script: numbers from here on are cells that nobody writes -/
def ax_big : Nat := 1048576
abbrev ax_nm (T : ax_T) (mi : Nat) : MethodName := (T.1 mi).1
abbrev ax_code (T : ax_T) (mi : Nat) : ByteArray := (T.1 mi).2.1
abbrev ax_mx (T : ax_T) (mi : Nat) : Nat := (T.1 mi).2.2.1
abbrev ax_rt (T : ax_T) (mi : Nat) : Option FieldType := (T.1 mi).2.2.2
abbrev ax_pl (T : ax_T) (mi idx : Nat) : Nat × Nat × Nat := T.2.1 mi idx
abbrev ax_cl (T : ax_T) : List vw_C := T.2.2.1
abbrev ax_fty (T : ax_T) (ci k : Nat) : FieldType := T.2.2.2.1 ci k
abbrev ax_ty (T : ax_T) : List FieldType := T.2.2.2.2.1
abbrev ax_hs (T : ax_T) (mi : Nat) : List (Nat × Nat × Nat × Nat) := T.2.2.2.2.2.1 mi
/-- the handler of an exception of the class n: the first row, if it is of that class (12) -/
def ax_hd (T : ax_T) (mi pc n : Nat) : Option Nat := match ax_hs T mi with
  | x :: _ => if x.1 ≤ pc ∧ pc < x.2.1 ∧ x.2.2.2 ≠ 0 ∧ ax_pl T mi x.2.2.2 = (12, n, 0) then some x.2.2.1 else none
  | [] => none
abbrev ax_sc (T : ax_T) : Option (Nat × (Nat → Int32)) := T.2.2.2.2.2.2
/-- what a run comes to: an answer, or the number of an exception's class; and the cells -/
abbrev ax_O : Type := (Option Value ⊕ Nat) × ax_H
def ax_up (h : ax_H) (a : Nat) (c : ax_C) : ax_H := (fun k => if k = a then some c else h.1 k, h.2.1, h.2.2.1, h.2.2.2 + 1)
def ax_add (h : ax_H) (c : ax_C) (n : Nat) : ax_H := (fun k => if k = h.2.1 then some c else h.1 k, h.2.1 + 1, h.2.2.1 + n, h.2.2.2)
/-- a local is set: a long ahead of it dies, a long takes two places -/
def ax_kill (ls : ax_L) : Nat → ax_L
  | 0 => ls
  | j + 1 => match ls[j]? with
    | some (some w) => if w.category = 2 then ls.set j none else ls
    | _ => ls
def ax_set (ls : ax_L) (i : Nat) (v : Value) : ax_L :=
  if v.category = 2 then ((ax_kill ls i).set i (some v)).set (i + 1) none else (ax_kill ls i).set i (some v)
def ax_jmp (pc : Nat) (off : Int) : Option Nat := if 0 ≤ (pc : Int) + off then some ((pc : Int) + off).toNat else none
def ax_br (b : Bool) (pc : Nat) (off : Int) (ls : ax_L) (st : List Value) : Option (Nat × ax_L × List Value) :=
  (ax_jmp pc off).map (fun t => (cond b t (pc + 3), ls, st))
def ax_cmp (c : ClassFile.Cond) (x y : Int32) : Bool := match c with
  | .eq => decide (x = y)
  | .ne => decide (¬ x = y)
  | .lt => decide (x < y)
  | .ge => decide (y ≤ x)
  | .gt => decide (y < x)
  | .le => decide (x ≤ y)
/-- one value for one -/
def ax_un (i : Instr) (x : Value) : Option Value := match i, x with
  | .ineg, .int a => some (.int (-a))
  | .i2l, .int a => some (.long a.toInt64)
  | .l2i, .long a => some (.int a.toInt32)
  | .i2c, .int a => some (.int (a.toUInt32 % 65536).toInt32)
  | _, _ => none
/-- one value for two: y on top -/
def ax_bin (i : Instr) (x y : Value) : Option Value := match i, x, y with
  | .iadd, .int a, .int b => some (.int (a + b))
  | .isub, .int a, .int b => some (.int (a - b))
  | .imul, .int a, .int b => some (.int (a * b))
  | .iand, .int a, .int b => some (.int (a &&& b))
  | .ior, .int a, .int b => some (.int (a ||| b))
  | .ixor, .int a, .int b => some (.int (a ^^^ b))
  | .ishl, .int a, .int b => some (.int (a <<< (b &&& 31)))
  | .ishr, .int a, .int b => some (.int (a >>> (b &&& 31)))
  | .iushr, .int a, .int b => some (.int (a.toUInt32 >>> (b.toUInt32 &&& Int32.toUInt32 31)).toInt32)
  | .idiv, .int a, .int b => if b = 0 then none else some (.int (a / b))
  | .irem, .int a, .int b => if b = 0 then none else some (.int (a - a / b * b))
  | .ladd, .long a, .long b => some (.long (a + b))
  | .land, .long a, .long b => some (.long (a &&& b))
  | .lor, .long a, .long b => some (.long (a ||| b))
  | .lshl, .long a, .int b => some (.long (a <<< (b.toInt64 &&& 63)))
  | .lshr, .long a, .int b => some (.long (a >>> (b.toInt64 &&& 63)))
  | .lushr, .long a, .int b => some (.long (a.toUInt64 >>> (b.toInt64.toUInt64 &&& Int64.toUInt64 63)).toInt64)
  | .lcmp, .long a, .long b => some (.int (lg_cmp a b))
  | _, _, _ => none
def ax_ld (ls : ax_L) (i : Nat) : Option Value := (ls[i]?).bind id
/-- kinds: 0 int, 1 long, 2 a cell or null -/
def ax_load (k : Nat) (ls : ax_L) (i pc : Nat) (st : List Value) : Option (Nat × ax_L × List Value) := match k, ax_ld ls i with
  | 0, some (.int x) => some (pc, ls, .int x :: st)
  | 1, some (.long x) => some (pc, ls, .long x :: st)
  | 2, some (.ref x) => some (pc, ls, .ref x :: st)
  | 2, some .null => some (pc, ls, .null :: st)
  | _, _ => none
def ax_store (k : Nat) (ls : ax_L) (i pc : Nat) (st : List Value) : Option (Nat × ax_L × List Value) := match k, st with
  | 0, .int x :: r => if i < ls.length then some (pc, ax_set ls i (.int x), r) else none
  | 1, .long x :: r => if i + 1 < ls.length then some (pc, ax_set ls i (.long x), r) else none
  | 2, .ref x :: r => if i < ls.length then some (pc, ax_set ls i (.ref x), r) else none
  | 2, .null :: r => if i < ls.length then some (pc, ax_set ls i .null, r) else none
  | _, _ => none
def ax_stk (i : Instr) (pc : Nat) (ls : ax_L) (st : List Value) : Option (Nat × ax_L × List Value) := match i, st with
  | .dup, a :: r => if a.category = 1 then some (pc + 1, ls, a :: a :: r) else none
  | .pop, a :: r => if a.category = 1 then some (pc + 1, ls, r) else none
  | .dup_x1, a :: b :: r => if a.category = 1 ∧ b.category = 1 then some (pc + 1, ls, a :: b :: a :: r) else none
  | .dup2, a :: b :: r => if a.category = 1 ∧ b.category = 1 then some (pc + 1, ls, a :: b :: a :: b :: r) else none
  | .ifnull off, .ref _ :: r => some (pc + 3, ls, r)
  | .ifnull off, .null :: r => (ax_jmp pc off).map (fun t => (t, ls, r))
  | .ifnonnull off, .ref _ :: r => (ax_jmp pc off).map (fun t => (t, ls, r))
  | .ifnonnull off, .null :: r => some (pc + 3, ls, r)
  | .tableswitch d lo hi offs, .int x :: r => if x.toInt < lo ∨ hi < x.toInt then (ax_jmp pc d).map (fun t => (t, ls, r)) else (offs[(x.toInt - lo).toNat]?).bind (fun o => (ax_jmp pc o).map (fun t => (t, ls, r)))
  | .lookupswitch d ps, .int x :: r => if (ps.toList.zip (ps.toList.drop 1)).all (fun (a, next) => a.1 < next.1) = true then (ax_jmp pc (Op.lookupswitch.offset ps.toList d x.toInt)).map (fun t => (t, ls, r)) else none
  | .ifCond c off, .int x :: r => ax_br (ax_cmp c x 0) pc off ls r
  | .if_icmp c off, .int y :: .int x :: r => ax_br (ax_cmp c x y) pc off ls r
  | _, _ => none
/-- the instructions that leave the cells alone -/
def ax_pure (i : Instr) (len pc : Nat) (ls : ax_L) (st : List Value) : Option (Nat × ax_L × List Value) := match i, len with
  | .iconst n, 1 => some (pc + 1, ls, .int (Int32.ofInt n) :: st)
  | .bipush n, 2 => some (pc + 2, ls, .int (Int8.ofInt n).toInt32 :: st)
  | .sipush n, 3 => some (pc + 3, ls, .int (Int16.ofInt n).toInt32 :: st)
  | .lconst n, 1 => some (pc + 1, ls, .long (Int64.ofNat (n : Nat)) :: st)
  | .aconst_null, 1 => some (pc + 1, ls, .null :: st)
  | .iload n, 2 => ax_load 0 ls n (pc + 2) st
  | .iload_n n, 1 => ax_load 0 ls n (pc + 1) st
  | .lload n, 2 => ax_load 1 ls n (pc + 2) st
  | .lload_n n, 1 => ax_load 1 ls n (pc + 1) st
  | .aload n, 2 => ax_load 2 ls n (pc + 2) st
  | .aload_n n, 1 => ax_load 2 ls n (pc + 1) st
  | .istore n, 2 => ax_store 0 ls n (pc + 2) st
  | .istore_n n, 1 => ax_store 0 ls n (pc + 1) st
  | .lstore n, 2 => ax_store 1 ls n (pc + 2) st
  | .lstore_n n, 1 => ax_store 1 ls n (pc + 1) st
  | .astore n, 2 => ax_store 2 ls n (pc + 2) st
  | .astore_n n, 1 => ax_store 2 ls n (pc + 1) st
  | .iinc n k, 3 => match ax_ld ls n with
    | some (.int x) => some (pc + 3, ax_set ls n (.int (x + Int32.ofInt k)), st)
    | _ => none
  | .goto off, 3 => (ax_jmp pc off).map (fun t => (t, ls, st))
  | .ineg, 1 | .i2l, 1 | .l2i, 1 | .i2c, 1 => match st with
    | x :: r => (ax_un i x).map (fun v => (pc + 1, ls, v :: r))
    | _ => none
  | .iadd, 1 | .isub, 1 | .imul, 1 | .iand, 1 | .ior, 1 | .ixor, 1 | .ishl, 1 | .ishr, 1 | .iushr, 1 | .idiv, 1 | .irem, 1 | .ladd, 1 | .land, 1 | .lor, 1 | .lshl, 1 | .lshr, 1 | .lushr, 1 | .lcmp, 1 => match st with
    | y :: x :: r => (ax_bin i x y).map (fun v => (pc + 1, ls, v :: r))
    | _ => none
  | .dup, 1 | .pop, 1 | .dup_x1, 1 | .dup2, 1 => ax_stk i pc ls st
  | .ifnull _, 3 | .ifnonnull _, 3 | .ifCond _ _, 3 | .if_icmp _ _, 3 => ax_stk i pc ls st
  | .tableswitch _ _ _ _, _ | .lookupswitch _ _, _ => ax_stk i pc ls st
  | _, _ => none
def ax_fit (ty : FieldType) (v : Value) : Bool := decide (narrow ty v = v) && fits ty v
def ax_tn (T : ax_T) (ty : FieldType) : Option Nat := (ax_ty T).findIdx? (fun q => decide (q = ty))
def ax_blank (T : ax_T) (ci n : Nat) : List Value := (List.range n).map (fun k => defaultValue (ax_fty T ci k))
abbrev ax_S : Type := Nat × ax_L × List Value × ax_H
/-- kinds of pool entries: 1 a field (class, place), 2 a nest mate's, 4 a class (its number, its slots), 5 a class of an array's cells (the type's number), 9 Object.<init> -/
def ax_getf (T : ax_T) (mi idx a pc : Nat) (ls : ax_L) (r : List Value) (h : ax_H) : Option ax_S := match h.1 a with
  | some (.inr (cj, fs)) => if ((ax_pl T mi idx).1 = 1 ∨ (ax_pl T mi idx).1 = 2) ∧ (ax_pl T mi idx).2.1 = cj then (fs[(ax_pl T mi idx).2.2]?).map (fun v => (pc + 3, ls, v :: r, h)) else none
  | _ => none
/-- a final field: only in a constructor of its own class -/
def ax_fin (T : ax_T) (mi ci k : Nat) : Bool := match (ax_cl T)[ci]? with
  | some q => !(q.2.1 k).2.2.2 || (decide ((ax_nm T mi).name = "<init>") && decide ((ax_nm T mi).cls = (q.2.1 k).1))
  | none => false
def ax_putf (T : ax_T) (mi idx a pc : Nat) (v : Value) (ls : ax_L) (r : List Value) (h : ax_H) : Option ax_S := match h.1 a with
  | some (.inr (cj, fs)) => if a < h.2.1 ∧ (ax_pl T mi idx).1 = 1 ∧ (ax_pl T mi idx).2.1 = cj ∧ (ax_pl T mi idx).2.2 < fs.length ∧ ax_fit (ax_fty T cj (ax_pl T mi idx).2.2) v = true ∧ ax_fin T mi cj (ax_pl T mi idx).2.2 = true then some (pc + 3, ls, r, ax_up h a (.inr (cj, fs.set (ax_pl T mi idx).2.2 v))) else none
  | _ => none
/-- the script is read -/
def ax_scr (T : ax_T) (i : Instr) (j : Int32) (pc : Nat) (ls : ax_L) (r : List Value) (h : ax_H) : Option ax_S := match i with
  | .iaload => match ax_sc T with
    | some q => if j < 0 ∨ q.1 ≤ j.toNatClampNeg then none else some (pc + 1, ls, .int (q.2 j.toNatClampNeg) :: r, h)
    | none => none
  | _ => none
def ax_ald (T : ax_T) (i : Instr) (j : Int32) (a pc : Nat) (ls : ax_L) (r : List Value) (h : ax_H) : Option ax_S := if a = ax_big then ax_scr T i j pc ls r h else match h.1 a with
  | some (.inl (t, n, x)) => if j < 0 ∨ n ≤ j.toNatClampNeg then none else match i, (ax_ty T)[t]?, x with
    | .iaload, some .int, .inl f => some (pc + 1, ls, .int (f j.toNatClampNeg) :: r, h)
    | .caload, some .char, .inl f => some (pc + 1, ls, .int (f j.toNatClampNeg) :: r, h)
    | .laload, some .long, .inr (.inl f) => some (pc + 1, ls, .long (f j.toNatClampNeg) :: r, h)
    | .aaload, some (.object _), .inr (.inr (.inr (.inr f))) => some (pc + 1, ls, va_rf (f j.toNatClampNeg) :: r, h)
    | _, _, _ => none
  | _ => none
def ax_ast (T : ax_T) (i : Instr) (v : Value) (j : Int32) (a pc : Nat) (ls : ax_L) (r : List Value) (h : ax_H) : Option ax_S := match h.1 a with
  | some (.inl (t, n, x)) => if h.2.1 ≤ a ∨ j < 0 ∨ n ≤ j.toNatClampNeg then none else match i, (ax_ty T)[t]?, x, v with
    | .iastore, some .int, .inl f, .int y => some (pc + 1, ls, r, ax_up h a (.inl (t, n, .inl (upd f j.toNatClampNeg y))))
    | .castore, some .char, .inl f, .int y => some (pc + 1, ls, r, ax_up h a (.inl (t, n, .inl (upd f j.toNatClampNeg (vp_nar .char y)))))
    | .lastore, some .long, .inr (.inl f), .long y => some (pc + 1, ls, r, ax_up h a (.inl (t, n, .inr (.inl (vp_updL f j.toNatClampNeg y)))))
    | .aastore, some (.object C), .inr (.inr (.inr (.inr f))), .ref y => match h.1 y with
      | some (.inr (ci, _)) => if ((ax_cl T)[ci]?).map (fun q => q.1) = some C then some (pc + 1, ls, r, ax_up h a (.inl (t, n, .inr (.inr (.inr (.inr (va_up f j.toNatClampNeg (some y)))))))) else none
      | _ => none
    | _, _, _, _ => none
  | _ => none
def ax_alen (T : ax_T) (a pc : Nat) (ls : ax_L) (r : List Value) (h : ax_H) : Option ax_S := if a = ax_big then (ax_sc T).map (fun q => (pc + 1, ls, .int (Int32.ofNat q.1) :: r, h)) else match h.1 a with
  | some (.inl (t, n, _)) => if t < (ax_ty T).length then some (pc + 1, ls, .int (Int32.ofNat n) :: r, h) else none
  | _ => none
def ax_newa (T : ax_T) (aty : ArrayType) (n : Int32) (pc : Nat) (ls : ax_L) (r : List Value) (h : ax_H) : Option ax_S :=
  if n < 0 ∨ 65536 < n.toNatClampNeg ∨ ax_big ≤ h.2.1 then none else match aty, ax_tn T (newarray.typeOf aty) with
    | .int, some t => some (pc + 2, ls, .ref h.2.1 :: r, ax_add h (.inl (t, n.toNatClampNeg, .inl (fun _ => 0))) n.toNatClampNeg)
    | .char, some t => some (pc + 2, ls, .ref h.2.1 :: r, ax_add h (.inl (t, n.toNatClampNeg, .inl (fun _ => 0))) n.toNatClampNeg)
    | .long, some t => some (pc + 2, ls, .ref h.2.1 :: r, ax_add h (.inl (t, n.toNatClampNeg, .inr (.inl (fun _ => 0)))) n.toNatClampNeg)
    | _, _ => none
def ax_anew (T : ax_T) (mi idx : Nat) (n : Int32) (pc : Nat) (ls : ax_L) (r : List Value) (h : ax_H) : Option ax_S :=
  if n < 0 ∨ 65536 < n.toNatClampNeg ∨ ax_big ≤ h.2.1 then none else if (ax_pl T mi idx).1 = 4 then match (ax_cl T)[(ax_pl T mi idx).2.1]? with
    | some q => match ax_tn T (.object q.1) with
      | some t => some (pc + 3, ls, .ref h.2.1 :: r, ax_add h (.inl (t, n.toNatClampNeg, .inr (.inr (.inr (.inr (fun _ => none)))))) n.toNatClampNeg)
      | none => none
    | none => none
    else none
def ax_new (T : ax_T) (mi idx pc : Nat) (ls : ax_L) (r : List Value) (h : ax_H) : Option ax_S :=
  if (ax_pl T mi idx).1 = 4 ∧ h.2.1 < ax_big then some (pc + 3, ls, .ref h.2.1 :: r, ax_add h (.inr ((ax_pl T mi idx).2.1, ax_blank T (ax_pl T mi idx).2.1 (ax_pl T mi idx).2.2)) (ax_pl T mi idx).2.2) else none
def ax_oini (T : ax_T) (mi idx pc : Nat) (ls : ax_L) (r : List Value) (h : ax_H) : Option ax_S :=
  if (ax_pl T mi idx).1 = 9 ∧ (r.map (fun v => v.category)).sum ≤ 8 then some (pc + 3, ls, r, h) else none
/-- a long constant: 11 (its number) -/
def ax_ldc2 (T : ax_T) (mi idx pc : Nat) (ls : ax_L) (r : List Value) (h : ax_H) : Option ax_S :=
  if (ax_pl T mi idx).1 = 11 then some (pc + 3, ls, .long (Int64.ofNat (ax_pl T mi idx).2.1) :: r, h) else none
/-- the instructions that read or write cells -/
def ax_mem (T : ax_T) (mi : Nat) (i : Instr) (pc : Nat) (ls : ax_L) (st : List Value) (h : ax_H) : Option ax_S := match i, st with
  | .getfield idx, .ref a :: r => ax_getf T mi idx a pc ls r h
  | .putfield idx, v :: .ref a :: r => ax_putf T mi idx a pc v ls r h
  | .iaload, .int j :: .ref a :: r => ax_ald T .iaload j a pc ls r h
  | .caload, .int j :: .ref a :: r => ax_ald T .caload j a pc ls r h
  | .laload, .int j :: .ref a :: r => ax_ald T .laload j a pc ls r h
  | .aaload, .int j :: .ref a :: r => ax_ald T .aaload j a pc ls r h
  | .iastore, v :: .int j :: .ref a :: r => ax_ast T .iastore v j a pc ls r h
  | .castore, v :: .int j :: .ref a :: r => ax_ast T .castore v j a pc ls r h
  | .lastore, v :: .int j :: .ref a :: r => ax_ast T .lastore v j a pc ls r h
  | .aastore, v :: .int j :: .ref a :: r => ax_ast T .aastore v j a pc ls r h
  | .arraylength, .ref a :: r => ax_alen T a pc ls r h
  | .newarray aty, .int n :: r => ax_newa T aty n pc ls r h
  | .anewarray idx, .int n :: r => ax_anew T mi idx n pc ls r h
  | .new idx, r => ax_new T mi idx pc ls r h
  | .ldc2_w idx, r => ax_ldc2 T mi idx pc ls r h
  | .invokespecial idx, .ref _ :: r => ax_oini T mi idx pc ls r h
  | _, _ => none
/-- how long an instruction of these is -/
def ax_ml (i : Instr) : Nat := match i with
  | .getfield _ | .putfield _ | .ldc2_w _ | .anewarray _ | .new _ | .invokespecial _ | .invokestatic _ | .invokevirtual _ => 3
  | .newarray _ => 2
  | _ => 1
/-- a call: method, its arguments, what is left on the stack. Kinds: 6 static, 7 virtual, 8 a constructor; 16, 17, 18 the same of a nest mate's private method; 26 a static method with handlers -/
def ax_inv (T : ax_T) (mi : Nat) (i : Instr) (st : List Value) (h : ax_H) : Option (Nat × List Value × List Value) := match i with
  | .invokestatic idx => if ((ax_pl T mi idx).1 = 6 ∨ (ax_pl T mi idx).1 = 16 ∨ (ax_pl T mi idx).1 = 26) ∧ (ax_pl T mi idx).2.2 ≤ st.length ∧ ((st.drop (ax_pl T mi idx).2.2).map (fun v => v.category)).sum ≤ 8 then some ((ax_pl T mi idx).2.1, (st.take (ax_pl T mi idx).2.2).reverse, st.drop (ax_pl T mi idx).2.2) else none
  | .invokevirtual idx => match st.drop (ax_pl T mi idx).2.2 with
    | .ref a :: r => match h.1 a with
      | some (.inr (ci, _)) => if ((ax_pl T mi idx).1 = 7 ∨ (ax_pl T mi idx).1 = 17) ∧ ((ax_cl T)[ci]?).map (fun q => q.1) = some (ax_nm T (ax_pl T mi idx).2.1).cls ∧ (r.map (fun v => v.category)).sum ≤ 8 then some ((ax_pl T mi idx).2.1, .ref a :: (st.take (ax_pl T mi idx).2.2).reverse, r) else none
      | _ => none
    | _ => none
  | .invokespecial idx => match st.drop (ax_pl T mi idx).2.2 with
    | .ref a :: r => if ((ax_pl T mi idx).1 = 8 ∨ (ax_pl T mi idx).1 = 18) ∧ (r.map (fun v => v.category)).sum ≤ 8 then some ((ax_pl T mi idx).2.1, .ref a :: (st.take (ax_pl T mi idx).2.2).reverse, r) else none
    | _ => none
  | _ => none
def ax_ret (rt : Option FieldType) (i : Instr) (st : List Value) : Option (Option Value) := match i, st, rt with
  | .return_, [], none => some none
  | .ireturn, [.int x], some ty => if narrow ty (.int x) = .int x then some (some (.int x)) else none
  | .lreturn, [.long x], some .long => some (some (.long x))
  | .areturn, [.ref x], some (.object _) => some (some (.ref x))
  | .areturn, [.null], some (.object _) => some (some .null)
  | _, _, _ => none
/-- the cells behind a throw: one more, of which nothing is said -/
def ax_one (h : ax_H) : ax_H := (h.1, h.2.1 + 1, h.2.2.1 + 6, h.2.2.2)
/-- 'new X; dup; X.<init>; athrow': 10 (X, the constructor's index) -/
def ax_thr (T : ax_T) (mi : Nat) (i : Instr) (pc : Nat) (st : List Value) (h : ax_H) : Option ax_O := match i with
  | .new idx => match decode (ax_code T mi) (pc + 3), decode (ax_code T mi) (pc + 4), decode (ax_code T mi) (pc + 7) with
    | .ok (.dup, 1), .ok (.invokespecial ic, 3), .ok (.athrow, 1) => if (ax_pl T mi idx).1 = 10 ∧ (ax_pl T mi idx).2.2 = ic ∧ h.2.1 < ax_big ∧ (st.map (fun v => v.category)).sum ≤ 8 ∧ ax_hs T mi = [] then some (.inr (ax_pl T mi idx).2.1, ax_one h) else none
    | _, _, _ => none
  | _ => none
/-- the calls whose exceptions are caught -/
def ax_cv (T : ax_T) (mi : Nat) (i : Instr) : Bool := match i with
  | .invokevirtual idx => decide ((ax_pl T mi idx).1 = 7)
  | _ => false
/-- n steps at most from here on in the method mi; cf says what calls come to -/
def ax_loop (T : ax_T) (cf : Nat → List Value → ax_H → Option ax_O) (mi : Nat) : Nat → Nat → ax_L → List Value → ax_H → Option ax_O
  | 0, _, _, _, _ => none
  | n + 1, pc, ls, st, h => match decode (ax_code T mi) pc with
    | .ok (i, len) => match ax_pure i len pc ls st with
      | some (pc', ls', st') => ax_loop T cf mi n pc' ls' st' h
      | none => if len = ax_ml i then match ax_mem T mi i pc ls st h with
        | some (pc', ls', st', h') => ax_loop T cf mi n pc' ls' st' h'
        | none => match ax_inv T mi i st h with
          | some (mj, av, r) => match cf mj av h with
            | some (.inl v, h') => ax_loop T cf mi n (pc + 3) ls (v.toList ++ r) h'
            | some (.inr x, h') => if ax_cv T mi i = true then match ax_hd T mi pc x with
              | some pc' => ax_loop T cf mi n pc' ls [.ref (h'.2.1 - 1)] h'
              | none => none
              else none
            | none => none
          | none => match ax_thr T mi i pc st h with
            | some o => some o
            | none => (ax_ret (ax_rt T mi) i st).map (fun v => (.inl v, h))
        else none
    | _ => none
def ax_sl (av : List Value) : ax_L := av.flatMap fun v => if v.category = 2 then [some v, none] else [some v]
def ax_entry (T : ax_T) (mi : Nat) (av : List Value) : ax_L := ax_sl av ++ List.replicate (ax_mx T mi - (ax_sl av).length) none
/-- a method that throws has made nothing and written nothing before -/
def ax_fit1 (h : ax_H) (o : ax_O) : Bool := match o.1 with
  | .inl _ => true
  | .inr _ => decide (o.2.2.1 = h.2.1 + 1 ∧ o.2.2.2.1 = h.2.2.1 + 6 ∧ o.2.2.2.2 = h.2.2.2)
/-- a call of the method mi, frames d deep, of at most n steps a frame -/
def ax_call (T : ax_T) : Nat → Nat → Nat → List Value → ax_H → Option ax_O
  | 0, _, _, _, _ => none
  | d + 1, n, mi, av, h => if (ax_sl av).length ≤ ax_mx T mi then (ax_loop T (ax_call T d n) mi n 0 (ax_entry T mi av) [] h).filter (fun o => ax_fit1 h o) else none
end
section
/-! The abstract machine's runs are the machine's: cells, values, locals. -/
def ax_tv (as : Nat → Nat) : Value → Value
  | .ref i => .ref (as i)
  | v => v
def ax_tA (as : Nat → Nat) (a : vp_A) : vp_A := (a.1, match a.2 with
  | .inr (.inr (.inr (.inr f))) => .inr (.inr (.inr (.inr (fun j => (f j).map as))))
  | x => x)
def ax_tc (as : Nat → Nat) (tA : Nat → ClassId) : ax_C → va_E
  | .inl a => .inl (tA a.1, ax_tA as a.2)
  | .inr o => .inr (o.1, o.2.map (ax_tv as))
/-- where the cells stand: those that are made one behind the other from b on, the others below -/
def ax_As (b : Nat) (as : Nat → Nat) : Prop := (∀ i, i < ax_big → as i = b + i) ∧ ∀ i, ax_big ≤ i → as i < b
def ax_R (b : Nat) (as : Nat → Nat) (D : va_G) (cl : List vw_C) (tA : Nat → ClassId) (h : ax_H) (H : Heap) : Prop :=
  H.size = b + h.2.1 ∧ h.2.1 ≤ ax_big ∧ ∀ (i : Nat) (c : ax_C), h.1 i = some c → (i < h.2.1 ∨ ax_big ≤ i) ∧ va_at D cl (as i, ax_tc as tA c) H
def ax_lr (as : Nat → Nat) (ls : ax_L) (a : Array Slot) : Prop :=
  a.size = ls.length ∧ lv_wf a ∧ ∀ (i : Nat) (v : Value), ls[i]? = some (some v) → a[i]? = some (.val (ax_tv as v))
theorem ax_tv_cat (as : Nat → Nat) (v : Value) : (ax_tv as v).category = v.category := by cases v <;> rfl
def ax_lv (as : Nat → Nat) (ls : ax_L) : List (Nat × Value) := (List.range ls.length).filterMap (fun i => (ax_ld ls i).map (fun v => (i, ax_tv as v)))
theorem ax_ld_iff {ls : ax_L} {i : Nat} {v : Value} : ax_ld ls i = some v ↔ ls[i]? = some (some v) := by
  unfold ax_ld
  cases h : ls[i]? with
  | none => simp
  | some o => simp
theorem ax_lv_mem {as : Nat → Nat} {ls : ax_L} {i : Nat} {v : Value} (h : ls[i]? = some (some v)) : (i, ax_tv as v) ∈ ax_lv as ls := by
  have hi : i < ls.length := (List.getElem?_eq_some_iff.mp h).1
  exact List.mem_filterMap.mpr ⟨i, List.mem_range.mpr hi, by rw [ax_ld_iff.mpr h]; rfl⟩
theorem ax_lr.has {as : Nat → Nat} {ls : ax_L} {a : Array Slot} (h : ax_lr as ls a) : lv_has a ls.length (ax_lv as ls) := by
  refine ⟨h.1, h.2.1, fun q hq => ?_⟩
  obtain ⟨i, -, hi⟩ := List.mem_filterMap.mp hq
  cases hv : ax_ld ls i with
  | none => rw [hv] at hi; cases hi
  | some v =>
    rw [hv] at hi
    cases hi
    exact h.2.2 i v (ax_ld_iff.mp hv)
theorem ax_lr.ld {as : Nat → Nat} {ls : ax_L} {a : Array Slot} (h : ax_lr as ls a) {i : Nat} {v : Value} (hv : ax_ld ls i = some v) : a[i]? = some (.val (ax_tv as v)) := h.2.2 i v (ax_ld_iff.mp hv)
theorem ax_kill_len (ls : ax_L) (i : Nat) : (ax_kill ls i).length = ls.length := by
  unfold ax_kill
  split
  · rfl
  · split
    · split <;> simp
    · rfl
theorem ax_set_len (ls : ax_L) (i : Nat) (v : Value) : (ax_set ls i v).length = ls.length := by
  unfold ax_set
  split <;> simp [ax_kill_len]
theorem ax_kill_get {ls : ax_L} {i j : Nat} {w : Value} (h : (ax_kill ls i)[j]? = some (some w)) : ls[j]? = some (some w) ∧ (j + 1 = i → ¬ w.category = 2) := by
  unfold ax_kill at h
  split at h
  · exact ⟨h, fun q => by omega⟩
  · rename_i k
    split at h
    · rename_i w' hw'
      split at h
      · rename_i hc
        rw [List.getElem?_set] at h
        split at h
        · split at h <;> cases h
        · rename_i hne
          exact ⟨h, fun q => by omega⟩
      · rename_i hc
        refine ⟨h, fun q => ?_⟩
        have : j = k := by omega
        subst this
        rw [hw'] at h
        cases h
        exact hc
    · rename_i hn
      refine ⟨h, fun q => ?_⟩
      have : j = k := by omega
      subst this
      exact absurd h (hn w)
theorem ax_set_get {ls : ax_L} {i j : Nat} {v w : Value} (h : (ax_set ls i v)[j]? = some (some w)) : (j = i ∧ w = v) ∨ (j ≠ i ∧ ls[j]? = some (some w) ∧ (j + 1 = i → ¬ w.category = 2) ∧ (v.category = 2 → j ≠ i + 1)) := by
  unfold ax_set at h
  split at h
  · rw [List.getElem?_set] at h
    split at h
    · split at h <;> cases h
    · rename_i hne
      rw [List.getElem?_set] at h
      split at h
      · rename_i he
        split at h
        · cases h; exact Or.inl ⟨he.symm, rfl⟩
        · cases h
      · rename_i hn2
        obtain ⟨g1, g2⟩ := ax_kill_get h
        exact Or.inr ⟨fun q => hn2 q.symm, g1, g2, fun _ q => hne q.symm⟩
  · rename_i hc
    rw [List.getElem?_set] at h
    split at h
    · rename_i he
      split at h
      · cases h; exact Or.inl ⟨he.symm, rfl⟩
      · cases h
    · rename_i hn2
      obtain ⟨g1, g2⟩ := ax_kill_get h
      exact Or.inr ⟨fun q => hn2 q.symm, g1, g2, fun q => absurd q hc⟩
theorem ax_lr.st1 {as : Nat → Nat} {ls : ax_L} {a' : Array Slot} {i : Nat} {v : Value} (hc : v.category = 1)
    (h : lv_has a' ls.length ((i, ax_tv as v) :: (ax_lv as ls).filter (fun q => !(q.1 == i) && !(q.1 + 1 == i && q.2.category == 2)))) : ax_lr as (ax_set ls i v) a' := by
  refine ⟨by rw [ax_set_len]; exact h.1, h.2.1, fun j w hw => ?_⟩
  rcases ax_set_get hw with ⟨rfl, rfl⟩ | ⟨h1, h2, h3, h4⟩
  · exact h.2.2 _ List.mem_cons_self
  · refine h.2.2 (j, ax_tv as w) (List.mem_cons_of_mem _ (List.mem_filter.mpr ⟨ax_lv_mem h2, ?_⟩))
    simp only [Bool.and_eq_true, Bool.not_eq_true', beq_eq_false_iff_ne, ne_eq, Bool.and_eq_false_imp, beq_iff_eq]
    refine ⟨h1, fun q => ?_⟩
    rw [ax_tv_cat]
    exact h3 q
theorem ax_lr.st2 {as : Nat → Nat} {ls : ax_L} {a' : Array Slot} {i : Nat} {v : Value} (hc : v.category = 2)
    (h : lv_has a' ls.length ((i, ax_tv as v) :: (ax_lv as ls).filter (fun q => !(q.1 == i) && (!(q.1 == i + 1) && !(q.1 + 1 == i && q.2.category == 2))))) : ax_lr as (ax_set ls i v) a' := by
  refine ⟨by rw [ax_set_len]; exact h.1, h.2.1, fun j w hw => ?_⟩
  rcases ax_set_get hw with ⟨rfl, rfl⟩ | ⟨h1, h2, h3, h4⟩
  · exact h.2.2 _ List.mem_cons_self
  · refine h.2.2 (j, ax_tv as w) (List.mem_cons_of_mem _ (List.mem_filter.mpr ⟨ax_lv_mem h2, ?_⟩))
    simp only [Bool.and_eq_true, Bool.not_eq_true', beq_eq_false_iff_ne, ne_eq, Bool.and_eq_false_imp, beq_iff_eq]
    refine ⟨h1, h4 hc, fun q => ?_⟩
    rw [ax_tv_cat]
    exact h3 q
theorem ax_jmp_eq {pc t : Nat} {off : Int} (h : ax_jmp pc off = some t) : (pc : Int) + off = (t : Int) := by
  unfold ax_jmp at h
  split at h
  · cases h; omega
  · cases h
end
section
section AX1
variable {p : Program} {l : Launch} {e : Env} {R : Room} {s : State} {m : MethodId} {args : Array Value} {below : List Frame} {meth : Method} {c : Code} {H : Heap} {locs : List Loc} {cells slots : Nat} {Q : State → Prop}
variable {cc : ByteArray} {pc : Nat} {as : Nat → Nat} {a : Array Slot} {rest : List Value} {ls : ax_L}
theorem ax_un_ok (hx : p.tables.exec = Jvm.exec) (hb : c.code = cc) {i : Instr} {x v : Value} (hd : decode cc pc = .ok (i, 1)) (hp : ax_un i x = some v)
    (k : W p l e R s m args below meth c H locs cells slots Q (F0 m (pc + 1) a (ax_tv as v :: rest))) : W p l e R s m args below meth c H locs cells slots Q (F0 m pc a (ax_tv as x :: rest)) := by
  unfold ax_un at hp
  split at hp
  · cases hp; exact lv_ineg hx hb hd k
  · cases hp; exact lv_i2l hx hb hd rfl k
  · cases hp; exact lv_l2i hx hb hd rfl k
  · cases hp; exact lv_i2c hx hb hd rfl k
  · cases hp
theorem ax_bin_ok (hx : p.tables.exec = Jvm.exec) (hb : c.code = cc) {i : Instr} {x y v : Value} (hd : decode cc pc = .ok (i, 1)) (hp : ax_bin i x y = some v)
    (k : W p l e R s m args below meth c H locs cells slots Q (F0 m (pc + 1) a (ax_tv as v :: rest))) : W p l e R s m args below meth c H locs cells slots Q (F0 m pc a (ax_tv as y :: ax_tv as x :: rest)) := by
  unfold ax_bin at hp
  split at hp
  · cases hp; exact lv_iadd hx hb hd k
  · cases hp; exact lv_isub hx hb hd k
  · cases hp; exact lv_imul hx hb hd k
  · cases hp; exact lv_iand hx hb hd k
  · cases hp; exact lv_ior hx hb hd k
  · cases hp; exact lv_ixor hx hb hd k
  · cases hp; exact lv_ishl hx hb hd k
  · cases hp; exact lv_ishr hx hb hd k
  · cases hp; exact lv_iushr hx hb hd rfl k
  · split at hp
    · cases hp
    · rename_i hne
      cases hp; exact lv_idiv hx hb hd hne k
  · split at hp
    · cases hp
    · rename_i hne
      cases hp; exact lv_irem hx hb hd hne k
  · cases hp; exact lv_ladd hx hb hd k
  · cases hp; exact lv_land hx hb hd k
  · cases hp; exact lv_lor hx hb hd k
  · cases hp; exact lv_lshl hx hb hd rfl k
  · cases hp; exact lv_lshr hx hb hd rfl k
  · cases hp; exact lv_lushr hx hb hd rfl k
  · cases hp; exact W.lcmp hx hb hd k
  · cases hp
theorem ax_br_ok {t : Bool} {off : Int} {st st' : List Value} {pc' : Nat} {ls' : ax_L} (hp : ax_br t pc off ls st = some (pc', ls', st')) :
    ∃ q : Nat, (pc : Int) + off = (q : Int) ∧ pc' = cond t q (pc + 3) ∧ ls' = ls ∧ st' = st := by
  unfold ax_br at hp
  cases hj : ax_jmp pc off with
  | none => rw [hj] at hp; cases hp
  | some q =>
    rw [hj] at hp
    cases hp
    exact ⟨q, ax_jmp_eq hj, rfl, rfl, rfl⟩
theorem ax_if_ok (hx : p.tables.exec = Jvm.exec) (hb : c.code = cc) {cd : ClassFile.Cond} {off : Int} {x : Int32} {q : Nat} (hd : decode cc pc = .ok (.ifCond cd off, 3)) (ht : (pc : Int) + off = (q : Int))
    (k : W p l e R s m args below meth c H locs cells slots Q (F0 m (cond (ax_cmp cd x 0) q (pc + 3)) a rest)) : W p l e R s m args below meth c H locs cells slots Q (F0 m pc a (.int x :: rest)) := by
  cases cd
  · exact lv_if_eq hx hb hd ht (fun z => by rw [show ax_cmp .eq x 0 = true from decide_eq_true z] at k; exact k) (fun z => by rw [show ax_cmp .eq x 0 = false from decide_eq_false z] at k; exact k)
  · exact lv_if_ne hx hb hd ht (fun z => by rw [show ax_cmp .ne x 0 = true from decide_eq_true z] at k; exact k) (fun z => by rw [show ax_cmp .ne x 0 = false from decide_eq_false (not_not_intro z)] at k; exact k)
  · exact lv_if_lt hx hb hd ht (fun z => by rw [show ax_cmp .lt x 0 = true from decide_eq_true z] at k; exact k) (fun z => by rw [show ax_cmp .lt x 0 = false from decide_eq_false z] at k; exact k)
  · exact lv_if_ge hx hb hd ht (fun z => by rw [show ax_cmp .ge x 0 = true from decide_eq_true z] at k; exact k) (fun z => by rw [show ax_cmp .ge x 0 = false from decide_eq_false z] at k; exact k)
  · exact lv_if_gt hx hb hd ht (fun z => by rw [show ax_cmp .gt x 0 = true from decide_eq_true z] at k; exact k) (fun z => by rw [show ax_cmp .gt x 0 = false from decide_eq_false z] at k; exact k)
  · exact lv_if_le hx hb hd ht (fun z => by rw [show ax_cmp .le x 0 = true from decide_eq_true z] at k; exact k) (fun z => by rw [show ax_cmp .le x 0 = false from decide_eq_false z] at k; exact k)
theorem ax_ic_ok (hx : p.tables.exec = Jvm.exec) (hb : c.code = cc) {cd : ClassFile.Cond} {off : Int} {x y : Int32} {q : Nat} (hd : decode cc pc = .ok (.if_icmp cd off, 3)) (ht : (pc : Int) + off = (q : Int))
    (k : W p l e R s m args below meth c H locs cells slots Q (F0 m (cond (ax_cmp cd x y) q (pc + 3)) a rest)) : W p l e R s m args below meth c H locs cells slots Q (F0 m pc a (.int y :: .int x :: rest)) := by
  cases cd
  · exact lv_icmp_eq hx hb hd ht (fun z => by rw [show ax_cmp .eq x y = true from decide_eq_true z] at k; exact k) (fun z => by rw [show ax_cmp .eq x y = false from decide_eq_false z] at k; exact k)
  · exact lv_icmp_ne hx hb hd ht (fun z => by rw [show ax_cmp .ne x y = true from decide_eq_true z] at k; exact k) (fun z => by rw [show ax_cmp .ne x y = false from decide_eq_false (not_not_intro z)] at k; exact k)
  · exact lv_icmp_lt hx hb hd ht (fun z => by rw [show ax_cmp .lt x y = true from decide_eq_true z] at k; exact k) (fun z => by rw [show ax_cmp .lt x y = false from decide_eq_false z] at k; exact k)
  · exact lv_icmp_ge hx hb hd ht (fun z => by rw [show ax_cmp .ge x y = true from decide_eq_true z] at k; exact k) (fun z => by rw [show ax_cmp .ge x y = false from decide_eq_false z] at k; exact k)
  · exact lv_icmp_gt hx hb hd ht (fun z => by rw [show ax_cmp .gt x y = true from decide_eq_true z] at k; exact k) (fun z => by rw [show ax_cmp .gt x y = false from decide_eq_false z] at k; exact k)
  · exact lv_icmp_le hx hb hd ht (fun z => by rw [show ax_cmp .le x y = true from decide_eq_true z] at k; exact k) (fun z => by rw [show ax_cmp .le x y = false from decide_eq_false z] at k; exact k)
theorem ax_load_ok {k0 i pc' q : Nat} {st st' : List Value} {ls' : ax_L} (hp : ax_load k0 ls i q st = some (pc', ls', st')) : pc' = q ∧ ls' = ls ∧ ∃ v, ax_ld ls i = some v ∧ st' = v :: st ∧
    ((k0 = 0 ∧ ∃ x, v = .int x) ∨ (k0 = 1 ∧ ∃ x, v = .long x) ∨ (k0 = 2 ∧ ((∃ x, v = .ref x) ∨ v = .null))) := by
  unfold ax_load at hp
  split at hp
  · rename_i h; cases hp; exact ⟨rfl, rfl, _, h, rfl, Or.inl ⟨rfl, _, rfl⟩⟩
  · rename_i h; cases hp; exact ⟨rfl, rfl, _, h, rfl, Or.inr (Or.inl ⟨rfl, _, rfl⟩)⟩
  · rename_i h; cases hp; exact ⟨rfl, rfl, _, h, rfl, Or.inr (Or.inr ⟨rfl, Or.inl ⟨_, rfl⟩⟩)⟩
  · rename_i h; cases hp; exact ⟨rfl, rfl, _, h, rfl, Or.inr (Or.inr ⟨rfl, Or.inr rfl⟩)⟩
  · cases hp
theorem ax_store_ok {k0 i pc' q : Nat} {st st' : List Value} {ls' : ax_L} (hp : ax_store k0 ls i q st = some (pc', ls', st')) : pc' = q ∧ ∃ v, ls' = ax_set ls i v ∧ st = v :: st' ∧
    ((k0 = 0 ∧ i < ls.length ∧ ∃ x, v = .int x) ∨ (k0 = 1 ∧ i + 1 < ls.length ∧ ∃ x, v = .long x) ∨ (k0 = 2 ∧ i < ls.length ∧ ((∃ x, v = .ref x) ∨ v = .null))) := by
  unfold ax_store at hp
  split at hp
  · split at hp
    · rename_i h; cases hp; exact ⟨rfl, _, rfl, rfl, Or.inl ⟨rfl, h, _, rfl⟩⟩
    · cases hp
  · split at hp
    · rename_i h; cases hp; exact ⟨rfl, _, rfl, rfl, Or.inr (Or.inl ⟨rfl, h, _, rfl⟩)⟩
    · cases hp
  · split at hp
    · rename_i h; cases hp; exact ⟨rfl, _, rfl, rfl, Or.inr (Or.inr ⟨rfl, h, Or.inl ⟨_, rfl⟩⟩)⟩
    · cases hp
  · split at hp
    · rename_i h; cases hp; exact ⟨rfl, _, rfl, rfl, Or.inr (Or.inr ⟨rfl, h, Or.inr rfl⟩)⟩
    · cases hp
  · cases hp
theorem ax_stk_ok (hx : p.tables.exec = Jvm.exec) (hb : c.code = cc) {i : Instr} {len : Nat} {st st' : List Value} {pc' : Nat} {ls' : ax_L} (hd : decode cc pc = .ok (i, len)) (hlen : (match i with | .dup | .pop | .dup_x1 | .dup2 => len = 1 | .tableswitch _ _ _ _ | .lookupswitch _ _ => True | _ => len = 3))
    (hp : ax_stk i pc ls st = some (pc', ls', st'))
    (k : ls' = ls → W p l e R s m args below meth c H locs cells slots Q (F0 m pc' a (st'.map (ax_tv as)))) : W p l e R s m args below meth c H locs cells slots Q (F0 m pc a (st.map (ax_tv as))) := by
  unfold ax_stk at hp
  split at hp
  · cases hlen
    split at hp
    · rename_i h; cases hp; exact lv_dup hx hb hd (by rw [ax_tv_cat]; exact h) (k rfl)
    · cases hp
  · cases hlen
    split at hp
    · rename_i h; cases hp; exact lv_pop hx hb hd (by rw [ax_tv_cat]; exact h) (k rfl)
    · cases hp
  · cases hlen
    split at hp
    · rename_i h; cases hp; exact lv_dup_x1 hx hb hd (by rw [ax_tv_cat]; exact h.1) (by rw [ax_tv_cat]; exact h.2) (k rfl)
    · cases hp
  · cases hlen
    split at hp
    · rename_i h; cases hp; exact lv_dup2_11 hx hb hd (by rw [ax_tv_cat]; exact h.1) (by rw [ax_tv_cat]; exact h.2) (k rfl)
    · cases hp
  · cases hlen
    cases hp; exact lv_ifnull hx hb hd (k rfl)
  · cases hlen
    rename_i off _
    cases hj : ax_jmp pc off with
    | none => rw [hj] at hp; cases hp
    | some q => rw [hj] at hp; cases hp; exact lv_ifnullN hx hb hd (ax_jmp_eq hj) (k rfl)
  · cases hlen
    rename_i off _ _
    cases hj : ax_jmp pc off with
    | none => rw [hj] at hp; cases hp
    | some q => rw [hj] at hp; cases hp; exact lv_ifnonnull hx hb hd (ax_jmp_eq hj) (k rfl)
  · cases hlen
    cases hp; exact lv_ifnonnullN hx hb hd (k rfl)
  · rename_i d lo hi offs x r
    split at hp
    · rename_i h
      cases hj : ax_jmp pc d with
      | none => rw [hj] at hp; cases hp
      | some q => rw [hj] at hp; cases hp; exact lv_tableOut hx hb hd h (ax_jmp_eq hj) (k rfl)
    · rename_i h
      cases ho : offs[(x.toInt - lo).toNat]? with
      | none => rw [ho] at hp; cases hp
      | some o =>
        rw [ho] at hp
        cases hj : ax_jmp pc o with
        | none => simp [hj] at hp
        | some q =>
          simp only [Option.bind_some, hj, Option.map_some, Option.some.injEq, Prod.mk.injEq] at hp
          obtain ⟨rfl, rfl, rfl⟩ := hp
          exact lv_tableIn hx hb hd (fun z => h (Or.inl z)) (fun z => h (Or.inr z)) ho (ax_jmp_eq hj) (k rfl)
  · rename_i d ps x r
    split at hp
    · rename_i h
      cases hj : ax_jmp pc (Op.lookupswitch.offset ps.toList d x.toInt) with
      | none => rw [hj] at hp; cases hp
      | some q => rw [hj] at hp; cases hp; exact lv_lookup hx hb hd h rfl (ax_jmp_eq hj) (k rfl)
    · cases hp
  · cases hlen
    obtain ⟨q, h1, rfl, rfl, rfl⟩ := ax_br_ok hp
    exact ax_if_ok hx hb hd h1 (k rfl)
  · cases hlen
    obtain ⟨q, h1, rfl, rfl, rfl⟩ := ax_br_ok hp
    exact ax_ic_ok hx hb hd h1 (k rfl)
  · cases hp
theorem ax_pure_ok (hx : p.tables.exec = Jvm.exec) (hb : c.code = cc) {i : Instr} {len : Nat} {st st' : List Value} {pc' : Nat} {ls' : ax_L} (hd : decode cc pc = .ok (i, len))
    (hp : ax_pure i len pc ls st = some (pc', ls', st')) (hl : ax_lr as ls a)
    (k : ∀ a', ax_lr as ls' a' → ls'.length = ls.length → W p l e R s m args below meth c H locs cells slots Q (F0 m pc' a' (st'.map (ax_tv as)))) : W p l e R s m args below meth c H locs cells slots Q (F0 m pc a (st.map (ax_tv as))) := by
  unfold ax_pure at hp
  split at hp
  · cases hp; exact lv_iconst hx hb hd rfl (k a hl rfl)
  · cases hp; exact lv_bipush hx hb hd rfl (k a hl rfl)
  · cases hp; exact lv_sipush hx hb hd rfl (k a hl rfl)
  · cases hp; exact lv_lconst hx hb hd rfl (k a hl rfl)
  · cases hp; exact lv_null hx hb hd (k a hl rfl)
  · obtain ⟨rfl, rfl, v, hv, rfl, h⟩ := ax_load_ok hp
    rcases h with ⟨hk, x, rfl⟩ | ⟨hk, x, rfl⟩ | ⟨hk, ⟨x, rfl⟩ | rfl⟩
    · exact lv_iload hx hb hd (hl.ld hv) (k a hl rfl)
    · exact absurd hk (by decide)
    · exact absurd hk (by decide)
    · exact absurd hk (by decide)
  · obtain ⟨rfl, rfl, v, hv, rfl, h⟩ := ax_load_ok hp
    rcases h with ⟨hk, x, rfl⟩ | ⟨hk, x, rfl⟩ | ⟨hk, ⟨x, rfl⟩ | rfl⟩
    · exact lv_iload_n hx hb hd rfl (hl.ld hv) (k a hl rfl)
    · exact absurd hk (by decide)
    · exact absurd hk (by decide)
    · exact absurd hk (by decide)
  · obtain ⟨rfl, rfl, v, hv, rfl, h⟩ := ax_load_ok hp
    rcases h with ⟨hk, x, rfl⟩ | ⟨hk, x, rfl⟩ | ⟨hk, ⟨x, rfl⟩ | rfl⟩
    · exact absurd hk (by decide)
    · exact lv_lload hx hb hd (hl.ld hv) (k a hl rfl)
    · exact absurd hk (by decide)
    · exact absurd hk (by decide)
  · obtain ⟨rfl, rfl, v, hv, rfl, h⟩ := ax_load_ok hp
    rcases h with ⟨hk, x, rfl⟩ | ⟨hk, x, rfl⟩ | ⟨hk, ⟨x, rfl⟩ | rfl⟩
    · exact absurd hk (by decide)
    · exact lv_lload_n hx hb hd rfl (hl.ld hv) (k a hl rfl)
    · exact absurd hk (by decide)
    · exact absurd hk (by decide)
  · obtain ⟨rfl, rfl, v, hv, rfl, h⟩ := ax_load_ok hp
    rcases h with ⟨hk, x, rfl⟩ | ⟨hk, x, rfl⟩ | ⟨hk, ⟨x, rfl⟩ | rfl⟩
    · exact absurd hk (by decide)
    · exact absurd hk (by decide)
    · exact lv_aload hx hb hd (hl.ld hv) (k a hl rfl)
    · exact lv_aloadN hx hb hd (hl.ld hv) (k a hl rfl)
  · obtain ⟨rfl, rfl, v, hv, rfl, h⟩ := ax_load_ok hp
    rcases h with ⟨hk, x, rfl⟩ | ⟨hk, x, rfl⟩ | ⟨hk, ⟨x, rfl⟩ | rfl⟩
    · exact absurd hk (by decide)
    · exact absurd hk (by decide)
    · exact lv_aload_n hx hb hd rfl (hl.ld hv) (k a hl rfl)
    · exact lv_aload_nN hx hb hd rfl (hl.ld hv) (k a hl rfl)
  · obtain ⟨rfl, v, rfl, rfl, h⟩ := ax_store_ok hp
    rcases h with ⟨hk, hi, x, rfl⟩ | ⟨hk, hi, x, rfl⟩ | ⟨hk, hi, ⟨x, rfl⟩ | rfl⟩
    · exact lv_istore hx hb hd hl.has hi rfl (fun a2 h2 => k a2 (ax_lr.st1 rfl h2) (ax_set_len _ _ _))
    · exact absurd hk (by decide)
    · exact absurd hk (by decide)
    · exact absurd hk (by decide)
  · obtain ⟨rfl, v, rfl, rfl, h⟩ := ax_store_ok hp
    rcases h with ⟨hk, hi, x, rfl⟩ | ⟨hk, hi, x, rfl⟩ | ⟨hk, hi, ⟨x, rfl⟩ | rfl⟩
    · exact lv_istore_n hx hb hd rfl hl.has hi rfl (fun a2 h2 => k a2 (ax_lr.st1 rfl h2) (ax_set_len _ _ _))
    · exact absurd hk (by decide)
    · exact absurd hk (by decide)
    · exact absurd hk (by decide)
  · obtain ⟨rfl, v, rfl, rfl, h⟩ := ax_store_ok hp
    rcases h with ⟨hk, hi, x, rfl⟩ | ⟨hk, hi, x, rfl⟩ | ⟨hk, hi, ⟨x, rfl⟩ | rfl⟩
    · exact absurd hk (by decide)
    · exact lv_lstore hx hb hd hl.has hi rfl (fun a2 h2 => k a2 (ax_lr.st2 rfl h2) (ax_set_len _ _ _))
    · exact absurd hk (by decide)
    · exact absurd hk (by decide)
  · obtain ⟨rfl, v, rfl, rfl, h⟩ := ax_store_ok hp
    rcases h with ⟨hk, hi, x, rfl⟩ | ⟨hk, hi, x, rfl⟩ | ⟨hk, hi, ⟨x, rfl⟩ | rfl⟩
    · exact absurd hk (by decide)
    · exact lv_lstore_n hx hb hd rfl hl.has hi rfl (fun a2 h2 => k a2 (ax_lr.st2 rfl h2) (ax_set_len _ _ _))
    · exact absurd hk (by decide)
    · exact absurd hk (by decide)
  · obtain ⟨rfl, v, rfl, rfl, h⟩ := ax_store_ok hp
    rcases h with ⟨hk, hi, x, rfl⟩ | ⟨hk, hi, x, rfl⟩ | ⟨hk, hi, ⟨x, rfl⟩ | rfl⟩
    · exact absurd hk (by decide)
    · exact absurd hk (by decide)
    · exact lv_astore hx hb hd hl.has hi rfl (fun a2 h2 => k a2 (ax_lr.st1 rfl h2) (ax_set_len _ _ _))
    · exact lv_astoreN hx hb hd hl.has hi rfl (fun a2 h2 => k a2 (ax_lr.st1 rfl h2) (ax_set_len _ _ _))
  · obtain ⟨rfl, v, rfl, rfl, h⟩ := ax_store_ok hp
    rcases h with ⟨hk, hi, x, rfl⟩ | ⟨hk, hi, x, rfl⟩ | ⟨hk, hi, ⟨x, rfl⟩ | rfl⟩
    · exact absurd hk (by decide)
    · exact absurd hk (by decide)
    · exact lv_astore_n hx hb hd rfl hl.has hi rfl (fun a2 h2 => k a2 (ax_lr.st1 rfl h2) (ax_set_len _ _ _))
    · exact lv_astore_nN hx hb hd rfl hl.has hi rfl (fun a2 h2 => k a2 (ax_lr.st1 rfl h2) (ax_set_len _ _ _))
  · rename_i n kk
    split at hp
    · rename_i x hv
      cases hp
      obtain ⟨j, hj⟩ := List.mem_iff_getElem?.mp (ax_lv_mem (as := as) (ax_ld_iff.mp hv))
      exact lv_iinc hx hb hd hl.has hj rfl (List.getElem?_eq_some_iff.mp (ax_ld_iff.mp hv)).1 rfl (fun a2 h2 => k a2 (ax_lr.st1 rfl h2) (ax_set_len _ _ _))
    · cases hp
  · rename_i off
    cases hj : ax_jmp pc off with
    | none => rw [hj] at hp; cases hp
    | some q => rw [hj] at hp; cases hp; exact lv_goto hx hb hd (ax_jmp_eq hj) (k a hl rfl)
  · split at hp
    · rename_i x r
      cases hu : ax_un _ x with
      | none => rw [hu] at hp; cases hp
      | some v => rw [hu] at hp; cases hp; exact ax_un_ok hx hb hd hu (k a hl rfl)
    · cases hp
  · split at hp
    · rename_i x r
      cases hu : ax_un _ x with
      | none => rw [hu] at hp; cases hp
      | some v => rw [hu] at hp; cases hp; exact ax_un_ok hx hb hd hu (k a hl rfl)
    · cases hp
  · split at hp
    · rename_i x r
      cases hu : ax_un _ x with
      | none => rw [hu] at hp; cases hp
      | some v => rw [hu] at hp; cases hp; exact ax_un_ok hx hb hd hu (k a hl rfl)
    · cases hp
  · split at hp
    · rename_i x r
      cases hu : ax_un _ x with
      | none => rw [hu] at hp; cases hp
      | some v => rw [hu] at hp; cases hp; exact ax_un_ok hx hb hd hu (k a hl rfl)
    · cases hp
  · split at hp
    · rename_i y x r
      cases hu : ax_bin _ x y with
      | none => rw [hu] at hp; cases hp
      | some v => rw [hu] at hp; cases hp; exact ax_bin_ok hx hb hd hu (k a hl rfl)
    · cases hp
  · split at hp
    · rename_i y x r
      cases hu : ax_bin _ x y with
      | none => rw [hu] at hp; cases hp
      | some v => rw [hu] at hp; cases hp; exact ax_bin_ok hx hb hd hu (k a hl rfl)
    · cases hp
  · split at hp
    · rename_i y x r
      cases hu : ax_bin _ x y with
      | none => rw [hu] at hp; cases hp
      | some v => rw [hu] at hp; cases hp; exact ax_bin_ok hx hb hd hu (k a hl rfl)
    · cases hp
  · split at hp
    · rename_i y x r
      cases hu : ax_bin _ x y with
      | none => rw [hu] at hp; cases hp
      | some v => rw [hu] at hp; cases hp; exact ax_bin_ok hx hb hd hu (k a hl rfl)
    · cases hp
  · split at hp
    · rename_i y x r
      cases hu : ax_bin _ x y with
      | none => rw [hu] at hp; cases hp
      | some v => rw [hu] at hp; cases hp; exact ax_bin_ok hx hb hd hu (k a hl rfl)
    · cases hp
  · split at hp
    · rename_i y x r
      cases hu : ax_bin _ x y with
      | none => rw [hu] at hp; cases hp
      | some v => rw [hu] at hp; cases hp; exact ax_bin_ok hx hb hd hu (k a hl rfl)
    · cases hp
  · split at hp
    · rename_i y x r
      cases hu : ax_bin _ x y with
      | none => rw [hu] at hp; cases hp
      | some v => rw [hu] at hp; cases hp; exact ax_bin_ok hx hb hd hu (k a hl rfl)
    · cases hp
  · split at hp
    · rename_i y x r
      cases hu : ax_bin _ x y with
      | none => rw [hu] at hp; cases hp
      | some v => rw [hu] at hp; cases hp; exact ax_bin_ok hx hb hd hu (k a hl rfl)
    · cases hp
  · split at hp
    · rename_i y x r
      cases hu : ax_bin _ x y with
      | none => rw [hu] at hp; cases hp
      | some v => rw [hu] at hp; cases hp; exact ax_bin_ok hx hb hd hu (k a hl rfl)
    · cases hp
  · split at hp
    · rename_i y x r
      cases hu : ax_bin _ x y with
      | none => rw [hu] at hp; cases hp
      | some v => rw [hu] at hp; cases hp; exact ax_bin_ok hx hb hd hu (k a hl rfl)
    · cases hp
  · split at hp
    · rename_i y x r
      cases hu : ax_bin _ x y with
      | none => rw [hu] at hp; cases hp
      | some v => rw [hu] at hp; cases hp; exact ax_bin_ok hx hb hd hu (k a hl rfl)
    · cases hp
  · split at hp
    · rename_i y x r
      cases hu : ax_bin _ x y with
      | none => rw [hu] at hp; cases hp
      | some v => rw [hu] at hp; cases hp; exact ax_bin_ok hx hb hd hu (k a hl rfl)
    · cases hp
  · split at hp
    · rename_i y x r
      cases hu : ax_bin _ x y with
      | none => rw [hu] at hp; cases hp
      | some v => rw [hu] at hp; cases hp; exact ax_bin_ok hx hb hd hu (k a hl rfl)
    · cases hp
  · split at hp
    · rename_i y x r
      cases hu : ax_bin _ x y with
      | none => rw [hu] at hp; cases hp
      | some v => rw [hu] at hp; cases hp; exact ax_bin_ok hx hb hd hu (k a hl rfl)
    · cases hp
  · split at hp
    · rename_i y x r
      cases hu : ax_bin _ x y with
      | none => rw [hu] at hp; cases hp
      | some v => rw [hu] at hp; cases hp; exact ax_bin_ok hx hb hd hu (k a hl rfl)
    · cases hp
  · split at hp
    · rename_i y x r
      cases hu : ax_bin _ x y with
      | none => rw [hu] at hp; cases hp
      | some v => rw [hu] at hp; cases hp; exact ax_bin_ok hx hb hd hu (k a hl rfl)
    · cases hp
  · split at hp
    · rename_i y x r
      cases hu : ax_bin _ x y with
      | none => rw [hu] at hp; cases hp
      | some v => rw [hu] at hp; cases hp; exact ax_bin_ok hx hb hd hu (k a hl rfl)
    · cases hp
  · split at hp
    · rename_i y x r
      cases hu : ax_bin _ x y with
      | none => rw [hu] at hp; cases hp
      | some v => rw [hu] at hp; cases hp; exact ax_bin_ok hx hb hd hu (k a hl rfl)
    · cases hp
  · exact ax_stk_ok hx hb hd rfl hp (fun q => k a (q ▸ hl) (congrArg List.length q))
  · exact ax_stk_ok hx hb hd rfl hp (fun q => k a (q ▸ hl) (congrArg List.length q))
  · exact ax_stk_ok hx hb hd rfl hp (fun q => k a (q ▸ hl) (congrArg List.length q))
  · exact ax_stk_ok hx hb hd rfl hp (fun q => k a (q ▸ hl) (congrArg List.length q))
  · exact ax_stk_ok hx hb hd rfl hp (fun q => k a (q ▸ hl) (congrArg List.length q))
  · exact ax_stk_ok hx hb hd rfl hp (fun q => k a (q ▸ hl) (congrArg List.length q))
  · exact ax_stk_ok hx hb hd rfl hp (fun q => k a (q ▸ hl) (congrArg List.length q))
  · exact ax_stk_ok hx hb hd rfl hp (fun q => k a (q ▸ hl) (congrArg List.length q))
  · exact ax_stk_ok hx hb hd trivial hp (fun q => k a (q ▸ hl) (congrArg List.length q))
  · exact ax_stk_ok hx hb hd trivial hp (fun q => k a (q ▸ hl) (congrArg List.length q))
  · cases hp
end AX1
end
section
/-! what the tables must say of the abstract machine's tables -/
def ax_tys (tA : Nat → ClassId) (T : ax_T) : List (ClassId × FieldType) := (List.range (ax_ty T).length).map (fun t => (tA t, (ax_ty T).getD t .int))
theorem ax_tys_at {tA : Nat → ClassId} {T : ax_T} {t : Nat} {ty : FieldType} (h : (ax_ty T)[t]? = some ty) : (ax_tys tA T)[t]? = some (tA t, ty) := by
  have hl : t < (ax_ty T).length := (List.getElem?_eq_some_iff.mp h).1
  simp [ax_tys, hl, List.getD, h]
  exact (List.getElem?_eq_some_iff.mp h).2
def ax_okC (TB : List Jvm.Cond) (T : ax_T) : Prop := ∀ (ci : Nat) (q : vw_C), (ax_cl T)[ci]? = some q →
  (∀ w ∈ u_ws q.1 q.2.1 q.2.2, w ∈ TB) ∧ (∀ k, k < q.2.2 → parseFieldDescriptor (q.2.1 k).2.2.1 = some (ax_fty T ci k)) ∧ (∀ a, a < q.2.2 → ∀ b, b < q.2.2 → a ≠ b → (q.2.1 a).2.1 ≠ (q.2.1 b).2.1)
def ax_en (n : Nat) : String := if n = 1 then "java/lang/IllegalArgumentException" else "java/lang/IllegalStateException"
def ax_up2 : List String := ["java/lang/RuntimeException", "java/lang/Exception"]
def ax_zs : List Jvm.Cond := [.isRef (.static Bundle.tN "UNASSIGNED_STACK" Bundle.steD), .isRef (.static Bundle.tN "SUPPRESSED_SENTINEL" Bundle.listD), .laysStatic Bundle.tN "UNASSIGNED_STACK" Bundle.steD, .laysStatic Bundle.tN "SUPPRESSED_SENTINEL" Bundle.listD]
/-- what the tables must say of 'new X; dup; X.<init>; athrow' -/
def ax_okT (TB : List Jvm.Cond) (own : String) (idx ic n : Nat) : Prop := Jvm.Cond.classLink own idx (ax_en n) ∈ TB ∧ Jvm.Cond.instantiable (ax_en n) 6 ∈ TB ∧ Jvm.Cond.initialized (ax_en n) ∈ TB ∧ Bundle.fit (ax_en n) = true ∧ (∀ w ∈ Bundle.ownAtoms0 own ic (ax_en n) ax_up2, w ∈ TB ∨ w ∈ ax_zs)
/-- a method that is called -/
def ax_okM (TB : List Jvm.Cond) (T : ax_T) (mi : Nat) : Prop := ax_hs T mi = [] ∧ Jvm.Cond.code (ax_nm T mi) (ax_code T mi) (ax_mx T mi) (ax_rt T mi) ∈ TB ∧ ax_mx T mi ≤ 21 ∧ (ax_nm T mi).cls ≠ "java/lang/invoke/MethodHandle" ∧ (ax_nm T mi).cls ≠ "java/lang/invoke/VarHandle"
/-- .. one with handlers -/
def ax_okW (TB : List Jvm.Cond) (T : ax_T) (mi : Nat) : Prop := ax_hs T mi ≠ [] ∧ Jvm.Cond.codeWith (ax_nm T mi) (ax_code T mi) (ax_mx T mi) (ax_rt T mi) (ax_hs T mi) ∈ TB ∧ ax_mx T mi ≤ 21 ∧ (ax_nm T mi).cls ≠ "java/lang/invoke/MethodHandle" ∧ (ax_nm T mi).cls ≠ "java/lang/invoke/VarHandle"
/-- an entry of the pool of the class own is what the tables say -/
def ax_okE (TB : List Jvm.Cond) (T : ax_T) (own : String) (idx : Nat) (x : Nat × Nat × Nat) : Prop := match x with
  | (1, ci, k) => match (ax_cl T)[ci]? with
    | some q => k < q.2.2 ∧ Jvm.Cond.fieldLink own idx (q.2.1 k).1 (q.2.1 k).2.1 (q.2.1 k).2.2.1 ∈ TB
    | none => False
  | (2, ci, k) => match (ax_cl T)[ci]? with
    | some q => k < q.2.2 ∧ Jvm.Cond.fieldLinkNest own idx (q.2.1 k).1 (q.2.1 k).2.1 (q.2.1 k).2.2.1 "MailGuard" ∈ TB
    | none => False
  | (4, ci, n) => match (ax_cl T)[ci]? with
    | some q => n = q.2.2 ∧ Jvm.Cond.classLink own idx q.1 ∈ TB ∧ Jvm.Cond.instantiable q.1 n ∈ TB ∧ Jvm.Cond.initialized q.1 ∈ TB
    | none => False
  | (6, mj, n) => Jvm.Cond.methodLink own idx (ax_nm T mj) ∈ TB ∧ Jvm.Cond.static (ax_nm T mj) ∈ TB ∧ Jvm.Cond.initialized (ax_nm T mj).cls ∈ TB ∧ (parseMethodDescriptor (ax_nm T mj).desc).map (fun d => d.parameters.length) = some n ∧ ax_okM TB T mj
  | (16, mj, n) => Jvm.Cond.methodLinkNest own idx (ax_nm T mj) "MailGuard" ∈ TB ∧ Jvm.Cond.static (ax_nm T mj) ∈ TB ∧ Jvm.Cond.initialized (ax_nm T mj).cls ∈ TB ∧ (parseMethodDescriptor (ax_nm T mj).desc).map (fun d => d.parameters.length) = some n ∧ ax_okM TB T mj
  | (7, mj, n) => Jvm.Cond.methodLink own idx (ax_nm T mj) ∈ TB ∧ Jvm.Cond.instanceMethod (ax_nm T mj) ∈ TB ∧ Jvm.Cond.selects (ax_nm T mj).cls (ax_nm T mj) (ax_nm T mj) ∈ TB ∧ Jvm.Cond.initialized (ax_nm T mj).cls ∈ TB ∧ (parseMethodDescriptor (ax_nm T mj).desc).map (fun d => d.parameters.length) = some n ∧ ax_okM TB T mj
  | (17, mj, n) => Jvm.Cond.methodLinkNest own idx (ax_nm T mj) "MailGuard" ∈ TB ∧ Jvm.Cond.instanceMethod (ax_nm T mj) ∈ TB ∧ Jvm.Cond.selects (ax_nm T mj).cls (ax_nm T mj) (ax_nm T mj) ∈ TB ∧ Jvm.Cond.initialized (ax_nm T mj).cls ∈ TB ∧ (parseMethodDescriptor (ax_nm T mj).desc).map (fun d => d.parameters.length) = some n ∧ ax_okM TB T mj
  | (8, mj, n) => Jvm.Cond.methodLink own idx (ax_nm T mj) ∈ TB ∧ Jvm.Cond.instanceMethod (ax_nm T mj) ∈ TB ∧ (ax_nm T mj).name = "<init>" ∧ ax_rt T mj = none ∧ Jvm.Cond.initialized (ax_nm T mj).cls ∈ TB ∧ (parseMethodDescriptor (ax_nm T mj).desc).map (fun d => d.parameters.length) = some n ∧ ax_okM TB T mj
  | (18, mj, n) => Jvm.Cond.methodLinkNest own idx (ax_nm T mj) "MailGuard" ∈ TB ∧ Jvm.Cond.instanceMethod (ax_nm T mj) ∈ TB ∧ (ax_nm T mj).name = "<init>" ∧ ax_rt T mj = none ∧ Jvm.Cond.initialized (ax_nm T mj).cls ∈ TB ∧ (parseMethodDescriptor (ax_nm T mj).desc).map (fun d => d.parameters.length) = some n ∧ ax_okM TB T mj
  | (26, mj, n) => Jvm.Cond.methodLink own idx (ax_nm T mj) ∈ TB ∧ Jvm.Cond.static (ax_nm T mj) ∈ TB ∧ Jvm.Cond.initialized (ax_nm T mj).cls ∈ TB ∧ (parseMethodDescriptor (ax_nm T mj).desc).map (fun d => d.parameters.length) = some n ∧ ax_okW TB T mj
  | (10, n, ic) => ax_okT TB own idx ic n
  | (12, n, _) => Jvm.Cond.classLink own idx (ax_en n) ∈ TB
  | (11, v, _) => Jvm.Cond.constantLong own idx (Int64.ofNat v) ∈ TB
  | (9, _, _) => Jvm.Cond.methodLink own idx objectInit ∈ TB ∧ Jvm.Cond.instanceMethod objectInit ∈ TB ∧ Jvm.Cond.code objectInit ⟨#[0xb1]⟩ 1 none ∈ TB
  | _ => True
def ax_okP (TB : List Jvm.Cond) (T : ax_T) : Prop := ∀ mi idx, ax_okE TB T (ax_nm T mi).cls idx (ax_pl T mi idx)
/-- the array classes' words -/
def ax_okA (TB : List Jvm.Cond) (T : ax_T) : Prop := ∀ ty ∈ ax_ty T, (match ty with | .int | .char | .long => Jvm.Cond.arrayClass ty ∈ TB | .object _ => Jvm.Cond.arrayOver ty ∈ TB | _ => True)
theorem ax_R.at {b : Nat} {as : Nat → Nat} {D : va_G} {cl : List vw_C} {tA : Nat → ClassId} {h : ax_H} {H : Heap} (hR : ax_R b as D cl tA h H) {a : Nat} {c : ax_C} (ha : h.1 a = some c) : va_P D cl [(as a, ax_tc as tA c)] H := by
  intro k q hq
  have hk : k < 1 := (List.getElem?_eq_some_iff.mp hq).1
  rw [show k = 0 by omega] at hq
  cases hq
  exact (hR.2.2 a c ha).2
theorem ax_R.up {b : Nat} {as : Nat → Nat} {D : va_G} {cl : List vw_C} {tA : Nat → ClassId} {h : ax_H} {H H1 : Heap} (hA : ax_As b as) (hR : ax_R b as D cl tA h H) {a : Nat} {c0 c : ax_C} (ha : h.1 a = some c0) (hlt : a < h.2.1) (hz : H1.size = H.size) (ho : ∀ q : Nat, q ≠ as a → H1[q]? = H[q]?) (hc : va_at D cl (as a, ax_tc as tA c) H1) : ax_R b as D cl tA (ax_up h a c) H1 := by
  refine ⟨by rw [hz]; exact hR.1, hR.2.1, fun i c' hi => ?_⟩
  by_cases hia : i = a
  · subst hia
    simp only [ax_up, if_true, Option.some.injEq] at hi
    subst hi
    exact ⟨Or.inl hlt, hc⟩
  · simp only [ax_up, if_neg hia] at hi
    obtain ⟨h1, h2⟩ := hR.2.2 i c' hi
    refine ⟨h1, h2.kept (ho _ ?_)⟩
    show as i ≠ as a
    have hab := hR.2.1
    have e1 := hA.1 a (by omega)
    rcases h1 with h1 | h1
    · rw [hA.1 i (by omega), e1]; omega
    · have := hA.2 i h1
      omega
theorem ax_R.add {b : Nat} {as : Nat → Nat} {D : va_G} {cl : List vw_C} {tA : Nat → ClassId} {h : ax_H} {H H1 : Heap} (hR : ax_R b as D cl tA h H) {c : ax_C} {n : Nat} (hbig : h.2.1 < ax_big) (hz : H1.size = H.size + 1) (ho : ∀ q : Nat, q < H.size → H1[q]? = H[q]?) (hc : va_at D cl (as h.2.1, ax_tc as tA c) H1) : ax_R b as D cl tA (ax_add h c n) H1 := by
  refine ⟨by rw [hz, hR.1]; show b + h.2.1 + 1 = b + (h.2.1 + 1); omega, hbig, fun i c' hi => ?_⟩
  by_cases hia : i = h.2.1
  · subst hia
    simp only [ax_add, if_true, Option.some.injEq] at hi
    subst hi
    exact ⟨Or.inl (Nat.lt_succ_self _), hc⟩
  · simp only [ax_add, if_neg hia] at hi
    obtain ⟨h1, h2⟩ := hR.2.2 i c' hi
    exact ⟨h1.imp Nat.lt_succ_of_lt id, h2.kept (ho _ h2.lt)⟩
theorem ax_Sput {b : Nat} {as : Nat → Nat} {H0 H H1 : Heap} {locs : List Loc} {a k : Nat} (hA : ax_As b as) (ha : a < ax_big) (h : va_S (fun q => b ≤ q) H0 H locs) (z : H1.size = H.size) (oq : ∀ q : Nat, q ≠ as a → H1[q]? = H[q]?) : va_S (fun q => b ≤ q) H0 H1 (locs ++ [⟨as a, k⟩]) := va_S.put h z oq (by show b ≤ as a; rw [hA.1 a ha]; omega)
theorem ax_Sadd {b : Nat} {H0 H H1 : Heap} {locs : List Loc} (h : va_S (fun q => b ≤ q) H0 H locs) (z : H1.size = H.size + 1) (oq : ∀ q : Nat, q < H.size → H1[q]? = H[q]?) : va_S (fun q => b ≤ q) H0 H1 locs :=
  ⟨Nat.le_trans h.1 (by omega), fun x h1 h2 => (oq x (Nat.lt_of_lt_of_le h1 h.1)).trans (h.2.1 x h1 h2), h.2.2⟩
/-- no old cell has changed while nothing was written (w: the writes at the method's entry) -/
def ax_E (w : Nat) (h : ax_H) (H0 H : Heap) : Prop := w ≤ h.2.2.2 ∧ (h.2.2.2 = w → ∀ q : Nat, q < H0.size → H[q]? = H0[q]?)
theorem ax_E.put {w : Nat} {h : ax_H} {H0 H H1 : Heap} {a : Nat} {c : ax_C} (hE : ax_E w h H0 H) : ax_E w (ax_up h a c) H0 H1 := ⟨Nat.le_succ_of_le hE.1, fun q => by
  have h1 : h.2.2.2 + 1 = w := q
  have h2 := hE.1
  omega⟩
theorem ax_E.add {w n : Nat} {h : ax_H} {H0 H H1 : Heap} {c : ax_C} (hE : ax_E w h H0 H) (hz : H0.size ≤ H.size) (oq : ∀ q : Nat, q < H.size → H1[q]? = H[q]?) : ax_E w (ax_add h c n) H0 H1 := ⟨hE.1, fun q z hz1 => (oq z (Nat.lt_of_lt_of_le hz1 hz)).trans (hE.2 q z hz1)⟩
theorem ax_fit_tv {as : Nat → Nat} {ty : FieldType} {v : Value} (h : ax_fit ty v = true) : narrow ty (ax_tv as v) = ax_tv as v ∧ fits ty (ax_tv as v) = true := by
  simp only [ax_fit, Bool.and_eq_true, decide_eq_true_eq] at h
  cases v <;> first | exact h | (cases ty <;> simp_all [ax_tv, narrow, fits])
theorem ax_rf (as : Nat → Nat) (o : Option Nat) : ax_tv as (va_rf o) = va_rf (o.map as) := by cases o <;> rfl
theorem ax_def_tv (as : Nat → Nat) (ty : FieldType) : ax_tv as (defaultValue ty) = defaultValue ty := by cases ty <;> rfl
section AX2
variable {p : Program} {l : Launch} {e : Env} {R : Room} {s : State} {m : MethodId} {args : Array Value} {below : List Frame} {meth : Method} {c : Code} {H : Heap} {locs : List Loc} {cells slots : Nat} {Q : State → Prop}
variable {pc w : Nat} {b : Nat} {as : Nat → Nat} {a : Array Slot} {rest : List Value} {ls : ax_L} {T : ax_T} {TB : List Jvm.Cond} {D : va_G} {tA : Nat → ClassId} {mi : Nat} {h : ax_H}
/-- a static that holds a reference or null, below b -/
def ax_Zr (C n d : String) (b : Nat) (U : State) (H : Heap) : Prop := ∃ (c : ClassId) (k : Class) (i : Nat) (f : Field) (a : Nat) (cell : Cell) (v : Value), U.vm.findClass C = some c ∧ U.fieldFound? C n d = some (c, k, i, f) ∧ f.isStatic = true ∧ k.statics = some a ∧ H[a]? = some cell ∧ cell.vm.isStatics = true ∧ cell.cls = c ∧ f.slot < cell.slots.size ∧ k.staticTypes[f.slot]? = some f.type ∧ cell.slots[f.slot]? = some v ∧ (v = .null ∨ ∃ t, v = .ref t) ∧ a < b
theorem ax_Zr.moved {C n d : String} {b : Nat} {u U : State} {H : Heap} (hvm : u.vm.Alike U.vm) (h : ax_Zr C n d b u H) : ax_Zr C n d b U H := by
  obtain ⟨c, k, i, f, a, cell, v, h1, h2, h3, h4, h5, h6, h7, h8, h9, h10⟩ := h
  obtain ⟨k', hi', he⟩ := State.fieldFound?_setVm hvm h2
  exact ⟨c, k', i, f, a, cell, v, by rw [hvm.findClass]; exact h1, hi', h3, by rw [he]; exact h4, h5, h6, h7, h8, by rw [he]; exact h9, h10⟩
theorem ax_Zr.kept {C n d : String} {b : Nat} {U : State} {H H1 : Heap} (h : ax_Zr C n d b U H) (hq : ∀ q : Nat, q < H.size → ¬ b ≤ q → H1[q]? = H[q]?) : ax_Zr C n d b U H1 := by
  obtain ⟨c, k, i, f, a, cell, v, h1, h2, h3, h4, h5, h6, h7, h8, h9, h10, h11, h12⟩ := h
  exact ⟨c, k, i, f, a, cell, v, h1, h2, h3, h4, by rw [hq a (Array.getElem?_eq_some_iff.mp h5).1 (Nat.not_le.mpr h12)]; exact h5, h6, h7, h8, h9, h10, h11, h12⟩
theorem ax_Zr.of {C n d : String} {b : Nat} {s : State} {args : Array Value} (hl : (Jvm.Cond.laysStatic C n d).before args s = true) (hr : (Jvm.Cond.isRef (.static C n d)).before args s = true) (hb : s.heap.size ≤ b) : ax_Zr C n d b s s.heap := by
  obtain ⟨c, k, i, f, a, cell, h1, h2, h3, h4, h5, h6, h7, h8, h9⟩ := Cond.laysStatic_spec hl
  obtain ⟨v, hv⟩ : ∃ v, cell.slots[f.slot]? = some v := ⟨_, Array.getElem?_eq_getElem h8⟩
  have he := Term.static_eval (args := args) (first := s) (o := none) (idx := []) h2 h3 h4 h5 h6 hv
  refine ⟨c, k, i, f, a, cell, v, h1, h2, h3, h4, h5, h6, h7, h8, h9, hv, ?_, Nat.lt_of_lt_of_le (Array.getElem?_eq_some_iff.mp h5).1 hb⟩
  simp only [Cond.before, Cond.holds, Cond.value, he] at hr
  cases v <;> simp at hr ⊢
theorem ax_Zr.ref {C n d : String} {b : Nat} {s : State} {args : Array Value} (h : ax_Zr C n d b s s.heap) : (Jvm.Cond.isRef (.static C n d)).before args s = true := by
  obtain ⟨c, k, i, f, a, cell, v, h1, h2, h3, h4, h5, h6, h7, h8, h9, h10, h11, h12⟩ := h
  rcases h11 with rfl | ⟨t, rfl⟩
  · simp [Cond.before, Cond.holds, Cond.value, Term.static_eval h2 h3 h4 h5 h6 h10]
  · simp [Cond.before, Cond.holds, Cond.value, Term.static_eval h2 h3 h4 h5 h6 h10]
theorem ax_Zr.lay {C n d : String} {b : Nat} {s : State} {args : Array Value} (h : ax_Zr C n d b s s.heap) : (Jvm.Cond.laysStatic C n d).before args s = true := by
  obtain ⟨c, k, i, f, a, cell, v, h1, h2, h3, h4, h5, h6, h7, h8, h9, h10, h11, h12⟩ := h
  exact Cond.laysStatic_of h1 h2 h3 h4 h5 h6 h7 h8 h9
/-- what nobody writes: the script, and two statics of Throwable's -/
def ax_ro (b : Nat) (as : Nat → Nat) (T : ax_T) (U : State) (H : Heap) : Prop :=
  (∀ q, ax_sc T = some q → va_X (as ax_big) q.1 q.2 U H) ∧ ax_Zr Bundle.tN "UNASSIGNED_STACK" Bundle.steD b U H ∧ ax_Zr Bundle.tN "SUPPRESSED_SENTINEL" Bundle.listD b U H
theorem va_X.lt {b L : Nat} {xs : Nat → Int32} {U : State} {H : Heap} (h : va_X b L xs U H) : b < H.size := by
  obtain ⟨scr, h1, -⟩ := h
  exact (Array.getElem?_eq_some_iff.mp h1).1
theorem ax_ro.moved {b : Nat} {as : Nat → Nat} {T : ax_T} {u U : State} {H : Heap} (hvm : u.vm.Alike U.vm) (h : ax_ro b as T u H) : ax_ro b as T U H := ⟨fun q hq => va_X.moved hvm (h.1 q hq), h.2.1.moved hvm, h.2.2.moved hvm⟩
theorem ax_ro.kept {b : Nat} {as : Nat → Nat} {T : ax_T} {U : State} {H H1 : Heap} (hA : ax_As b as) (h : ax_ro b as T U H) (hq : ∀ q : Nat, q < H.size → ¬ b ≤ q → H1[q]? = H[q]?) : ax_ro b as T U H1 :=
  ⟨fun q h0 => (h.1 q h0).kept (hq _ (h.1 q h0).lt (Nat.not_le.mpr (hA.2 _ (Nat.le_refl _)))), h.2.1.kept hq, h.2.2.kept hq⟩
/-- the machine stands in the method mi -/
def ax_X (b : Nat) (as : Nat → Nat) (TB : List Jvm.Cond) (T : ax_T) (D : va_G) (tA : Nat → ClassId) (mi : Nat) (p : Program) (s : State) (m : MethodId) (args : Array Value) (meth : Method) (c : Code) : Prop :=
  p.tables.exec = Jvm.exec ∧ c.code = ax_code T mi ∧ c.maxLocals = ax_mx T mi ∧ meth.sig.returnType = ax_rt T mi ∧ meth.locks = false ∧ c.exceptionTable.toList.map (fun h => (h.startPc, h.endPc, h.handlerPc, h.catchType)) = ax_hs T mi ∧ ((ax_nm T mi).name = "<init>" → meth.name = "<init>") ∧ s.vm.findClass (ax_nm T mi).cls = some m.cls ∧ (∀ w ∈ TB, w.before args s = true) ∧ va_K D (ax_cl T) (ax_tys tA T) s ∧ ax_ro b as T s s.heap ∧ ax_As b as
/-- a goal: from these cells on -/
abbrev ax_G (w b : Nat) (as : Nat → Nat) (T : ax_T) (D : va_G) (tA : Nat → ClassId) (p : Program) (l : Launch) (e : Env) (R : Room) (s : State) (m : MethodId) (args : Array Value) (below : List Frame) (meth : Method) (c : Code) (cells slots : Nat) (Q : State → Prop) (h : ax_H) (pc : Nat) (a : Array Slot) (st : List Value) : Prop :=
  ∀ (H : Heap) (locs : List Loc), ax_R b as D (ax_cl T) tA h H → va_S (fun q => b ≤ q) s.heap H locs → ax_E w h s.heap H → W p l e R s m args below meth c H locs cells slots Q (F0 m pc a (st.map (ax_tv as)))
theorem ax_getf_ok (hC : ax_okC TB T) (hPl : ax_okP TB T) (X : ax_X b as TB T D tA mi p s m args meth c) {idx q pc' : Nat} {r st' : List Value} {ls' : ax_L} {h' : ax_H} (hd : decode (ax_code T mi) pc = .ok (.getfield idx, 3)) (hp : ax_getf T mi idx q pc ls r h = some (pc', ls', st', h'))
    (k : ls' = ls → h' = h → ax_G w b as T D tA p l e R s m args below meth c cells slots Q h' pc' a st') : ax_G w b as T D tA p l e R s m args below meth c cells slots Q h pc a (.ref q :: r) := by
  intro H locs hR hS hE0
  obtain ⟨hx, hb, -, -, -, -, -, hown, hts, hK, hX, hAs⟩ := X
  unfold ax_getf at hp
  split at hp
  · rename_i cj fs hq
    split at hp
    · rename_i hk
      obtain ⟨hk1, hk2⟩ := hk
      cases hv : fs[(ax_pl T mi idx).2.2]? with
      | none => rw [hv] at hp; cases hp
      | some v =>
        rw [hv] at hp
        cases hp
        have hE := hPl mi idx
        generalize hg : ax_pl T mi idx = x at *
        obtain ⟨x1, x2, x3⟩ := x
        dsimp only at hk1 hk2 hv
        subst hk2
        have hv2 : (fs.map (ax_tv as))[x3]? = some (ax_tv as v) := by rw [List.getElem?_map, hv]; rfl
        rcases hk1 with rfl | rfl
        · simp only [ax_okE] at hE
          split at hE
          · rename_i w hw
            exact va_get hx hb hts (hC x2 w hw).1 hown hK (hR.at hq) 0 rfl hw x3 hE.1 (hts _ hE.2) (fun _ h9 => h9) hv2 hd (k rfl rfl H locs hR hS hE0)
          · exact hE.elim
        · simp only [ax_okE] at hE
          split at hE
          · rename_i w hw
            exact va_getN hx hb hts (hC x2 w hw).1 hown hK (hR.at hq) 0 rfl hw x3 hE.1 (hts _ hE.2) (fun _ h9 => h9) hv2 hd (k rfl rfl H locs hR hS hE0)
          · exact hE.elim
    · cases hp
  · cases hp
theorem ax_putf_ok (hC : ax_okC TB T) (hPl : ax_okP TB T) (X : ax_X b as TB T D tA mi p s m args meth c) {idx q pc' : Nat} {v : Value} {r st' : List Value} {ls' : ax_L} {h' : ax_H} (hd : decode (ax_code T mi) pc = .ok (.putfield idx, 3)) (hp : ax_putf T mi idx q pc v ls r h = some (pc', ls', st', h'))
    (k : ls' = ls → (h'.2.1 = h.2.1 ∧ h'.2.2.1 = h.2.2.1) → ax_G w b as T D tA p l e R s m args below meth c cells slots Q h' pc' a st') : ax_G w b as T D tA p l e R s m args below meth c cells slots Q h pc a (v :: .ref q :: r) := by
  intro H locs hR hS hE0
  obtain ⟨hx, hb, -, -, -, -, hin, hown, hts, hK, hX, hAs⟩ := X
  unfold ax_putf at hp
  split at hp
  · rename_i cj fs hq
    split at hp
    · rename_i hk
      obtain ⟨hlt0, hk1, hk2, hk3, hk4, hk5⟩ := hk
      cases hp
      have hE := hPl mi idx
      generalize hg : ax_pl T mi idx = x at *
      obtain ⟨x1, x2, x3⟩ := x
      dsimp only at hk1 hk2 hk3 hk4 hk5 ⊢
      subst hk2
      subst hk1
      simp only [ax_okE] at hE
      split at hE
      · rename_i w hw
        obtain ⟨C, F, N⟩ := w
        obtain ⟨hin0, hty, hnm⟩ := hC x2 _ hw
        dsimp only at hin0 hty hnm hE
        have hap := va_apart (own := (ax_nm T mi).cls) hts hin0 (ax_fty T x2) hty hnm hK hw
        obtain ⟨r0, h1, cell, q1, q2, q3, q4⟩ := (hR.2.2 q _ hq).2
        have hr : r0 = (C, F, N) := Option.some.inj (h1.symm.trans hw)
        subst hr
        obtain ⟨hSl, hfc, kC, hkC, hkind⟩ := hK.1 x2 _ hw
        obtain ⟨cf, kf, fi, f, hi, hsl⟩ := hSl x3 hE.1
        obtain ⟨hn1, hn2⟩ := ax_fit_tv (as := as) hk4
        have hst := (u_facts hfc hkC (u_lays hts hin0 hE.1) hi).1
        have hl2 : x3 < (fs.map (ax_tv as)).length := by rw [List.length_map]; exact hk3
        have fin : ∀ H1 : Heap, H1[as q]? = some (cell.setSlot f.slot (ax_tv as v)) → H1.size = H.size → (∀ z : Nat, z ≠ as q → H1[z]? = H[z]?) → W p l e R s m args below meth c H1 (locs ++ [⟨as q, f.slot⟩]) cells slots Q (F0 m (pc + 3) a (r.map (ax_tv as))) := by
          intro H1 e1 e2 e3
          refine k rfl ⟨rfl, rfl⟩ H1 _ (hR.up hAs hq hlt0 e2 e3 ⟨_, hw, ?_⟩) (ax_Sput hAs (Nat.lt_of_lt_of_le hlt0 hR.2.1) hS e2 e3) hE0.put
          rw [hsl] at e1
          refine t_OB.to (V := updV (vp_V (fs.map (ax_tv as))) x3 (ax_tv as v)) ⟨_, e1, q2, q3, t_set q4 hap hE.1 (ax_tv as v)⟩ (fun j _ => ?_)
          rw [vp_updV_set hl2, List.map_set]
        by_cases hfin : (F x3).2.2.2 = true
        · simp only [ax_fin, hw, hfin, Bool.not_true, Bool.false_or, Bool.and_eq_true, decide_eq_true_eq] at hk5
          have hlay := hts _ (hin0 _ (u_in_lay hE.1))
          unfold u_lay at hlay
          rw [if_pos hfin] at hlay
          have hcf : m.cls = cf := by
            obtain ⟨_, _, c', _, _, _, -, -, hf', -, -, -, hown2, -⟩ := Cond.laysFinal_spec hlay
            have e1 : c' = cf := by have := hi.symm.trans hf'; simp at this; exact this.1.symm
            rw [← hk5.2] at hown2
            rw [← e1]; exact Option.some.inj (hown.symm.trans hown2)
          have h6 := u_fits hfc hkC hkind (Or.inr hlay) hi (hty x3 hE.1) hn1 hn2
          exact W.putFinK hx hb hown (hts _ hE.2) hi hst hcf (hin hk5.1) (by rw [q2]; exact h6) q1 q3 (by rw [hsl]; exact k2_hasslot (q4 x3 hE.1)) rfl rfl hd fin
        · have hlay := hts _ (hin0 _ (u_in_lay hE.1))
          unfold u_lay at hlay
          rw [if_neg hfin] at hlay
          have h6 := u_store hfc hkC hkind hlay hi (hty x3 hE.1) hn1 hn2
          exact W.putK hx hb (f := f) ⟨hown, hts _ hE.2, ⟨_, _, _, hi⟩, hst⟩ (by rw [q2]; exact h6) q1 q3 (by rw [hsl]; exact k2_hasslot (q4 x3 hE.1)) rfl rfl hd fin
      · exact hE.elim
    · cases hp
  · cases hp
theorem ax_ald_ok (X : ax_X b as TB T D tA mi p s m args meth c) {i : Instr} {j : Int32} {q pc' : Nat} {r st' : List Value} {ls' : ax_L} {h' : ax_H} (hd : decode (ax_code T mi) pc = .ok (i, 1)) (hp : ax_ald T i j q pc ls r h = some (pc', ls', st', h'))
    (k : ls' = ls → h' = h → ax_G w b as T D tA p l e R s m args below meth c cells slots Q h' pc' a st') : ax_G w b as T D tA p l e R s m args below meth c cells slots Q h pc a (.int j :: .ref q :: r) := by
  intro H locs hR hS hE0
  obtain ⟨hx, hb, -, -, -, -, -, hown, hts, hK, hX, hAs⟩ := X
  unfold ax_ald at hp
  split at hp
  · rename_i hq
    subst hq
    unfold ax_scr at hp
    split at hp
    · split at hp
      · rename_i q9 hq9
        split at hp
        · cases hp
        · rename_i hin
          cases hp
          exact va_sld hx hb (hX.1 q9 hq9) (hX.1 q9 hq9).lt (Nat.not_le.mpr (hAs.2 _ (Nat.le_refl _))) hS hin hd (k rfl rfl H locs hR hS hE0)
      · cases hp
    · cases hp
  split at hp
  · rename_i t n x hq
    split at hp
    · cases hp
    · rename_i hin
      split at hp
      · rename_i f ht
        cases hp
        exact va_iald hx hb hK (hR.at hq) 0 t rfl (ax_tys_at ht) hin hd (k rfl rfl H locs hR hS hE0)
      · rename_i f ht
        cases hp
        exact va_cald hx hb hK (hR.at hq) 0 t rfl (ax_tys_at ht) hin hd (k rfl rfl H locs hR hS hE0)
      · rename_i f ht
        cases hp
        exact va_lald hx hb hK (hR.at hq) 0 t rfl (ax_tys_at ht) hin hd (k rfl rfl H locs hR hS hE0)
      · rename_i C f ht
        cases hp
        refine va_aldq hx hb hK (hR.at hq) 0 t rfl (ax_tys_at ht) hin hd ?_
        have hk := k rfl rfl H locs hR hS hE0
        rw [List.map_cons, ax_rf] at hk
        exact hk
      · cases hp
  · cases hp
theorem ax_ast_ok (X : ax_X b as TB T D tA mi p s m args meth c) {i : Instr} {v : Value} {j : Int32} {q pc' : Nat} {r st' : List Value} {ls' : ax_L} {h' : ax_H} (hd : decode (ax_code T mi) pc = .ok (i, 1)) (hp : ax_ast T i v j q pc ls r h = some (pc', ls', st', h'))
    (k : ls' = ls → (h'.2.1 = h.2.1 ∧ h'.2.2.1 = h.2.2.1) → ax_G w b as T D tA p l e R s m args below meth c cells slots Q h' pc' a st') : ax_G w b as T D tA p l e R s m args below meth c cells slots Q h pc a (v :: .int j :: .ref q :: r) := by
  intro H locs hR hS hE0
  obtain ⟨hx, hb, -, -, -, -, -, hown, hts, hK, hX, hAs⟩ := X
  unfold ax_ast at hp
  split at hp
  · rename_i t n x hq
    split at hp
    · cases hp
    · rename_i hin0
      have hlt0 : q < h.2.1 := Nat.not_le.mp fun z => hin0 (Or.inl z)
      have hin : ¬ (j < 0 ∨ n ≤ j.toNatClampNeg) := fun z => hin0 (Or.inr z)
      split at hp
      · rename_i f y ht
        cases hp
        refine W.iast hx hb ((hR.2.2 q _ hq).2) ((hK.2 t _ (ax_tys_at ht)).1 n (fun j => .int (f j))) (fun z => by cases z) (by show ¬ (j < 0 ∨ (arrV _ _ _).slots.size ≤ _); rw [arrV_size]; exact hin) rfl rfl hd fun H1 e1 e2 e3 => ?_
        refine k rfl ⟨rfl, rfl⟩ H1 _ (hR.up hAs hq hlt0 e2 e3 ?_) (ax_Sput hAs (Nat.lt_of_lt_of_le hlt0 hR.2.1) hS e2 e3) hE0.put
        show H1[as q]? = some (vp_cell _ _)
        rw [e1]
        show some ((arrV (tA t) n (fun j => Value.int (f j))).setSlot j.toNatClampNeg (.int y)) = some (arrV (tA t) n (fun z => Value.int (upd f j.toNatClampNeg y z)))
        rw [arrV_store]
        congr 2
        funext z
        by_cases hz : z = j.toNatClampNeg
        · subst hz; simp [updV, upd]
        · simp [updV, upd, hz]
      · rename_i f y ht
        cases hp
        refine W.cast hx hb ((hR.2.2 q _ hq).2) ((hK.2 t _ (ax_tys_at ht)).1 n (fun j => .int (f j))) (fun z => by cases z) (by show ¬ (j < 0 ∨ (arrV _ _ _).slots.size ≤ _); rw [arrV_size]; exact hin) rfl rfl hd fun H1 e1 e2 e3 => ?_
        refine k rfl ⟨rfl, rfl⟩ H1 _ (hR.up hAs hq hlt0 e2 e3 ?_) (ax_Sput hAs (Nat.lt_of_lt_of_le hlt0 hR.2.1) hS e2 e3) hE0.put
        show H1[as q]? = some (vp_cell _ _)
        rw [e1]
        show some ((arrV (tA t) n (fun j => Value.int (f j))).setSlot j.toNatClampNeg _) = some (arrV (tA t) n (fun z => Value.int (upd f j.toNatClampNeg (vp_nar .char y) z)))
        rw [arrV_store]
        congr 2
        funext z
        by_cases hz : z = j.toNatClampNeg
        · subst hz
          simp [updV, upd, vp_nar]
          try rfl
        · simp [updV, upd, hz]
      · rename_i f y ht
        cases hp
        refine W.last hx hb ((hR.2.2 q _ hq).2) ((hK.2 t _ (ax_tys_at ht)).1 n (fun j => .long (f j))) (fun z => by cases z) (by show ¬ (j < 0 ∨ (arrV _ _ _).slots.size ≤ _); rw [arrV_size]; exact hin) rfl rfl hd fun H1 e1 e2 e3 => ?_
        refine k rfl ⟨rfl, rfl⟩ H1 _ (hR.up hAs hq hlt0 e2 e3 ?_) (ax_Sput hAs (Nat.lt_of_lt_of_le hlt0 hR.2.1) hS e2 e3) hE0.put
        show H1[as q]? = some (vp_cell _ _)
        rw [e1]
        show some ((arrV (tA t) n (fun j => Value.long (f j))).setSlot j.toNatClampNeg (.long y)) = some (arrV (tA t) n (fun z => Value.long (vp_updL f j.toNatClampNeg y z)))
        rw [arrV_store]
        congr 2
        funext z
        by_cases hz : z = j.toNatClampNeg
        · subst hz; simp [updV, vp_updL]
        · simp [updV, vp_updL, hz]
      · rename_i C f y ht
        split at hp
        · rename_i ci fs hy
          split at hp
          · rename_i hcl
            cases hp
            cases hw : (ax_cl T)[ci]? with
            | none => rw [hw] at hcl; cases hcl
            | some w =>
              rw [hw] at hcl
              cases hcl
              have hlt : j.toNatClampNeg < n := Nat.not_le.mp fun z => hin (Or.inr z)
              have h0 : ¬ j < 0 := fun z => hin (Or.inl z)
              obtain ⟨r', hr', cellV, g1, g2, g3, -⟩ := (hR.2.2 y _ hy).2
              have hcls := (hK.1 ci w hw).2
              obtain ⟨kA, comp, k1, k2, k3, -⟩ := (hK.2 t _ (ax_tys_at ht)).2
              have hcomp : comp = D.1 ci := Option.some.inj (k3.symm.trans hcls.1)
              subst hcomp
              obtain ⟨kC, hkC, -⟩ := hcls.2
              refine W.aast hx hb ((hR.2.2 q _ hq).2) (fun z hz => by cases hz) (fun hz => by cases hz) k1 k2 rfl hkC ⟨h0, by show _ < (arrV _ _ _).slots.size; rw [arrV_size]; exact hlt⟩ g1 (fun z hz => by rw [g3] at hz; cases hz) (by rw [g2]; exact hkC) (by rw [g2]; exact va_assign hcls) rfl rfl hd fun H1 e1 e2 e3 => ?_
              refine k rfl ⟨rfl, rfl⟩ H1 _ (hR.up hAs hq hlt0 e2 e3 ?_) (ax_Sput hAs (Nat.lt_of_lt_of_le hlt0 hR.2.1) hS e2 e3) hE0.put
              show H1[as q]? = some (vp_cell _ _)
              rw [e1]
              show some ((arrV (tA t) n (fun z => va_rf ((f z).map as))).setSlot j.toNatClampNeg (.ref (as y))) = some (arrV (tA t) n (fun z => va_rf ((va_up f j.toNatClampNeg (some y) z).map as)))
              rw [arrV_store]
              congr 2
              funext z
              by_cases hz : z = j.toNatClampNeg
              · subst hz; simp [updV, va_up, va_rf]
              · simp [updV, va_up, hz]
          · cases hp
        · cases hp
      · cases hp
  · cases hp
theorem ax_alen_ok (X : ax_X b as TB T D tA mi p s m args meth c) {q pc' : Nat} {r st' : List Value} {ls' : ax_L} {h' : ax_H} (hd : decode (ax_code T mi) pc = .ok (.arraylength, 1)) (hp : ax_alen T q pc ls r h = some (pc', ls', st', h'))
    (k : ls' = ls → h' = h → ax_G w b as T D tA p l e R s m args below meth c cells slots Q h' pc' a st') : ax_G w b as T D tA p l e R s m args below meth c cells slots Q h pc a (.ref q :: r) := by
  intro H locs hR hS hE0
  obtain ⟨hx, hb, -, -, -, -, -, hown, hts, hK, hX, hAs⟩ := X
  unfold ax_alen at hp
  split at hp
  · rename_i hq
    subst hq
    rw [Option.map_eq_some_iff] at hp
    obtain ⟨q9, hq9, hp⟩ := hp
    cases hp
    exact va_slen hx hb (hX.1 q9 hq9) (hX.1 q9 hq9).lt (Nat.not_le.mpr (hAs.2 _ (Nat.le_refl _))) hS hd (k rfl rfl H locs hR hS hE0)
  split at hp
  · rename_i t n x hq
    split at hp
    · rename_i ht
      cases hp
      exact va_alen hx hb hK (hR.at hq) 0 t rfl (ax_tys_at (List.getElem?_eq_getElem ht)) rfl hd (k rfl rfl H locs hR hS hE0)
    · cases hp
  · cases hp
theorem ax_tn_at {ty : FieldType} {t : Nat} (h : ax_tn T ty = some t) : (ax_ty T)[t]? = some ty := by
  obtain ⟨h1, h2, -⟩ := List.findIdx?_eq_some_iff_getElem.mp h
  rw [List.getElem?_eq_getElem h1]
  exact congrArg some (by simpa using h2)
theorem ax_newa_ok (hA : ax_okA TB T) (X : ax_X b as TB T D tA mi p s m args meth c) {aty : ArrayType} {n : Int32} {pc' : Nat} {r st' : List Value} {ls' : ax_L} {h' : ax_H} (hd : decode (ax_code T mi) pc = .ok (.newarray aty, 2)) (hp : ax_newa T aty n pc ls r h = some (pc', ls', st', h'))
    (hc : cells + (h'.2.1 - h.2.1) ≤ R.cells) (hs : slots + (h'.2.2.1 - h.2.2.1) ≤ R.slots)
    (k : ls' = ls → h.2.1 ≤ h'.2.1 → h.2.2.1 ≤ h'.2.2.1 → ax_G w b as T D tA p l e R s m args below meth c (cells + (h'.2.1 - h.2.1)) (slots + (h'.2.2.1 - h.2.2.1)) Q h' pc' a st') : ax_G w b as T D tA p l e R s m args below meth c cells slots Q h pc a (.int n :: r) := by
  intro H locs hR hS hE0
  obtain ⟨hx, hb, -, -, -, -, -, hown, hts, hK, hX, hAs⟩ := X
  unfold ax_newa at hp
  split at hp
  · cases hp
  · rename_i hn
    have key : ∀ (ty : FieldType) (t : Nat) (x : vp_A), newarray.typeOf aty = ty → (ty = .int ∨ ty = .char ∨ ty = .long) → ax_tn T ty = some t → (∀ cA : ClassId, vp_cell cA x = arrV cA n.toNatClampNeg (fun _ => defaultValue ty)) → ax_tA as x = x →
        some (pc + 2, ls, Value.ref h.2.1 :: r, ax_add h (.inl (t, x)) n.toNatClampNeg) = some (pc', ls', st', h') → W p l e R s m args below meth c H locs cells slots Q (F0 m pc a ((Value.int n :: r).map (ax_tv as))) := by
      intro ty t x hty hty2 htn hcell htA hp
      cases hp
      have has := hAs.1 h.2.1 (by omega)
      have hat := ax_tn_at htn
      have e1 : h.2.1 + 1 - h.2.1 = 1 := by omega
      have e2 : h.2.2.1 + n.toNatClampNeg - h.2.2.1 = n.toNatClampNeg := by omega
      simp only [ax_add, e1, e2] at hc hs
      have hok : Jvm.Cond.arrayClass (newarray.typeOf aty) ∈ TB := by
        rw [hty]
        have := hA ty (List.mem_of_getElem? hat)
        rcases hty2 with rfl | rfl | rfl <;> exact this
      have hby : n.toNatClampNeg * componentBytes (newarray.typeOf aty) ≤ 536870912 := by
        have h1 : n.toNatClampNeg ≤ 65536 := by omega
        rw [hty]
        rcases hty2 with rfl | rfl | rfl <;> simp only [componentBytes] <;> omega
      refine va_newaK hx hb (hts _ hok) rfl hd rfl (fun z => hn (Or.inl z)) rfl hby hc hs hR.1 fun H1 cA f1 f2 f3 f4 f5 => ?_
      have hcA : cA = tA t := by
        have h2 := (hK.2 t _ (ax_tys_at hat)).2
        rw [hty] at f5
        rcases hty2 with rfl | rfl | rfl <;> exact Option.some.inj (f5.symm.trans h2)
      have hk := k rfl (by simp [ax_add]) (by simp [ax_add]) H1 locs (hR.add (n := n.toNatClampNeg) (by omega) (by rw [f2, hR.1]) (fun z hz => f3 z (by rw [← hR.1]; exact hz)) (by
        show H1[as h.2.1]? = some (vp_cell _ _)
        rw [htA, hcell, has, f1, hcA, hty])) (ax_Sadd hS (by rw [f2, hR.1]) (fun z hz => f3 z (by rw [← hR.1]; exact hz))) (hE0.add hS.1 (fun z hz => f3 z (by rw [← hR.1]; exact hz)))
      simp only [ax_add, e1, e2, List.map_cons, ax_tv, has] at hk
      exact hk
    split at hp
    · rename_i t ht
      exact key .int t _ rfl (Or.inl rfl) ht (fun _ => rfl) rfl hp
    · rename_i t ht
      exact key .char t _ rfl (Or.inr (Or.inl rfl)) ht (fun _ => rfl) rfl hp
    · rename_i t ht
      exact key .long t _ rfl (Or.inr (Or.inr rfl)) ht (fun _ => rfl) rfl hp
    · cases hp
theorem ax_anew_ok (hA : ax_okA TB T) (hPl : ax_okP TB T) (X : ax_X b as TB T D tA mi p s m args meth c) {idx : Nat} {n : Int32} {pc' : Nat} {r st' : List Value} {ls' : ax_L} {h' : ax_H} (hd : decode (ax_code T mi) pc = .ok (.anewarray idx, 3)) (hp : ax_anew T mi idx n pc ls r h = some (pc', ls', st', h'))
    (hc : cells + (h'.2.1 - h.2.1) ≤ R.cells) (hs : slots + (h'.2.2.1 - h.2.2.1) ≤ R.slots)
    (k : ls' = ls → h.2.1 ≤ h'.2.1 → h.2.2.1 ≤ h'.2.2.1 → ax_G w b as T D tA p l e R s m args below meth c (cells + (h'.2.1 - h.2.1)) (slots + (h'.2.2.1 - h.2.2.1)) Q h' pc' a st') : ax_G w b as T D tA p l e R s m args below meth c cells slots Q h pc a (.int n :: r) := by
  intro H locs hR hS hE0
  obtain ⟨hx, hb, -, -, -, -, -, hown, hts, hK, hX, hAs⟩ := X
  unfold ax_anew at hp
  split at hp
  · cases hp
  · rename_i hn
    split at hp
    · rename_i hk5
      have hE := hPl mi idx
      generalize hg : ax_pl T mi idx = x at *
      obtain ⟨x1, ci, x3⟩ := x
      dsimp only at hk5 hp
      subst hk5
      simp only [ax_okE] at hE
      split at hp
      · rename_i q hq
        split at hp
        · rename_i t ht
          have hat := ax_tn_at ht
          have hov : Jvm.Cond.arrayOver (.object q.1) ∈ TB := hA _ (List.mem_of_getElem? hat)
          cases hp
          rw [hq] at hE
          have has := hAs.1 h.2.1 (by omega)
          have e1 : h.2.1 + 1 - h.2.1 = 1 := by omega
          have e2 : h.2.2.1 + n.toNatClampNeg - h.2.2.1 = n.toNatClampNeg := by omega
          simp only [ax_add, e1, e2] at hc hs
          have h1 : n.toNatClampNeg ≤ 65536 := by omega
          refine W.anew hx hb hown (hts _ hE.2.1) (hts _ hov) rfl hd rfl (fun z => hn (Or.inl z)) (by omega) hc hs fun cA kA comp f1 f2 f3 f4 => ?_
          obtain ⟨kA', comp', g1, g2, g3, g4⟩ := (hK.2 t _ (ax_tys_at hat)).2
          have hcA : cA = tA t := Option.some.inj (f1.symm.trans g4)
          generalize hH1 : H.push ({ cls := cA, slots := Array.replicate n.toNatClampNeg .null, vm := .none } : Cell) = H1
          have z1 : H1.size = H.size + 1 := by rw [← hH1, Array.size_push]
          have y1 : H1[H.size]? = some (arrV cA n.toNatClampNeg (fun _ => .null)) := by rw [← hH1, Array.getElem?_push_size, ← arrV_new]
          have o1 : ∀ q : Nat, q < H.size → H1[q]? = H[q]? := fun q hq => by rw [← hH1, Array.getElem?_push, if_neg (Nat.ne_of_lt hq)]
          have hk := k rfl (by simp [ax_add]) (by simp [ax_add]) H1 locs (hR.add (n := n.toNatClampNeg) (by omega) z1 o1 (by
            show H1[as h.2.1]? = some (vp_cell _ _)
            rw [has, ← hR.1, y1, hcA]
            rfl)) (ax_Sadd hS z1 o1) (hE0.add hS.1 o1)
          simp only [ax_add, e1, e2, List.map_cons, ax_tv, has] at hk
          rw [hR.1]
          exact hk
        · cases hp
      · cases hp
    · cases hp
theorem ax_new_ok (hC : ax_okC TB T) (hPl : ax_okP TB T) (X : ax_X b as TB T D tA mi p s m args meth c) {idx pc' : Nat} {r st' : List Value} {ls' : ax_L} {h' : ax_H} (hd : decode (ax_code T mi) pc = .ok (.new idx, 3)) (hp : ax_new T mi idx pc ls r h = some (pc', ls', st', h'))
    (hc : cells + (h'.2.1 - h.2.1) ≤ R.cells) (hs : slots + (h'.2.2.1 - h.2.2.1) ≤ R.slots)
    (k : ls' = ls → h.2.1 ≤ h'.2.1 → h.2.2.1 ≤ h'.2.2.1 → ax_G w b as T D tA p l e R s m args below meth c (cells + (h'.2.1 - h.2.1)) (slots + (h'.2.2.1 - h.2.2.1)) Q h' pc' a st') : ax_G w b as T D tA p l e R s m args below meth c cells slots Q h pc a r := by
  intro H locs hR hS hE0
  obtain ⟨hx, hb, -, -, -, -, -, hown, hts, hK, hX, hAs⟩ := X
  unfold ax_new at hp
  split at hp
  · rename_i hk40
    obtain ⟨hk4, hk4b⟩ := hk40
    cases hp
    have hE := hPl mi idx
    generalize hg : ax_pl T mi idx = x at *
    obtain ⟨x1, ci, n⟩ := x
    dsimp only at hk4 hc hs k ⊢
    subst hk4
    simp only [ax_okE] at hE
    split at hE
    · rename_i w hw
      obtain ⟨C, F, N⟩ := w
      obtain ⟨hn, e2, e3, e4⟩ := hE
      dsimp only at hn e2 e3 e4
      subst hn
      obtain ⟨hin0, hty, hnm⟩ := hC ci _ hw
      dsimp only at hin0 hty hnm
      have e1 : h.2.1 + 1 - h.2.1 = 1 := by omega
      have e2' : h.2.2.1 + n - h.2.2.1 = n := by omega
      simp only [ax_add, e1, e2'] at hc hs
      have hKn := hK.1 ci _ hw
      have has := hAs.1 h.2.1 hk4b
      refine W.newcK hx hb hown (hts _ e2) (hts _ e3) (hts _ e4) rfl hd hc hs hKn.2.1 hR.1 fun H1 kC hkC f1 f2 f3 => ?_
      have z1 : H1.size = H.size + 1 := by rw [f2, hR.1]
      have o1 : ∀ q : Nat, q < H.size → H1[q]? = H[q]? := fun q hq => f3 q (by rw [← hR.1]; exact hq)
      have hk := k rfl (by simp [ax_add]) (by simp [ax_add]) H1 locs (hR.add (n := n) hk4b z1 o1 ⟨_, hw, (u_born (o := as h.2.1) (ax_fty T ci) hts hin0 hKn hkC (by rw [has]; exact f1) hty).to (fun j hj => by
        have hj' : j < n := hj
        simp [vp_V, ax_blank, List.getD, hj', ax_def_tv])⟩) (ax_Sadd hS z1 o1) (hE0.add hS.1 o1)
      simp only [ax_add, e1, e2', List.map_cons, ax_tv, has] at hk
      exact hk
    · exact hE.elim
  · cases hp
theorem ax_ldc2_ok (hPl : ax_okP TB T) (X : ax_X b as TB T D tA mi p s m args meth c) {idx pc' : Nat} {r st' : List Value} {ls' : ax_L} {h' : ax_H} (hd : decode (ax_code T mi) pc = .ok (.ldc2_w idx, 3)) (hp : ax_ldc2 T mi idx pc ls r h = some (pc', ls', st', h'))
    (k : ls' = ls → h' = h → ax_G w b as T D tA p l e R s m args below meth c cells slots Q h' pc' a st') : ax_G w b as T D tA p l e R s m args below meth c cells slots Q h pc a r := by
  intro H locs hR hS hE0
  obtain ⟨hx, hb, -, -, -, -, -, hown, hts, hK, hX, hAs⟩ := X
  unfold ax_ldc2 at hp
  split at hp
  · rename_i hk
    cases hp
    have hE := hPl mi idx
    generalize hg : ax_pl T mi idx = x at *
    obtain ⟨x1, x2, x3⟩ := x
    dsimp only at hk
    subst hk
    simp only [ax_okE] at hE
    exact lv_ldc2 hx hb hown (hts _ hE) hd (k rfl rfl H locs hR hS hE0)
  · cases hp
theorem ax_oini_ok (hPl : ax_okP TB T) (X : ax_X b as TB T D tA mi p s m args meth c) (hl : ax_lr as ls a) (hml : ls.length = ax_mx T mi) (hf : 1 ≤ R.frames) (hlo : 20 ≤ R.locals) {idx pc' q : Nat} {r st' : List Value} {ls' : ax_L} {h' : ax_H} (hd : decode (ax_code T mi) pc = .ok (.invokespecial idx, 3)) (hp : ax_oini T mi idx pc ls r h = some (pc', ls', st', h'))
    (k : ls' = ls → h' = h → ax_G w b as T D tA p l e R s m args below meth c cells slots Q h' pc' a st') : ax_G w b as T D tA p l e R s m args below meth c cells slots Q h pc a (.ref q :: r) := by
  intro H locs hR hS hE0
  obtain ⟨hx, hb, hmx, -, -, -, -, hown, hts, hK, hX, hAs⟩ := X
  unfold ax_oini at hp
  split at hp
  · rename_i hk
    obtain ⟨hk9, hk8⟩ := hk
    cases hp
    have hE := hPl mi idx
    generalize hg : ax_pl T mi idx = x at *
    obtain ⟨x1, x2, x3⟩ := x
    dsimp only at hk9
    subst hk9
    simp only [ax_okE] at hE
    refine W.objInit hx hb hown (hts _ hE.1) (hts _ hE.2.1) (hts _ hE.2.2) rfl (by rw [hmx, ← hml]; exact hl.1) rfl hd hf ?_ (k rfl rfl H locs hR hS hE0)
    show 2 * 0 + (((r.map (ax_tv as))).map (fun v => v.category)).sum + 12 ≤ R.locals
    rw [List.map_map, show ((fun v => v.category) ∘ ax_tv as) = (fun v : Value => v.category) from funext (ax_tv_cat as)]
    omega
  · cases hp
end AX2
end
section
/-! calls and whole runs -/
def ax_cd (T : ax_T) (mi : Nat) : Jvm.Cond := match ax_hs T mi with
  | [] => Jvm.Cond.code (ax_nm T mi) (ax_code T mi) (ax_mx T mi) (ax_rt T mi)
  | x :: t => Jvm.Cond.codeWith (ax_nm T mi) (ax_code T mi) (ax_mx T mi) (ax_rt T mi) (x :: t)
theorem ax_cd_n {T : ax_T} {mi : Nat} (h : ax_hs T mi = []) : ax_cd T mi = Jvm.Cond.code (ax_nm T mi) (ax_code T mi) (ax_mx T mi) (ax_rt T mi) := by
  unfold ax_cd
  rw [h]
theorem ax_cd_c {T : ax_T} {mi : Nat} (h : ax_hs T mi ≠ []) : ax_cd T mi = Jvm.Cond.codeWith (ax_nm T mi) (ax_code T mi) (ax_mx T mi) (ax_rt T mi) (ax_hs T mi) := by
  unfold ax_cd
  split
  · rename_i q; exact absurd q h
  · rename_i q; rw [q]
def ax_w (TB : List Jvm.Cond) (T : ax_T) (mi : Nat) : List Jvm.Cond := ax_cd T mi :: TB
def ax_rm (d mc ms : Nat) : Room := { frames := d + 8, cells := mc, slots := ms, locals := 40 * d + 120 }
/-- a word that holds on while entries of the pools are resolved -/
def ax_tr (w : Jvm.Cond) : Prop := ∀ (args a' : Array Value) (s U : State), s.WarmedH U.vm → w.before args s = true → w.before a' U = true
def ax_gw (w : Jvm.Cond) : Bool := goodWord w || (match w with
  | .fieldLinkNest _ _ _ _ _ _ | .methodLinkNest _ _ _ _ | .arrayOver (.object _) | .declares _ | .castable _ _ => true
  | _ => false)
theorem ax_tr_of {w : Jvm.Cond} (h : ax_gw w = true) : ax_tr w := by
  intro args a' s U hW hb
  unfold ax_gw at h
  rw [Bool.or_eq_true] at h
  rcases h with h | h
  · exact word_at hW (good_of_word h) hb
  · split at h
    · exact va_Nw.use rfl (va_Nw.warmF hW (va_Nw.of rfl hb))
    · exact va_Nw.use rfl (va_Nw.warmM hW (va_Nw.of rfl hb))
    · exact va_AO.use (va_AO.moved hW.alike (va_AO.of hb))
    · exact va_Nw.use rfl (va_Nw.warmD hW (va_Nw.of rfl hb))
    · exact va_Nw.use rfl (va_Nw.warmC hW (va_Nw.of rfl hb))
    · cases h
def ax_good (TB : List Jvm.Cond) : Prop := ∀ w ∈ TB, ax_tr w
def ax_ok (TB : List Jvm.Cond) (T : ax_T) : Prop := ax_okC TB T ∧ ax_okP TB T ∧ ax_okA TB T ∧ (∀ mi, plainName (ax_nm T mi).cls = true) ∧ ax_good TB
/-- the contract of a call that answers -/
def ax_K (TB : List Jvm.Cond) (T : ax_T) (D : va_G) (tA : Nat → ClassId) (b : Nat) (as : Nat → Nat) (l : Launch) (d mi : Nat) (av : List Value) (h : ax_H) (v : Option Value) (h1 : ax_H) : Prop :=
  Met l (ax_nm T mi) (ax_w TB T mi) (ax_rm d (h1.2.1 - h.2.1) (h1.2.2.1 - h.2.2.1)) (va_Pc (av.map (ax_tv as)) (fun U => ax_R b as D (ax_cl T) tA h U.heap ∧ va_K D (ax_cl T) (ax_tys tA T) U ∧ ax_ro b as T U U.heap))
    (fun _ st o t => o = .returned (v.map (ax_tv as)) ∧ ax_R b as D (ax_cl T) tA h1 t.heap ∧ va_F (fun q => b ≤ q) st t ∧ ax_E h.2.2.2 h1 st.heap t.heap) (h1.2.1 - h.2.1) (h1.2.2.1 - h.2.2.1) (fun q => b ≤ q)
section AX3
variable {p : Program} {l : Launch} {e : Env} {R : Room} {s : State} {m : MethodId} {args : Array Value} {below : List Frame} {meth : Method} {c : Code} {H : Heap} {locs : List Loc} {cells slots : Nat} {Q : State → Prop}
variable {pc w : Nat} {b : Nat} {as : Nat → Nat} {a : Array Slot} {ls : ax_L} {T : ax_T} {TB : List Jvm.Cond} {D : va_G} {tA : Nat → ClassId} {mi : Nat} {h : ax_H}
theorem ax_E.call {w : Nat} {h h1 : ax_H} {H0 H H1 : Heap} (hE : ax_E w h H0 H) (hz : H0.size ≤ H.size) (h2 : ax_E h.2.2.2 h1 H H1) : ax_E w h1 H0 H1 := by
  refine ⟨Nat.le_trans hE.1 h2.1, fun q z hz1 => ?_⟩
  have g1 := hE.1
  have g2 := h2.1
  rw [h2.2 (by omega) z (Nat.lt_of_lt_of_le hz1 hz)]
  exact hE.2 (by omega) z hz1
theorem ax_callW {st0 rest : List Value} {mc ms : Nat} {vv : Option Value} {h1 : ax_H} (hr : va_Run p l e R s m args below meth c H locs cells slots mc ms (F0 m pc a st0) rest (fun st o t => o = .returned vv ∧ ax_R b as D (ax_cl T) tA h1 t.heap ∧ va_F (fun q => b ≤ q) st t ∧ ax_E h.2.2.2 h1 st.heap t.heap) (fun q => b ≤ q)) (hS : va_S (fun q => b ≤ q) s.heap H locs) (hE0 : ax_E w h s.heap H)
    (kk : ∀ (H1 : Heap) (locs1 : List Loc), ax_R b as D (ax_cl T) tA h1 H1 → va_S (fun q => b ≤ q) s.heap H1 locs1 → ax_E w h1 s.heap H1 → W p l e R s m args below meth c H1 locs1 (cells + mc) (slots + ms) Q (F0 m (pc + 3) a (vv.toList ++ rest))) : W p l e R s m args below meth c H locs cells slots Q (F0 m pc a st0) := by
  intro T1 hT X
  obtain ⟨v, st₀, t, T', L, h0, X', hL, e1, e2, ⟨hv, hRR, ⟨hz, hk⟩, hE1⟩, st⟩ := hr T1 hT X
  cases hv
  rw [h0] at hz hk hE1
  obtain ⟨t2, a1, b1⟩ := kk T'.heap (locs ++ L) (by rw [e1]; exact hRR) ⟨Nat.le_trans hS.1 (by rw [e1]; exact hz), fun q h1 h2 => by rw [e1, hk q (Nat.lt_of_lt_of_le h1 hS.1) h2]; exact hS.2.1 q h1 h2, fun q hq => by
    rcases List.mem_append.mp hq with h | h
    · exact hS.2.2 q h
    · exact hL q h⟩ (by rw [e1]; exact hE0.call hS.1 hE1) T' rfl X'
  exact ⟨t2, st t2 a1, b1⟩
theorem ax_wsum (as : Nat → Nat) (r : List Value) : (((r.map (ax_tv as))).map (fun v => v.category)).sum = (r.map (fun v => v.category)).sum := by
  rw [List.map_map, show ((fun v => v.category) ∘ ax_tv as) = (fun v : Value => v.category) from funext (ax_tv_cat as)]
theorem ax_blind (T : ax_T) (D : va_G) (tA : Nat → ClassId) (b : Nat) (as : Nat → Nat) (av : List Value) (h : ax_H) : FrameBlind (va_Pc (av.map (ax_tv as)) (fun U => ax_R b as D (ax_cl T) tA h U.heap ∧ va_K D (ax_cl T) (ax_tys tA T) U ∧ ax_ro b as T U U.heap)) := by
  intro A U g mk q
  obtain ⟨q0, q1, q2, q3⟩ := q
  exact ⟨q0, q1, va_K.moved (u := U) (U := U.calling g mk A) (Vm.Alike.refl U.vm) q2, ax_ro.moved (u := U) (U := U.calling g mk A) (Vm.Alike.refl U.vm) q3⟩
theorem ax_words (hO : ax_ok TB T) (hts : ∀ w ∈ TB, w.before args s = true) {mj : Nat} (hm : ax_cd T mj ∈ TB) : ∀ w ∈ ax_w TB T mj, ∀ (a' : Array Value) (U : State), s.WarmedH U.vm → w.before a' U = true := by
  intro w hw a' U hW
  rcases List.mem_cons.mp hw with rfl | hw
  · exact hO.2.2.2.2 _ hm args a' s U hW (hts _ hm)
  · exact hO.2.2.2.2 w hw args a' s U hW (hts w hw)
theorem ax_cb (hO : ax_ok TB T) (hts : ∀ w ∈ TB, w.before args s = true) {d mc ms idx n mj : Nat} {own : String} (hRf : d + 9 ≤ R.frames) (hRl : 40 * d + 160 ≤ R.locals) (hini : Jvm.Cond.initialized (ax_nm T mj).cls ∈ TB) (hl : Jvm.Cond.methodLink own idx (ax_nm T mj) ∈ TB) (hn : (parseMethodDescriptor (ax_nm T mj).desc).map (fun d => d.parameters.length) = some n) (hm : ax_okM TB T mj) :
    CallB R s args own idx (ax_nm T mj) (ax_code T mj) (ax_mx T mj) (ax_rt T mj) (ax_w TB T mj) (ax_rm d mc ms) mc ms n := by
  have hcd := ax_cd_n hm.1
  have h21 := hm.2.2.1
  refine ⟨rfl, rfl, ?_, ?_, ax_words hO hts (by rw [hcd]; exact hm.2.1), by rw [ax_w, hcd]; exact List.mem_cons_self, hts _ hm.2.1, hts _ hini, hm.2.2.2, fun sig h => ?_, hts _ hl⟩
  · show d + 8 + 1 ≤ R.frames; omega
  · show 8 + (ax_mx T mj + 11) + (40 * d + 120) ≤ R.locals
    omega
  · rw [h] at hn
    exact (Option.some.inj hn).symm
theorem ax_cn (hO : ax_ok TB T) (hts : ∀ w ∈ TB, w.before args s = true) {d mc ms idx n mj : Nat} {own host : String} (hRf : d + 9 ≤ R.frames) (hRl : 40 * d + 160 ≤ R.locals) (hini : Jvm.Cond.initialized (ax_nm T mj).cls ∈ TB) (hl : Jvm.Cond.methodLinkNest own idx (ax_nm T mj) host ∈ TB) (hn : (parseMethodDescriptor (ax_nm T mj).desc).map (fun d => d.parameters.length) = some n) (hm : ax_okM TB T mj) :
    va_CN R s args own idx (ax_nm T mj) host (ax_code T mj) (ax_mx T mj) (ax_rt T mj) (ax_w TB T mj) (ax_rm d mc ms) mc ms n := by
  have hcd := ax_cd_n hm.1
  have h21 := hm.2.2.1
  refine ⟨⟨rfl, rfl, ?_, ?_, ax_words hO hts (by rw [hcd]; exact hm.2.1), by rw [ax_w, hcd]; exact List.mem_cons_self⟩, hts _ hm.2.1, hts _ hini, hm.2.2.2, fun sig h => ?_, hts _ hl⟩
  · show d + 8 + 1 ≤ R.frames; omega
  · show 8 + (ax_mx T mj + 11) + (40 * d + 120) ≤ R.locals
    omega
  · rw [h] at hn
    exact (Option.some.inj hn).symm
/-- a static method with handlers -/
theorem ax_runSW {y : MethodName} {bytes cc : ByteArray} {maxL nL mc ms n index : Nat} {ret : Option FieldType} {ws : List Jvm.Cond} {rm : Room} {Pc : Array Value → State → Prop} {Qc : Array Value → State → Outcome → State → Prop} {free : Addr → Prop} {Ts : List Jvm.Cond} {own : String} {As rest : List Value} {g : JFrame} {hh : List (Nat × Nat × Nat × Nat)}
    (S : CallFix p m c cc nL s args Ts own) (hM : Met l y ws rm Pc Qc mc ms free) (hrc : rm.cells = mc) (hrs : rm.slots = ms) (hfr : rm.frames + 1 ≤ R.frames) (hlo : 8 + (maxL + 11) + rm.locals ≤ R.locals) (hws : ∀ w ∈ ws, ∀ (a' : Array Value) (U : State), s.WarmedH U.vm → w.before a' U = true) (hcw : Jvm.Cond.codeWith y bytes maxL ret hh ∈ ws) (hcode : (Jvm.Cond.codeWith y bytes maxL ret hh).before args s = true)
    (hini : (Jvm.Cond.initialized y.cls).before args s = true) (hy : y.cls ≠ "java/lang/invoke/MethodHandle" ∧ y.cls ≠ "java/lang/invoke/VarHandle") (hlen : ∀ sig, parseMethodDescriptor y.desc = some sig → n = sig.parameters.length) (hl : (Jvm.Cond.methodLink own index y).before args s = true) (hstt : (Jvm.Cond.static y).before args s = true) (hp : PreS s H Pc As)
    (hg : g.method = m) (hn : As.length = n) (hsize : g.locals.size = nL) (hstack : g.stack = As.reverse ++ rest) (hW : 2 * g.monitorRoom + (rest.map fun v => v.category).sum ≤ 8) (hdg : decode cc g.pc = .ok (.invokestatic index, 3)) (hf : cells + mc ≤ R.cells ∧ slots + ms ≤ R.slots) :
    va_Run p l e R s m args below meth c H locs cells slots mc ms g rest (Qc As.toArray) free := by
  have hK : Back l R p e below s args y 3 8 (PreOf R mc ms Pc) (PostOf Qc mc ms free) := by
    refine Back.of_freeWith (handlers := hh) (S := headSpec ws rm) (P := Pc) (K := fun _ _ _ _ _ => True) (Q := fun a st o t => Qc a st o t ∧ ∃ L, FrameEnd st o t L mc ms ∧ ∀ q ∈ L, free q.base) (bytes := bytes) (maxL := maxL) (ret := ret)
      (E := fun a st o t L k n => k = mc ∧ n = ms ∧ ∀ q ∈ L, free q.base) hM hfr hlo ?_ ?_ (fun _ _ _ _ _ _ _ _ _ => trivial) ?_ ?_
    · intro m meth c A a X hp
      exact ⟨atoms_intro fun w hw => hws w hw _ _ X.warmed, hws _ hcw _ _ X.warmed, word_at X.warmed (Or.inl (by first | rfl | simp [Cond.onTables, Cond.keeps, Cond.steady])) hini, by rw [show (headSpec ws rm).room.cells = mc from hrc]; exact hp.1, by rw [show (headSpec ws rm).room.slots = ms from hrs]; exact hp.2.1⟩
    · intro m meth c A a g mk X hq
      exact hp.1 _ _ _ _ hq.2.2
    · intro a st o t ⟨hq, L, hF, hL⟩
      exact ⟨L, mc, ms, hF, rfl, rfl, hL⟩
    · intro m meth c A a g mk v t L k n X hp hq hF ⟨e1, e2, hL⟩
      subst e1; subst e2
      exact ⟨g, mk, t, L, rfl, rfl, hq.1, rfl, hL, rfl, rfl⟩
  obtain ⟨hx, hb, hml, ho, -⟩ := S
  obtain ⟨mk, methM, cM, hnamed, hmethM, -, -, -, -, -, -, hsigM⟩ := Cond.codeWith_spec hcode
  have hstatic : methM.isStatic = true := Cond.static_spec hnamed hmethM hstt
  obtain ⟨kP, hkP, -⟩ := className_of_methodNamed hnamed
  have hinitP : kP.init = .initialized := Cond.initialized_spec (findClass_of_methodNamed hnamed) hkP hini
  intro T hT X
  obtain ⟨vm₁, X₁, hstep₁⟩ := X.invokestatic hx ho hl hnamed hmethM hstatic hkP hinitP hy (g := g) hg (argsL := As) (rest := rest) (hn.trans (hlen _ hsigM)) hstack (by rw [hb]; exact hdg)
  obtain ⟨v, ⟨U', l2, c2, s2⟩, X', ⟨g', mk', t, L, e1, e2, hq, h1, hL, h2, h3⟩, hsteps⟩ := hK m meth c ⟨T.setVm vm₁, locs, cells, slots⟩ { g with stack := rest } (.invokestatic index) mk As.toArray X₁ hg (hsize.trans hml.symm) (by rw [hb]; exact hdg) hW (X₁.named hnamed) ⟨hf.1, hf.2, hp.2 (T.setVm vm₁) hT X₁.warmed⟩
  dsimp only [Pt.U, Pt.locs, Pt.cells, Pt.slots] at X' e1 e2 h1 h2 h3 hsteps
  subst h1; subst h2; subst h3
  exact ⟨v, (T.setVm vm₁).calling g' mk' As.toArray, t, U', L, hT, X', hL, e1, e2, hq, fun target h => hstep₁ _ fun acts => by rw [doInvoke_state]; exact hsteps.trans h⟩
/-- a call whose contract is known -/
theorem ax_inv_ok (hO : ax_ok TB T) (X : ax_X b as TB T D tA mi p s m args meth c) (hl : ax_lr as ls a) (hml : ls.length = ax_mx T mi) {d : Nat} (hRf : d + 9 ≤ R.frames) (hRl : 40 * d + 160 ≤ R.locals) {i : Instr} {st av r : List Value} {mj : Nat} (hd : decode (ax_code T mi) pc = .ok (i, 3)) (hi : ax_inv T mi i st h = some (mj, av, r)) {v : Option Value} {h1 : ax_H}
    (hM : ax_K TB T D tA b as l d mj av h v h1) (hc : cells + (h1.2.1 - h.2.1) ≤ R.cells) (hs : slots + (h1.2.2.1 - h.2.2.1) ≤ R.slots)
    (k : ax_G w b as T D tA p l e R s m args below meth c (cells + (h1.2.1 - h.2.1)) (slots + (h1.2.2.1 - h.2.2.1)) Q h1 (pc + 3) a (v.toList ++ r)) : ax_G w b as T D tA p l e R s m args below meth c cells slots Q h pc a st := by
  intro H locs hR hS hE0
  obtain ⟨hx, hb, hmx, -, -, -, -, hown, hts, hK, hX, hAs⟩ := X
  have hsize : a.size = ax_mx T mi := by rw [← hml]; exact hl.1
  have F : CallFix p m c (ax_code T mi) (ax_mx T mi) s args TB (ax_nm T mi).cls := ⟨hx, hb, hmx, hown, hts⟩
  have kk : ∀ (H1 : Heap) (locs1 : List Loc), ax_R b as D (ax_cl T) tA h1 H1 → va_S (fun q => b ≤ q) s.heap H1 locs1 → ax_E w h1 s.heap H1 → W p l e R s m args below meth c H1 locs1 (cells + (h1.2.1 - h.2.1)) (slots + (h1.2.2.1 - h.2.2.1)) Q (F0 m (pc + 3) a ((v.map (ax_tv as)).toList ++ r.map (ax_tv as))) := by
    intro H1 locs1 g1 g2 g3
    have := k H1 locs1 g1 g2 g3
    rw [List.map_append] at this
    cases v <;> exact this
  have hpre : ∀ (av0 : List Value), PreS s H (va_Pc (av0.map (ax_tv as)) (fun U => ax_R b as D (ax_cl T) tA h U.heap ∧ va_K D (ax_cl T) (ax_tys tA T) U ∧ ax_ro b as T U U.heap)) (av0.map (ax_tv as)) := by
    intro av0
    exact ⟨ax_blind T D tA b as av0 h, fun U hU hW => ⟨rfl, by rw [hU]; exact hR, va_K.moved hW.alike hK, by rw [hU]; exact ax_ro.moved hW.alike (hX.kept hAs hS.2.1)⟩⟩
  have hE := hO.2.1 mi
  unfold ax_inv at hi
  split at hi
  · rename_i idx
    split at hi
    · rename_i hk
      obtain ⟨hk1, hk2, hk3⟩ := hk
      cases hi
      have hE := hE idx
      generalize hg : ax_pl T mi idx = x at *
      obtain ⟨x1, mj, n⟩ := x
      dsimp only at hk1 hk2 hk3 hM hc hs k kk ⊢
      have hst : st.map (ax_tv as) = (((st.take n).reverse.map (ax_tv as))).reverse ++ (st.drop n).map (ax_tv as) := by
        rw [← List.map_reverse, List.reverse_reverse, ← List.map_append, List.take_append_drop]
      have hlen : ((st.take n).reverse.map (ax_tv as)).length = n := by simp; omega
      rcases hk1 with rfl | rfl | rfl
      · simp only [ax_okE] at hE
        obtain ⟨g1, g2, g3, g4, g5⟩ := hE
        exact ax_callW (va_runS F hM ⟨ax_cb hO hts hRf hRl g3 g1 g4 g5, hts _ g2⟩ (hpre _) rfl hlen hsize hst (lv_room (by rw [ax_wsum]; exact hk3)) hd ⟨hc, hs⟩) hS hE0 kk
      · simp only [ax_okE] at hE
        obtain ⟨g1, g2, g3, g4, g5⟩ := hE
        exact ax_callW (va_runSN F hM ⟨ax_cn hO hts hRf hRl g3 g1 g4 g5, hts _ g2, trivial⟩ (hpre _) rfl hlen hsize hst (lv_room (by rw [ax_wsum]; exact hk3)) hd ⟨hc, hs⟩) hS hE0 kk
      · simp only [ax_okE] at hE
        obtain ⟨g1, g2, g3, g4, g5⟩ := hE
        have hcd := ax_cd_c g5.1
        have hg6 := g5.2.2.1
        exact ax_callW (ax_runSW (hh := ax_hs T mj) (bytes := ax_code T mj) (maxL := ax_mx T mj) (ret := ax_rt T mj) (n := n) F hM rfl rfl (by show d + 8 + 1 ≤ R.frames; omega) (by show 8 + (ax_mx T mj + 11) + (40 * d + 120) ≤ R.locals; omega) (ax_words hO hts (by rw [hcd]; exact g5.2.1)) (by rw [ax_w, hcd]; exact List.mem_cons_self) (hts _ g5.2.1) (hts _ g3) g5.2.2.2 (fun sig hsig => by rw [hsig] at g4; exact (Option.some.inj g4).symm) (hts _ g1) (hts _ g2) (hpre _) rfl hlen hsize hst (lv_room (by rw [ax_wsum]; exact hk3)) hd ⟨hc, hs⟩) hS hE0 kk
    · cases hi
  · rename_i idx
    split at hi
    · rename_i q r0 hdr
      split at hi
      · rename_i ci fs hq
        split at hi
        · rename_i hk
          obtain ⟨hk1, hk2, hk3⟩ := hk
          cases hi
          have hE := hE idx
          generalize hg : ax_pl T mi idx = x at *
          obtain ⟨x1, mj, n⟩ := x
          dsimp only at hk1 hk2 hk3 hM hc hs k kk hdr ⊢
          have hst : st.map (ax_tv as) = (((st.take n).reverse.map (ax_tv as))).reverse ++ .ref (as q) :: r.map (ax_tv as) := by
            rw [← List.map_reverse, List.reverse_reverse, show (.ref (as q) :: r.map (ax_tv as) : List Value) = (.ref q :: r).map (ax_tv as) from rfl, ← hdr, ← List.map_append, List.take_append_drop]
          have hn2 : n ≤ st.length := by
            have := congrArg List.length hdr
            simp at this
            omega
          have hlen : ((st.take n).reverse.map (ax_tv as)).length = n := by simp; omega
          cases hw : (ax_cl T)[ci]? with
          | none => rw [hw] at hk2; cases hk2
          | some w =>
            rw [hw] at hk2
            have hk2 : w.1 = (ax_nm T mj).cls := by simpa using hk2
            have hrecv : ∃ cell : Cell, H[as q]? = some cell ∧ cell.vm.isStatics = false ∧ s.vm.findClass (ax_nm T mj).cls = some cell.cls := by
              rw [← hk2]
              exact va_recv hK (hR.at hq) hw (q0 := 0) rfl
            have hpv : PreV s H (ax_nm T mj).cls (as q) (va_Pc ((Value.ref q :: (st.take n).reverse).map (ax_tv as)) (fun U => ax_R b as D (ax_cl T) tA h U.heap ∧ va_K D (ax_cl T) (ax_tys tA T) U ∧ ax_ro b as T U U.heap)) ((st.take n).reverse.map (ax_tv as)) :=
              ⟨(hpre (.ref q :: (st.take n).reverse)).1, hrecv, (hpre (.ref q :: (st.take n).reverse)).2⟩
            rcases hk1 with rfl | rfl
            · simp only [ax_okE] at hE
              obtain ⟨g1, g2, g3, g4, g5, g6⟩ := hE
              exact ax_callW (va_runV F hM ⟨ax_cb hO hts hRf hRl g4 g1 g5 g6, hts _ g2, hts _ g3⟩ hpv rfl hlen hsize hst (lv_room (by rw [ax_wsum]; exact hk3)) hd ⟨hc, hs⟩) hS hE0 kk
            · simp only [ax_okE] at hE
              obtain ⟨g1, g2, g3, g4, g5, g6⟩ := hE
              exact ax_callW (va_runVN F hM ⟨ax_cn hO hts hRf hRl g4 g1 g5 g6, hts _ g2, hts _ g3⟩ hpv rfl hlen hsize hst (lv_room (by rw [ax_wsum]; exact hk3)) hd ⟨hc, hs⟩) hS hE0 kk
        · cases hi
      · cases hi
    · cases hi
  · rename_i idx
    split at hi
    · rename_i q r0 hdr
      split at hi
      · rename_i hk
        obtain ⟨hk1, hk3⟩ := hk
        cases hi
        have hE := hE idx
        generalize hg : ax_pl T mi idx = x at *
        obtain ⟨x1, mj, n⟩ := x
        dsimp only at hk1 hk3 hM hc hs k kk hdr ⊢
        have hst : st.map (ax_tv as) = (((st.take n).reverse.map (ax_tv as))).reverse ++ .ref (as q) :: r.map (ax_tv as) := by
          rw [← List.map_reverse, List.reverse_reverse, show (.ref (as q) :: r.map (ax_tv as) : List Value) = (.ref q :: r).map (ax_tv as) from rfl, ← hdr, ← List.map_append, List.take_append_drop]
        have hn2 : n ≤ st.length := by
          have := congrArg List.length hdr
          simp at this
          omega
        have hlen : ((st.take n).reverse.map (ax_tv as)).length = n := by simp; omega
        rcases hk1 with rfl | rfl
        · simp only [ax_okE] at hE
          obtain ⟨g1, g2, g3, g4, g5, g6, g7⟩ := hE
          have hcb := ax_cb (R := R) (s := s) (args := args) (own := (ax_nm T mi).cls) (mc := h1.2.1 - h.2.1) (ms := h1.2.2.1 - h.2.2.1) hO hts hRf hRl g5 g1 g6 g7
          rw [g4] at hcb
          exact ax_callW (va_runI F hM ⟨hcb, g3, hts _ g2⟩ (hpre (.ref q :: (st.take n).reverse)) rfl hlen hsize hst (lv_room (by rw [ax_wsum]; exact hk3)) hd ⟨hc, hs⟩) hS hE0 kk
        · simp only [ax_okE] at hE
          obtain ⟨g1, g2, g3, g4, g5, g6, g7⟩ := hE
          have hcb := ax_cn (R := R) (s := s) (args := args) (own := (ax_nm T mi).cls) (mc := h1.2.1 - h.2.1) (ms := h1.2.2.1 - h.2.2.1) hO hts hRf hRl g5 g1 g6 g7
          rw [g4] at hcb
          exact ax_callW (va_runIN F hM ⟨hcb, g3, hts _ g2⟩ (hpre (.ref q :: (st.take n).reverse)) rfl hlen hsize hst (lv_room (by rw [ax_wsum]; exact hk3)) hd ⟨hc, hs⟩) hS hE0 kk
      · cases hi
    · cases hi
  · cases hi
end AX3
end
section
/-! a method that throws a new exception of a class of its own making, nothing written before: how it ends -/
/-- the end of a method that throws: the exception is the newest cell -/
def ax_QT (b : Nat) (as : Nat → Nat) (T : ax_T) (D : va_G) (tA : Nat → ClassId) (below : List Frame) (s : State) (n : Nat) (h1 : ax_H) (cells slots : Nat) (t : State) : Prop :=
  t.status = .running ∧ Ended t below (.threw (as (h1.2.1 - 1))) ∧ s.WarmedH t.vm ∧ s.sameButNew ({ t with vm := s.vm } : State) [] cells slots ∧ ax_R b as D (ax_cl T) tA h1 t.heap ∧
    ∃ ce : Cell, t.heap[as (h1.2.1 - 1)]? = some ce ∧ ce.vm = .none ∧ s.vm.findClass (ax_en n) = some ce.cls
section AX3b
variable {p : Program} {l : Launch} {e : Env} {R : Room} {s : State} {m : MethodId} {args : Array Value} {below : List Frame} {meth : Method} {c : Code} {H : Heap} {locs : List Loc} {cells slots : Nat} {Q : State → Prop}
variable {pc w : Nat} {b : Nat} {as : Nat → Nat} {a : Array Slot} {ls : ax_L} {T : ax_T} {TB : List Jvm.Cond} {D : va_G} {tA : Nat → ClassId} {mi : Nat} {h : ax_H}
/-- where no old cell has changed nothing counts as written -/
theorem ax_unlocs {g : JFrame} (hH : ∀ q : Nat, q < s.heap.size → H[q]? = s.heap[q]?) (k : W p l e R s m args below meth c H [] cells slots Q g) : W p l e R s m args below meth c H locs cells slots Q g := by
  intro U hU X
  refine k U hU { X with same := ?_ }
  obtain ⟨h1, h2, h3, h4, h5, h6⟩ := X.same
  refine ⟨h1, h2, h3, h4, h5, fun x cell hx => ⟨cell, ?_, rfl, rfl, fun _ _ => rfl⟩⟩
  have hlt : x < s.heap.size := (Array.getElem?_eq_some_iff.mp hx).1
  show U.heap[x]? = some cell
  rw [hU, hH x hlt]
  exact hx
theorem ax_thr_ok (hfl : l.flags = Jvm.pinnedFlags ++ [Jvm.noTraceFlag]) (X : ax_X b as TB T D tA mi p s m args meth c) (hl : ax_lr as ls a) (hml : ls.length = ax_mx T mi) {idx ic n : Nat} {st : List Value} (hT : ax_okT TB (ax_nm T mi).cls idx ic n)
    (hd0 : decode (ax_code T mi) pc = .ok (.new idx, 3)) (hd1 : decode (ax_code T mi) (pc + 3) = .ok (.dup, 1)) (hd2 : decode (ax_code T mi) (pc + 4) = .ok (.invokespecial ic, 3)) (hd3 : decode (ax_code T mi) (pc + 7) = .ok (.athrow, 1))
    (hout : ∀ x ∈ c.exceptionTable.toList, covers x (pc + 7) = false) (hw : h.2.2.2 = w) (hbig : h.2.1 < ax_big) (hst : (st.map (fun v => v.category)).sum ≤ 8) (hRf : 8 ≤ R.frames) (hRl : 120 ≤ R.locals) (hc : 1 ≤ R.cells) (hs : 6 ≤ R.slots) (hsz : s.heap.size = b + h.2.1) :
    ax_G w b as T D tA p l e R s m args below meth c 0 0 (ax_QT b as T D tA below s n (ax_one h) 1 6) h pc a st := by
  intro H locs hR hS hE0
  obtain ⟨hx, hb, hmx, -, hlk, -, -, hown, hts, hK, hX, hAs⟩ := X
  have hsame := hE0.2 hw
  refine ax_unlocs hsame ?_
  refine W.newc hx hb hown (hts _ hT.1) (hts _ hT.2.1) (hts _ hT.2.2.1) rfl hd0 (by omega) (by omega) fun cC kC h1 h2 h3 h4 => ?_
  refine lv_dup hx hb hd1 rfl ?_
  intro U hU Z
  have has := hAs.1 h.2.1 hbig
  have hz : H.size = b + h.2.1 := hR.1
  have hcell : U.heap[H.size]? = some (freshCell cC kC) := by rw [hU]; simp
  have hold : ∀ q : Nat, q < s.heap.size → U.heap[q]? = s.heap[q]? := fun q hq => by
    rw [hU, Array.getElem?_push, if_neg (by have := hS.1; omega)]
    exact hsame q hq
  have hat : ∀ w ∈ Bundle.ownAtoms0 (ax_nm T mi).cls ic (ax_en n) ax_up2, w.before args s = true := by
    intro w hw
    rcases hT.2.2.2.2 w hw with g | g
    · exact hts w g
    · simp only [ax_zs, List.mem_cons, List.not_mem_nil, or_false] at g
      rcases g with rfl | rfl | rfl | rfl
      · exact hX.2.1.ref
      · exact hX.2.2.ref
      · exact hX.2.1.lay
      · exact hX.2.2.lay
  obtain ⟨V, g1, g2, g3, g4, g5, ce, g6, g7⟩ := Z.ctorThrow0 hx (Launch.traces_off hfl Z.admits) hown hT.2.2.2.1 (names := ax_up2) (by decide) hat (fun _ h => by cases h) h1 h2 hcell hS.1 (g := F0 m (pc + 3 + 1) a (.ref H.size :: .ref H.size :: st.map (ax_tv as))) rfl (by rw [hmx, ← hml]; exact hl.1) rfl rfl rfl (by rw [hb]; exact hd2) (by rw [hb]; exact hd3) hout (by show 2 + 3 < R.frames; omega) (by
    show 2 * 0 + ((Value.ref H.size :: st.map (ax_tv as)).map fun v => v.category).sum + (13 * (2 + 1) + 41) ≤ R.locals
    rw [List.map_cons, List.sum_cons, ax_wsum]
    show 0 + (1 + _) + _ ≤ _
    omega)
  refine ⟨V, g1, ?_⟩
  have hx1 : as ((ax_one h).2.1 - 1) = H.size := by
    show as (h.2.1 + 1 - 1) = H.size
    rw [Nat.add_sub_cancel, has, hz]
  have hVs : V.heap.size = b + (h.2.1 + 1) := by
    have k1 : V.heap.size ≤ s.heap.size + (0 + 1) := g5.2.2.1
    have k2 : H.size < V.heap.size := (Array.getElem?_eq_some_iff.mp g6).1
    omega
  have hV : ∀ q : Nat, q < s.heap.size → V.heap[q]? = s.heap[q]? := by
    intro q hq
    obtain ⟨c', k1, k2, k3, k4⟩ := g5.2.2.2.2.2 q _ (Array.getElem?_eq_getElem hq)
    have k1 : V.heap[q]? = some c' := k1
    rw [k1, Array.getElem?_eq_getElem hq]
    have k5 : c'.slots = (s.heap[q]).slots := by
      apply Array.ext_getElem?
      intro i
      exact k4 i (fun z => by cases z)
    rw [k5] at k2
    exact congrArg some k2
  refine ⟨g2, by rw [hx1]; exact g3, g4, g5, ⟨hVs, hbig, fun i cc hi => ?_⟩, ce, by rw [hx1]; exact g6, g7.vm, g7.cls⟩
  obtain ⟨k1, k2⟩ := hR.2.2 i cc hi
  refine ⟨k1.imp Nat.lt_succ_of_lt id, k2.kept ?_⟩
  have k3 : as i < s.heap.size := by
    have := k2.lt
    have k4 : as i < H.size := this
    omega
  show V.heap[as i]? = H[as i]?
  rw [hV _ k3, hsame _ k3]
end AX3b
end
section
/-! an exception that is caught by the first row of the caller's table, whose class may be resolved there first -/
theorem ax_findCold {e : Env} {s : State} {f : JFrame} {a : Addr} {meth : Method} {code : Code} (hm : s.vm.method? f.method = some meth) (hc : meth.code = some code) {x : ExceptionTableEntry} {rest : List ExceptionTableEntry} (htab : code.exceptionTable.toList = x :: rest) (hx : covers x f.pc = true) (h0 : x.catchType ≠ 0) {cX : ClassId} {vm' : Vm}
    (hg : (Jvm.resolveClass f.method.cls x.catchType).Gives e.toSetting s.vm (.ok cX) vm') (hsz : vm'.classes.size ≤ s.vm.classes.size) {cell : Cell} (hcell : s.heap[a]? = some cell) (hobj : ∀ k, cell.vm ≠ .statics k) (hk : ∃ k, vm'.classes[cell.cls]? = some k) (hcl : ∃ k, vm'.classes[cX]? = some k) (hfit : vm'.assignable cell.cls cX = true) :
    ∀ (Q : Handler → Pre) (E : CtlPost) (d : Bool) (acts : List Action), wp (findHandler f a) Q E e d acts s ↔ Q (.found x.handlerPc) d acts (s.setVm vm') := by
  intro Q E d acts
  obtain ⟨ha, ht⟩ := hg.op (op := VmOp.resolveClass f.method.cls x.catchType) rfl
  rw [W.findHandler_eq hm hc, htab]
  simp only [covers] at hx
  simp [findHandler.go, hx, h0, ha, ht, hsz, hcell, hobj, hk, hcl, hfit, VmOp.dirties, VmOp.acts]
theorem ax_stepCatch {e : Env} {s : State} {a : Addr} {f : JFrame} {r : List Frame} {pc : Nat} {vm' : Vm} (hfind : ∀ (Q : Handler → Pre) (E : CtlPost) (d : Bool) (acts : List Action), wp (findHandler f a) Q E e d acts s ↔ Q (.found pc) d acts (s.setVm vm')) :
    (stepThrowing e s a (.java f :: r)).Is ((s.setVm vm').setFrames (.java { f with pc := pc, stack := [.ref a] } :: r)) [] := by
  simp only [stepThrowing, searchFrame, vmDo]
  generalize hr : Sem.go _ e false [] s = res
  obtain ⟨as, rfl, ha⟩ := Sem.eq_ok_of hr (a := Handler.found pc) (s' := s.setVm vm') (acts' := []) (by simp [hfind])
  exact ⟨rfl, ha⟩
section AX3c
variable {p : Program} {l : Launch} {e : Env} {R : Room} {s : State} {m : MethodId} {args : Array Value} {below : List Frame} {meth : Method} {c : Code} {T : State} {locs : List Loc} {cells slots : Nat}
theorem ax_caught (X : Stand p l e R s m args below meth c T locs cells slots) {own C : String} {x : ExceptionTableEntry} {rest : List ExceptionTableEntry} {g : JFrame} (hg : g.method = m) (htab : c.exceptionTable.toList = x :: rest) (hx : covers x g.pc = true) (h0 : x.catchType ≠ 0)
    (hown : s.vm.findClass own = some m.cls) (hlink : (Jvm.Cond.classLink own x.catchType C).before args s = true) {a : Addr} {cell : Cell} (hcell : T.heap[a]? = some cell) (hvm : cell.vm = .none) (hcls : s.vm.findClass C = some cell.cls) :
    ∃ vm' : Vm, s.WarmedH vm' ∧ Stand p l e R s m args below meth c (T.setVm vm') locs cells slots ∧ ∀ tg, Steps p.tables e below ((T.setVm vm').setTop { g with pc := x.handlerPc, stack := [.ref a] }) tg → Steps p.tables e below ((T.setTop g).pushFrame (.throwing a)) tg := by
  subst hg
  have hpl : e.platform.magicAccessors = ({} : Platform).magicAccessors := by rw [X.admits.platform]
  obtain ⟨cX, hfc, hcl⟩ := Cond.classLink_spec hown hlink e.platform hpl
  cases hcls.symm.trans hfc
  obtain ⟨hg1, hw1, hr1⟩ := State.classEntry (e := e) X.warmed hcl
  generalize T.vm.noted g.method.cls x.catchType (.cls cell.cls) = vm₁ at hg1 hw1 hr1
  have hal : T.vm.Alike vm₁ := X.warmed.alike.symm.trans hw1.alike
  obtain ⟨kX, hkX, -⟩ := Vm.findClass_spec hcls
  obtain ⟨kX1, hkX1, -⟩ := hw1.alike.2.2 _ _ hkX
  refine ⟨vm₁, hw1, X.noted hw1, fun tg htg => ?_⟩
  have h : At T g.method c below := X.here
  have hfind := ax_findCold (e := e) (s := (T.setTop g).pushFrame (.throwing a)) (f := g) (a := a) (meth := meth) (code := c) (by rw [throwing_vm]; exact X.method') X.code htab hx h0 (by rw [throwing_vm]; exact hg1) (by rw [throwing_vm, hal.2.1]; exact Nat.le_refl _) (by rw [throwing_heap]; exact hcell) (fun k hk => by rw [hvm] at hk; cases hk) ⟨_, hkX1⟩ ⟨_, hkX1⟩ (by show vm₁.assignableAux (255 + 1) cell.cls cell.cls = true; rw [Vm.assignableAux, Bool.or_eq_true, beq_iff_eq]; exact Or.inl rfl)
  obtain ⟨hgo, hw⟩ := h.throwing a
  refine Steps.head hgo hw ?_
  rw [stepThread_throwing (frames_entered h.top _), (ax_stepCatch (s := (T.setTop g).pushFrame (.throwing a)) hfind).1]
  obtain ⟨g₀, hg0⟩ := Option.isSome_iff_exists.mp h.top
  obtain ⟨r, hr⟩ := State.topJava?_eq_some.mp hg0
  have hr' : (T.setVm vm₁).frames = .java g₀ :: r := hr
  rw [State.setTop_of_frames _ hr'] at htg
  rw [State.pushFrame, State.setTop_of_frames _ hr, State.setFrames_setFrames, hr]
  have e1 : ∀ F : List Frame, (T.setFrames F).setVm vm₁ = (T.setVm vm₁).setFrames F := fun _ => rfl
  rw [e1, State.setFrames_setFrames]
  exact htg
end AX3c
end
section
/-! a call of a method that throws -/
section AX3d
variable {p : Program} {l : Launch} {e : Env} {R : Room} {s : State} {m : MethodId} {sargs : Array Value} {below : List Frame} {meth : Method} {c : Code} {U : State} {locs : List Loc} {cells slots : Nat}
theorem ax_backT {y : MethodName} {S : Spec} {P : Array Value → State → Prop} {Q : Array Value → State → Outcome → State → Prop} {k n maxL len : Nat} {ig : Instr} {bytes : ByteArray} {ret : Option FieldType} {g : JFrame} {mk : MethodId} {a : Array Value}
    (hM : MetFree l y S P (fun _ _ _ _ _ => True) Q) (hQ : ∀ a st o t, Q a st o t → ∃ x, o = .threw x ∧ st.WarmedH t.vm ∧ st.sameButNew ({ t with vm := st.vm } : State) [] k n)
    (X : Stand p l e R s m sargs below meth c U locs cells slots) (hg : g.method = m) (hsize : g.locals.size = c.maxLocals) (hdg : decode c.code g.pc = .ok (ig, len)) (hframes : S.room.frames + 1 ≤ R.frames) (hlocals : 2 * g.monitorRoom + (g.stack.map fun v => v.category).sum + (maxL + 11) + S.room.locals ≤ R.locals)
    (hn : U.methodNamed? y = some mk) (h1 : S.pre.before a U = true) (h2 : (Jvm.Cond.code y bytes maxL ret).before a U = true) (h3 : (Jvm.Cond.initialized y.cls).before a U = true) (h4 : cells + S.room.cells ≤ R.cells) (h5 : slots + S.room.slots ≤ R.slots) (hP : P a (U.calling g mk a)) :
    ∃ (x : Addr) (t T' : State), Q a (U.calling g mk a) (.threw x) t ∧ T'.heap = t.heap ∧ T'.vm = t.vm ∧ Stand p l e R s m sargs below meth c T' locs (cells + k) (slots + n) ∧ Steps p.tables e below (doInvoke e (U.setTop g) [] mk a).1 ((T'.setTop g).pushFrame (.throwing x)) := by
  subst hg
  obtain ⟨methY, cY, hmY, hcY, -, hlY, -, -, -, -⟩ := Cond.code_spec hn h2
  obtain ⟨kY, hkY, -⟩ := className_of_methodNamed hn
  have hinitY : kY.init = .initialized := Cond.initialized_spec (findClass_of_methodNamed hn) hkY h3
  have h : At U g.method c below := X.here
  have happ : S.appliesLoose y e.platform (U.calling g mk a) = true :=
    Spec.appliesLoose_calling (g := g) h hdg hn hkY hinitY (X.room_calling (g := g) (R' := S.room) hsize hmY hcY hframes (by rw [hlY]; omega) h4 h5) h1
  obtain ⟨mid, hmid⟩ := h.above
  have hfr : (U.setTop g).frames = (.java g :: mid) ++ below := by rw [State.frames_setTop' g h.top, hmid]; rfl
  obtain ⟨o, s₂, hsteps, -, hend, hq⟩ := Steps.callFree hM p X.admits X.cas X.clock (acts := []) hfr happ hP trivial
  have hq' : Q a (U.calling g mk a) o s₂ := hq
  obtain ⟨x, rfl, hW₂, e2, q2, q3, q4, q5, q6⟩ := hQ _ _ _ _ hq'
  have hW' : U.WarmedH s₂.vm := hW₂
  have e3 : s₂ = ({ (U.calling g mk a).setFrames s₂.frames with heap := s₂.heap, slotsUsed := s₂.slotsUsed } : State).setVm s₂.vm := by
    have q : s₂ = ({ s₂ with vm := (U.calling g mk a).vm } : State).setVm s₂.vm := rfl
    rw [e2] at q
    exact q
  have hf₂ : s₂.frames = .throwing x :: (U.setTop g).frames := hend
  rw [State.frames_setTop' g h.top] at hf₂
  obtain ⟨g₀, hg0⟩ := Option.isSome_iff_exists.mp h.top
  obtain ⟨r, hr⟩ := State.topJava?_eq_some.mp hg0
  have hr' : (({ U with heap := s₂.heap, slotsUsed := s₂.slotsUsed } : State).setVm s₂.vm).frames = .java g₀ :: r := hr
  have hs₂ : s₂ = ((({ U with heap := s₂.heap, slotsUsed := s₂.slotsUsed } : State).setVm s₂.vm).setTop g).pushFrame (.throwing x) := by
    refine e3.trans ?_
    rw [hf₂, State.calling_eq h.top, State.setFrames_setFrames, State.pushFrame, State.frames_setTop _ hr', State.setTop_of_frames _ hr', State.setFrames_setFrames, hr]
    rfl
  have hsame : U.sameButNew ({ U with heap := s₂.heap, slotsUsed := s₂.slotsUsed } : State) [] k n := by
    refine ⟨?_, q2, q3, q4, q5, q6⟩
    obtain ⟨t, ht, -⟩ := State.frames_cons hr
    show ({ U with heap := s₂.heap, slotsUsed := s₂.slotsUsed } : State) = { U.setFrames U.frames with heap := s₂.heap, slotsUsed := s₂.slotsUsed }
    rw [State.setFrames_self ht]
  have hS : s.sameButNew ((({ U with heap := s₂.heap, slotsUsed := s₂.slotsUsed } : State).setVm s₂.vm).setVm s.vm) (locs ++ []) (cells + k) (slots + n) := X.same.trans (hsame.setVm s.vm)
  rw [List.append_nil] at hS
  refine ⟨x, s₂, (({ U with heap := s₂.heap, slotsUsed := s₂.slotsUsed } : State).setVm s₂.vm), hq', rfl, rfl,
    ⟨X.admits, X.cas, X.clock, X.frames, X.room, X.hears, X.method, X.code, (X.here.setHeapUsed s₂.heap s₂.slotsUsed).setVm hW'.alike, X.tail, State.WarmedH.trans X.warmed hW', X.limits, X.bytes, hS⟩, ?_⟩
  rw [← hs₂]
  exact hsteps
end AX3d
end
section
/-- the contract of a call that throws -/
def ax_KT (TB : List Jvm.Cond) (T : ax_T) (D : va_G) (tA : Nat → ClassId) (b : Nat) (as : Nat → Nat) (l : Launch) (d mi : Nat) (av : List Value) (h : ax_H) (n : Nat) (h1 : ax_H) : Prop :=
  (h1.2.1 = h.2.1 + 1 ∧ h1.2.2.1 = h.2.2.1 + 6 ∧ h1.2.2.2 = h.2.2.2) ∧ MetFree l (ax_nm T mi) (headSpec (ax_w TB T mi) (ax_rm d 1 6)) (va_Pc (av.map (ax_tv as)) (fun U => ax_R b as D (ax_cl T) tA h U.heap ∧ va_K D (ax_cl T) (ax_tys tA T) U ∧ ax_ro b as T U U.heap)) (fun _ _ _ _ _ => True)
    (fun _ st o t => o = .threw (as (h1.2.1 - 1)) ∧ st.WarmedH t.vm ∧ st.sameButNew ({ t with vm := st.vm } : State) [] 1 6 ∧ ax_R b as D (ax_cl T) tA h1 t.heap ∧ ∃ ce : Cell, t.heap[as (h1.2.1 - 1)]? = some ce ∧ ce.vm = .none ∧ st.vm.findClass (ax_en n) = some ce.cls)
section AX3e
variable {p : Program} {l : Launch} {e : Env} {R : Room} {s : State} {m : MethodId} {args : Array Value} {below : List Frame} {meth : Method} {c : Code} {H : Heap} {locs : List Loc} {cells slots : Nat} {Q : State → Prop}
variable {pc w : Nat} {b : Nat} {as : Nat → Nat} {a : Array Slot} {ls : ax_L} {T : ax_T} {TB : List Jvm.Cond} {D : va_G} {tA : Nat → ClassId} {mi : Nat} {h : ax_H}
theorem ax_same_of {s t : State} {k n : Nat} (h : s.sameButNew t [] k n) : ∀ q : Nat, q < s.heap.size → t.heap[q]? = s.heap[q]? := by
  intro q hq
  obtain ⟨c', k1, k2, k3, k4⟩ := h.2.2.2.2.2 q _ (Array.getElem?_eq_getElem hq)
  rw [k1, Array.getElem?_eq_getElem hq]
  have k5 : c'.slots = (s.heap[q]).slots := by
    apply Array.ext_getElem?
    intro i
    exact k4 i (fun z => by cases z)
  rw [k5] at k2
  exact congrArg some k2
theorem ax_catchV (hO : ax_ok TB T) (X : ax_X b as TB T D tA mi p s m args meth c) (hl : ax_lr as ls a) (hml : ls.length = ax_mx T mi) {d : Nat} (hRf : d + 9 ≤ R.frames) (hRl : 40 * d + 160 ≤ R.locals) {i : Instr} {st av r : List Value} {mj n pc' : Nat} (hd : decode (ax_code T mi) pc = .ok (i, 3)) (hcv : ax_cv T mi i = true) (hi : ax_inv T mi i st h = some (mj, av, r)) {h1 : ax_H}
    (hM : ax_KT TB T D tA b as l d mj av h n h1) (hh : ax_hd T mi pc n = some pc') (hc : cells + 1 ≤ R.cells) (hs : slots + 6 ≤ R.slots)
    (k : ax_G w b as T D tA p l e R s m args below meth c (cells + 1) (slots + 6) Q h1 pc' a [.ref (h1.2.1 - 1)]) : ax_G w b as T D tA p l e R s m args below meth c cells slots Q h pc a st := by
  intro H locs hR hS hE0
  obtain ⟨hx, hb, hmx, -, -, htab, -, hown, hts, hK, hX, hAs⟩ := X
  have hsize : a.size = ax_mx T mi := by rw [← hml]; exact hl.1
  have hE := hO.2.1 mi
  unfold ax_cv at hcv
  split at hcv
  · rename_i idx
    have hcv : (ax_pl T mi idx).1 = 7 := by simpa using hcv
    simp only [ax_inv] at hi
    split at hi
    · rename_i q r0 hdr
      split at hi
      · rename_i ci fs hq
        split at hi
        · rename_i hk
          obtain ⟨-, hk2, hk3⟩ := hk
          cases hi
          have hE1 := hE idx
          generalize hg : ax_pl T mi idx = x at *
          obtain ⟨x1, mj, nn⟩ := x
          dsimp only at hcv hk2 hk3 hM hdr
          subst hcv
          have hst : st.map (ax_tv as) = (((st.take nn).reverse.map (ax_tv as))).reverse ++ .ref (as q) :: r.map (ax_tv as) := by
            rw [← List.map_reverse, List.reverse_reverse, show (.ref (as q) :: r.map (ax_tv as) : List Value) = (.ref q :: r).map (ax_tv as) from rfl, ← hdr, ← List.map_append, List.take_append_drop]
          have hn2 : nn ≤ st.length := by
            have := congrArg List.length hdr
            simp at this
            omega
          have hlen : ((st.take nn).reverse.map (ax_tv as)).length = nn := by simp; omega
          cases hw : (ax_cl T)[ci]? with
          | none => rw [hw] at hk2; cases hk2
          | some w0 =>
            rw [hw] at hk2
            have hk2 : w0.1 = (ax_nm T mj).cls := by simpa using hk2
            obtain ⟨cellB, hcB, hoB, hclB⟩ : ∃ cell : Cell, H[as q]? = some cell ∧ cell.vm.isStatics = false ∧ s.vm.findClass (ax_nm T mj).cls = some cell.cls := by
              rw [← hk2]
              exact va_recv hK (hR.at hq) hw (q0 := 0) rfl
            simp only [ax_okE] at hE1
            obtain ⟨g1, g2, g3, g4, g5, hm⟩ := hE1
            have hcode := hts _ hm.2.1
            have hgood := ax_words hO hts (mj := mj) (by rw [ax_cd_n hm.1]; exact hm.2.1)
            have hlink := hts _ g1
            have hinst := hts _ g2
            have hsel := hts _ g3
            intro U hU Z
            obtain ⟨mk, methM, hnamed, hmethM, hstM, habM⟩ := Cond.instanceMethod_spec hinst
            obtain ⟨methM', cM, hmethM', -, -, -, -, -, -, hsigM⟩ := Cond.code_spec hnamed hcode
            cases hmethM.symm.trans hmethM'
            obtain ⟨c2, r2, m2, q1, q2, q3, q4, kP, hkP, hkPi⟩ := Cond.selects_spec hsel
            cases hclB.symm.trans q1
            cases (State.methodFound?_of_named hnamed ⟨hm.2.2.2.1, hm.2.2.2.2⟩).symm.trans q2
            cases hnamed.symm.trans q3
            have hselP : selectMethod e.platform s.vm cellB.cls mk = .method mk := by rw [Launch.admits_selectMethod Z.admits]; exact q4
            have hln : ((st.take nn).reverse.map (ax_tv as)).length = methM.sig.parameters.length := by
              rw [hlen]
              rw [hsigM] at g5
              exact (Option.some.inj g5).symm
            obtain ⟨vm₁, Z₁, hstep₁⟩ := Z.invokevirtual hx hown hlink hnamed hmethM hstM hkP hkPi ⟨hm.2.2.2.1, hm.2.2.2.2⟩ (a := as q) (cell := cellB) (by rw [hU]; exact hcB)
              (fun z hz => by rw [hz] at hoB; cases hoB) hselP hmethM habM hkP hkPi (g := F0 m pc a (st.map (ax_tv as))) rfl (argsL := (st.take nn).reverse.map (ax_tv as)) (rest := r.map (ax_tv as)) hln hst (by rw [hb]; exact hd)
            obtain ⟨x, t, T', hq', e1, e2, Z', hsteps⟩ := ax_backT (bytes := ax_code T mj) (maxL := ax_mx T mj) (ret := ax_rt T mj) (a := (Value.ref (as q) :: (st.take nn).reverse.map (ax_tv as)).toArray) hM.2 (fun _ _ _ _ hq => ⟨_, hq.1, hq.2.1, hq.2.2.1⟩) Z₁ (g := { F0 m pc a (st.map (ax_tv as)) with stack := r.map (ax_tv as) }) rfl (by rw [hmx]; exact hsize) (by rw [hb]; exact hd) (by show d + 8 + 1 ≤ R.frames; omega) (by
              show 2 * 0 + ((r.map (ax_tv as)).map fun v => v.category).sum + (ax_mx T mj + 11) + (40 * d + 120) ≤ R.locals
              rw [ax_wsum]
              have := hm.2.2.1
              omega) (Z₁.named hnamed) (atoms_intro fun w hw => hgood w hw _ _ Z₁.warmed) (hO.2.2.2.2 _ hm.2.1 _ _ _ _ Z₁.warmed hcode) (word_at Z₁.warmed (Or.inl (by first | rfl | simp [Cond.onTables, Cond.keeps, Cond.steady])) (hts _ g4)) hc hs (by
              refine ax_blind T D tA b as (.ref q :: (st.take nn).reverse) h _ _ _ _ ⟨rfl, ?_, va_K.moved Z₁.warmed.alike hK, ?_⟩
              · show ax_R b as D (ax_cl T) tA h U.heap
                rw [hU]; exact hR
              · show ax_ro b as T _ U.heap
                rw [hU]; exact ax_ro.moved Z₁.warmed.alike (hX.kept hAs hS.2.1))
            obtain ⟨hx1, hwx, hsx, hRx, ce, hce, hcv1, hcv2⟩ := hq'
            cases hx1
            unfold ax_hd at hh
            split at hh
            · rename_i y ys hys
              split at hh
              · rename_i hy
                obtain ⟨y1, y2, y3, y4⟩ := hy
                cases hh
                rw [hys] at htab
                obtain ⟨x0, t0, hx0, hx0y⟩ : ∃ x0 t0, c.exceptionTable.toList = x0 :: t0 ∧ (x0.startPc, x0.endPc, x0.handlerPc, x0.catchType) = y := by
                  cases hl0 : c.exceptionTable.toList with
                  | nil => rw [hl0] at htab; cases htab
                  | cons x0 t0 => rw [hl0] at htab; exact ⟨x0, t0, rfl, (List.cons.inj htab).1⟩
                subst hx0y
                have hE2 := hE x0.catchType
                dsimp only at y1 y2 y3 y4
                rw [y4] at hE2
                simp only [ax_okE] at hE2
                have hfc : s.vm.findClass (ax_en n) = some ce.cls := by
                  have hal : s.vm.Alike vm₁ := Z₁.warmed.alike
                  have h0 : vm₁.findClass (ax_en n) = some ce.cls := hcv2
                  rw [← hal.findClass]
                  exact h0
                obtain ⟨vm', hw', Z2, hst2⟩ := ax_caught Z' (g := { F0 m pc a (st.map (ax_tv as)) with stack := r.map (ax_tv as) }) rfl hx0 (by simp [covers, y1, y2]) y3 hown (hts _ hE2) (by rw [e1]; exact hce) hcv1 hfc
                have hTH : ∀ q : Nat, q < H.size → t.heap[q]? = H[q]? := by
                  intro q hq
                  have := ax_same_of hsx q (by show q < U.heap.size; rw [hU]; exact hq)
                  have h3 : t.heap[q]? = U.heap[q]? := this
                  rw [h3, hU]
                have hTz : H.size ≤ t.heap.size := by
                  have h3 : U.heap.size ≤ t.heap.size := hsx.2.1
                  rw [hU] at h3
                  exact h3
                obtain ⟨t9, s9, q9⟩ := k t.heap locs hRx ⟨Nat.le_trans hS.1 hTz, fun q hq1 hq2 => by rw [hTH q (Nat.lt_of_lt_of_le hq1 hS.1)]; exact hS.2.1 q hq1 hq2, hS.2.2⟩ ⟨by rw [hM.1.2.2]; exact hE0.1, fun hq z hz => by
                  rw [hM.1.2.2] at hq
                  rw [hTH z (Nat.lt_of_lt_of_le hz hS.1)]
                  exact hE0.2 hq z hz⟩ (T'.setVm vm') e1 Z2
                exact ⟨t9, hstep₁ _ fun acts => by rw [doInvoke_state]; exact hsteps.trans (hst2 _ s9), q9⟩
              · cases hh
            · cases hh
        · cases hi
      · cases hi
    · cases hi
  · cases hcv
end AX3e
end
section
section AX4
variable {p : Program} {l : Launch} {e : Env} {R : Room} {s : State} {m : MethodId} {args : Array Value} {below : List Frame} {meth : Method} {c : Code} {H : Heap} {locs : List Loc} {cells slots : Nat} {Q : State → Prop}
variable {pc w : Nat} {b : Nat} {as : Nat → Nat} {a : Array Slot} {ls : ax_L} {T : ax_T} {TB : List Jvm.Cond} {D : va_G} {tA : Nat → ClassId} {mi : Nat} {h : ax_H}
theorem ax_ald_mono {i : Instr} {j : Int32} {q pc' : Nat} {r st' : List Value} {ls' : ax_L} {h' : ax_H} (hp : ax_ald T i j q pc ls r h = some (pc', ls', st', h')) : ls' = ls ∧ h.2.1 ≤ h'.2.1 ∧ h.2.2.1 ≤ h'.2.2.1 := by
  unfold ax_ald at hp
  split at hp
  · unfold ax_scr at hp
    split at hp
    · split at hp
      · split at hp
        · cases hp
        · cases hp; exact ⟨rfl, Nat.le_refl _, Nat.le_refl _⟩
      · cases hp
    · cases hp
  · split at hp
    · split at hp
      · cases hp
      · split at hp <;> cases hp <;> exact ⟨rfl, Nat.le_refl _, Nat.le_refl _⟩
    · cases hp
theorem ax_mem_mono {i : Instr} {st st' : List Value} {pc' : Nat} {ls' : ax_L} {h' : ax_H} (hp : ax_mem T mi i pc ls st h = some (pc', ls', st', h')) : ls' = ls ∧ h.2.1 ≤ h'.2.1 ∧ h.2.2.1 ≤ h'.2.2.1 := by
  unfold ax_mem at hp
  split at hp
  · unfold ax_getf at hp
    split at hp
    · split at hp
      · rw [Option.map_eq_some_iff] at hp
        obtain ⟨v, -, hv⟩ := hp
        cases hv
        exact ⟨rfl, Nat.le_refl _, Nat.le_refl _⟩
      · cases hp
    · cases hp
  · unfold ax_putf at hp
    split at hp
    · split at hp
      · cases hp; exact ⟨rfl, Nat.le_refl _, Nat.le_refl _⟩
      · cases hp
    · cases hp
  iterate 4 · exact ax_ald_mono hp
  iterate 4
    · unfold ax_ast at hp
      split at hp
      · split at hp
        · cases hp
        · split at hp
          · cases hp; exact ⟨rfl, Nat.le_refl _, Nat.le_refl _⟩
          · cases hp; exact ⟨rfl, Nat.le_refl _, Nat.le_refl _⟩
          · cases hp; exact ⟨rfl, Nat.le_refl _, Nat.le_refl _⟩
          · split at hp
            · split at hp
              · cases hp; exact ⟨rfl, Nat.le_refl _, Nat.le_refl _⟩
              · cases hp
            · cases hp
          · cases hp
      · cases hp
  · unfold ax_alen at hp
    split at hp
    · rw [Option.map_eq_some_iff] at hp
      obtain ⟨q9, hq9, hp⟩ := hp
      cases hp; exact ⟨rfl, Nat.le_refl _, Nat.le_refl _⟩
    · split at hp
      · split at hp
        · cases hp; exact ⟨rfl, Nat.le_refl _, Nat.le_refl _⟩
        · cases hp
      · cases hp
  · unfold ax_newa at hp
    split at hp
    · cases hp
    · split at hp <;> cases hp <;> exact ⟨rfl, Nat.le_succ _, Nat.le_add_right _ _⟩
  · unfold ax_anew at hp
    split at hp
    · cases hp
    · split at hp
      · split at hp
        · split at hp
          · cases hp; exact ⟨rfl, Nat.le_succ _, Nat.le_add_right _ _⟩
          · cases hp
        · cases hp
      · cases hp
  · unfold ax_new at hp
    split at hp
    · cases hp; exact ⟨rfl, Nat.le_succ _, Nat.le_add_right _ _⟩
    · cases hp
  · unfold ax_ldc2 at hp
    split at hp
    · cases hp; exact ⟨rfl, Nat.le_refl _, Nat.le_refl _⟩
    · cases hp
  · unfold ax_oini at hp
    split at hp
    · cases hp; exact ⟨rfl, Nat.le_refl _, Nat.le_refl _⟩
    · cases hp
  · cases hp
theorem ax_mem_ok (hO : ax_ok TB T) (X : ax_X b as TB T D tA mi p s m args meth c) (hl : ax_lr as ls a) (hml : ls.length = ax_mx T mi) (hRf : 1 ≤ R.frames) (hRl : 20 ≤ R.locals) {i : Instr} {st st' : List Value} {pc' : Nat} {ls' : ax_L} {h' : ax_H} (hd : decode (ax_code T mi) pc = .ok (i, ax_ml i)) (hp : ax_mem T mi i pc ls st h = some (pc', ls', st', h'))
    (hc : cells + (h'.2.1 - h.2.1) ≤ R.cells) (hs : slots + (h'.2.2.1 - h.2.2.1) ≤ R.slots)
    (k : ax_G w b as T D tA p l e R s m args below meth c (cells + (h'.2.1 - h.2.1)) (slots + (h'.2.2.1 - h.2.2.1)) Q h' pc' a st') : ax_G w b as T D tA p l e R s m args below meth c cells slots Q h pc a st := by
  have same : (h'.2.1 = h.2.1 ∧ h'.2.2.1 = h.2.2.1) → ax_G w b as T D tA p l e R s m args below meth c cells slots Q h' pc' a st' := by
    intro q
    rw [q.1, q.2, Nat.sub_self, Nat.sub_self] at k
    exact k
  have same' : h' = h → ax_G w b as T D tA p l e R s m args below meth c cells slots Q h' pc' a st' := fun q => same ⟨by rw [q], by rw [q]⟩
  unfold ax_mem at hp
  split at hp
  · exact ax_getf_ok hO.1 hO.2.1 X hd hp (fun _ => same')
  · exact ax_putf_ok hO.1 hO.2.1 X hd hp (fun _ => same)
  · exact ax_ald_ok X hd hp (fun _ => same')
  · exact ax_ald_ok X hd hp (fun _ => same')
  · exact ax_ald_ok X hd hp (fun _ => same')
  · exact ax_ald_ok X hd hp (fun _ => same')
  · exact ax_ast_ok X hd hp (fun _ => same)
  · exact ax_ast_ok X hd hp (fun _ => same)
  · exact ax_ast_ok X hd hp (fun _ => same)
  · exact ax_ast_ok X hd hp (fun _ => same)
  · exact ax_alen_ok X hd hp (fun _ => same')
  · exact ax_newa_ok hO.2.2.1 X hd hp hc hs (fun _ _ _ => k)
  · exact ax_anew_ok hO.2.2.1 hO.2.1 X hd hp hc hs (fun _ _ _ => k)
  · exact ax_new_ok hO.1 hO.2.1 X hd hp hc hs (fun _ _ _ => k)
  · exact ax_ldc2_ok hO.2.1 X hd hp (fun _ => same')
  · exact ax_oini_ok hO.2.1 X hl hml hRf hRl hd hp (fun _ => same')
  · cases hp
theorem ax_thr_mono {i : Instr} {st : List Value} {o : ax_O} (h0 : ax_thr T mi i pc st h = some o) : (∃ x, o = (.inr x, ax_one h)) ∧ h.2.1 ≤ o.2.2.1 ∧ h.2.2.1 ≤ o.2.2.2.1 := by
  unfold ax_thr at h0
  split at h0
  · split at h0
    · split at h0
      · cases h0; exact ⟨⟨_, rfl⟩, Nat.le_succ _, Nat.le_add_right _ _⟩
      · cases h0
    · cases h0
  · cases h0
theorem ax_loop_mono {cf : Nat → List Value → ax_H → Option ax_O} (hcf : ∀ mj av h o, cf mj av h = some o → h.2.1 ≤ o.2.2.1 ∧ h.2.2.1 ≤ o.2.2.2.1) :
    ∀ (n pc : Nat) (ls : ax_L) (st : List Value) (h : ax_H) (o : ax_O), ax_loop T cf mi n pc ls st h = some o → h.2.1 ≤ o.2.2.1 ∧ h.2.2.1 ≤ o.2.2.2.1 := by
  intro n
  induction n with
  | zero => intro pc ls st h o hr; cases hr
  | succ n ih =>
    intro pc ls st h o hr
    rw [ax_loop] at hr
    split at hr
    · split at hr
      · exact ih _ _ _ _ _ hr
      · split at hr
        · split at hr
          · rename_i hp
            obtain ⟨-, m1, m2⟩ := ax_mem_mono hp
            obtain ⟨g1, g2⟩ := ih _ _ _ _ _ hr
            exact ⟨Nat.le_trans m1 g1, Nat.le_trans m2 g2⟩
          · split at hr
            · split at hr
              · rename_i hcall
                obtain ⟨m1, m2⟩ := hcf _ _ _ _ hcall
                obtain ⟨g1, g2⟩ := ih _ _ _ _ _ hr
                exact ⟨Nat.le_trans m1 g1, Nat.le_trans m2 g2⟩
              · rename_i hcall
                obtain ⟨m1, m2⟩ := hcf _ _ _ _ hcall
                split at hr
                · split at hr
                  · obtain ⟨g1, g2⟩ := ih _ _ _ _ _ hr
                    exact ⟨Nat.le_trans m1 g1, Nat.le_trans m2 g2⟩
                  · cases hr
                · cases hr
              · cases hr
            · split at hr
              · rename_i ht
                cases hr
                exact (ax_thr_mono ht).2
              · cases hv : ax_ret (ax_rt T mi) _ st with
                | none => rw [hv] at hr; cases hr
                | some w => rw [hv] at hr; cases hr; exact ⟨Nat.le_refl _, Nat.le_refl _⟩
        · cases hr
    · cases hr
theorem ax_call_spec {d n mi : Nat} {av : List Value} {h : ax_H} {o : ax_O} (hr : ax_call T (d + 1) n mi av h = some o) : (ax_sl av).length ≤ ax_mx T mi ∧ ax_loop T (ax_call T d n) mi n 0 (ax_entry T mi av) [] h = some o ∧ ax_fit1 h o = true := by
  rw [ax_call] at hr
  split at hr
  · rename_i hl
    rw [Option.filter_eq_some_iff] at hr
    exact ⟨hl, hr.1, hr.2⟩
  · cases hr
theorem ax_call_mono : ∀ (d n mi : Nat) (av : List Value) (h : ax_H) (o : ax_O), ax_call T d n mi av h = some o → h.2.1 ≤ o.2.2.1 ∧ h.2.2.1 ≤ o.2.2.2.1 := by
  intro d
  induction d with
  | zero => intro n mi av h o hr; cases hr
  | succ d ih =>
    intro n mi av h o hr
    exact ax_loop_mono (ih n) _ _ _ _ _ _ (ax_call_spec hr).2.1
/-- a run of a method's body is the machine's: from here to the instruction that returns, or to the one that throws -/
theorem ax_loop_ok (hO : ax_ok TB T) (X : ax_X b as TB T D tA mi p s m args meth c) {d : Nat} (hRf : d + 9 ≤ R.frames) (hRl : 40 * d + 160 ≤ R.locals) {cf : Nat → List Value → ax_H → Option ax_O}
    (hcm : ∀ mj av h o, cf mj av h = some o → h.2.1 ≤ o.2.2.1 ∧ h.2.2.1 ≤ o.2.2.2.1) (hcf : ∀ mj av h v h1, cf mj av h = some (.inl v, h1) → ax_K TB T D tA b as l d mj av h v h1) (hct : ∀ mj av h x h1, cf mj av h = some (.inr x, h1) → ax_KT TB T D tA b as l d mj av h x h1) :
    ∀ (n pc : Nat) (ls : ax_L) (st : List Value) (h : ax_H) (o : ax_O), ax_loop T cf mi n pc ls st h = some o →
      ∀ (cells slots : Nat) (a : Array Slot), ls.length = ax_mx T mi → ax_lr as ls a → cells + (o.2.2.1 - h.2.1) ≤ R.cells → slots + (o.2.2.2.1 - h.2.2.1) ≤ R.slots →
        (∀ (v : Option Value), o.1 = .inl v → ∀ (pc' : Nat) (a' : Array Slot) (i : Instr), decode (ax_code T mi) pc' = .ok (i, ax_ml i) → ax_ret (ax_rt T mi) i v.toList = some v → ax_G w b as T D tA p l e R s m args below meth c (cells + (o.2.2.1 - h.2.1)) (slots + (o.2.2.2.1 - h.2.2.1)) Q o.2 pc' a' v.toList) →
        (∀ (pc' : Nat) (ls' : ax_L) (a' : Array Slot) (st' : List Value) (i : Instr) (h8 : ax_H), decode (ax_code T mi) pc' = .ok (i, ax_ml i) → ax_thr T mi i pc' st' h8 = some o → ls'.length = ax_mx T mi → ax_lr as ls' a' → h.2.1 ≤ h8.2.1 → h.2.2.1 ≤ h8.2.2.1 → ax_G w b as T D tA p l e R s m args below meth c (cells + (h8.2.1 - h.2.1)) (slots + (h8.2.2.1 - h.2.2.1)) Q h8 pc' a' st') →
        ax_G w b as T D tA p l e R s m args below meth c cells slots Q h pc a st := by
  intro n
  induction n with
  | zero => intro pc ls st h o hr; cases hr
  | succ n ih =>
    intro pc ls st h o hr
    rw [ax_loop] at hr
    split at hr
    · rename_i i len hd
      split at hr
      · rename_i pc' ls' st' hp
        have g3 := ih _ _ _ _ _ hr
        intro cells slots a hml hl hc hs fin fit H locs hR hS hE0
        exact ax_pure_ok X.1 X.2.1 hd hp hl (fun a' hl' hlen => g3 cells slots a' (hlen.trans hml) hl' hc hs fin fit H locs hR hS hE0)
      · split at hr
        · rename_i hlen
          subst hlen
          split at hr
          · rename_i pc' ls' st' h' hp
            obtain ⟨rfl, m1, m2⟩ := ax_mem_mono hp
            have g3 := ih _ _ _ _ _ hr
            obtain ⟨g1, g2⟩ := ax_loop_mono hcm _ _ _ _ _ _ hr
            intro cells slots a hml hl hc hs fin fit
            refine ax_mem_ok hO X hl hml (by omega) (by omega) hd hp (by omega) (by omega) (g3 _ _ a hml hl (by omega) (by omega) ?_ ?_)
            · rw [show cells + (h'.2.1 - h.2.1) + (o.2.2.1 - h'.2.1) = cells + (o.2.2.1 - h.2.1) by omega, show slots + (h'.2.2.1 - h.2.2.1) + (o.2.2.2.1 - h'.2.2.1) = slots + (o.2.2.2.1 - h.2.2.1) by omega]
              exact fin
            · intro pc9 ls9 a9 st9 i9 h8 k1 k2 k3 k4 k5 k6
              rw [show cells + (h'.2.1 - h.2.1) + (h8.2.1 - h'.2.1) = cells + (h8.2.1 - h.2.1) by omega, show slots + (h'.2.2.1 - h.2.2.1) + (h8.2.2.1 - h'.2.2.1) = slots + (h8.2.2.1 - h.2.2.1) by omega]
              exact fit pc9 ls9 a9 st9 i9 h8 k1 k2 k3 k4 (by omega) (by omega)
          · split at hr
            · rename_i mj av r hi
              have hd3 : decode (ax_code T mi) pc = .ok (i, 3) := by
                have : ax_ml i = 3 := by
                  unfold ax_inv at hi
                  split at hi
                  · rfl
                  · rfl
                  · rfl
                  · cases hi
                rw [← this]; exact hd
              split at hr
              · rename_i v h' hcall
                obtain ⟨m1, m2⟩ := hcm _ _ _ _ hcall
                dsimp only at m1 m2
                have hM := hcf _ _ _ _ _ hcall
                have g3 := ih _ _ _ _ _ hr
                obtain ⟨g1, g2⟩ := ax_loop_mono hcm _ _ _ _ _ _ hr
                intro cells slots a hml hl hc hs fin fit
                refine ax_inv_ok hO X hl hml hRf hRl hd3 hi hM (by omega) (by omega) (g3 _ _ a hml hl (by omega) (by omega) ?_ ?_)
                · rw [show cells + (h'.2.1 - h.2.1) + (o.2.2.1 - h'.2.1) = cells + (o.2.2.1 - h.2.1) by omega, show slots + (h'.2.2.1 - h.2.2.1) + (o.2.2.2.1 - h'.2.2.1) = slots + (o.2.2.2.1 - h.2.2.1) by omega]
                  exact fin
                · intro pc9 ls9 a9 st9 i9 h8 k1 k2 k3 k4 k5 k6
                  rw [show cells + (h'.2.1 - h.2.1) + (h8.2.1 - h'.2.1) = cells + (h8.2.1 - h.2.1) by omega, show slots + (h'.2.2.1 - h.2.2.1) + (h8.2.2.1 - h'.2.2.1) = slots + (h8.2.2.1 - h.2.2.1) by omega]
                  exact fit pc9 ls9 a9 st9 i9 h8 k1 k2 k3 k4 (by omega) (by omega)
              · rename_i x h' hcall
                split at hr
                · rename_i hcv
                  split at hr
                  · rename_i pc' hh
                    have hM := hct _ _ _ _ _ hcall
                    obtain ⟨e1, e2, e3⟩ := hM.1
                    have g3 := ih _ _ _ _ _ hr
                    obtain ⟨g1, g2⟩ := ax_loop_mono hcm _ _ _ _ _ _ hr
                    intro cells slots a hml hl hc hs fin fit
                    refine ax_catchV hO X hl hml hRf hRl hd3 hcv hi hM hh (by omega) (by omega) (g3 _ _ a hml hl (by omega) (by omega) ?_ ?_)
                    · rw [show cells + 1 + (o.2.2.1 - h'.2.1) = cells + (o.2.2.1 - h.2.1) by omega, show slots + 6 + (o.2.2.2.1 - h'.2.2.1) = slots + (o.2.2.2.1 - h.2.2.1) by omega]
                      exact fin
                    · intro pc9 ls9 a9 st9 i9 h8 k1 k2 k3 k4 k5 k6
                      rw [show cells + 1 + (h8.2.1 - h'.2.1) = cells + (h8.2.1 - h.2.1) by omega, show slots + 6 + (h8.2.2.1 - h'.2.2.1) = slots + (h8.2.2.1 - h.2.2.1) by omega]
                      exact fit pc9 ls9 a9 st9 i9 h8 k1 k2 k3 k4 (by omega) (by omega)
                  · cases hr
                · cases hr
              · cases hr
            · split at hr
              · rename_i o' ht
                cases hr
                intro cells slots a hml hl hc hs fin fit
                have := fit pc ls a st i h hd ht hml hl (Nat.le_refl _) (Nat.le_refl _)
                rw [Nat.sub_self, Nat.sub_self] at this
                exact this
              · cases hv : ax_ret (ax_rt T mi) i st with
                | none => rw [hv] at hr; cases hr
                | some v =>
                  rw [hv] at hr
                  cases hr
                  intro cells slots a hml hl hc hs fin fit
                  have hst : st = v.toList := by
                    unfold ax_ret at hv
                    split at hv
                    · cases hv; rfl
                    · split at hv
                      · cases hv; rfl
                      · cases hv
                    · cases hv; rfl
                    · cases hv; rfl
                    · cases hv; rfl
                    · cases hv
                  subst hst
                  have := fin v rfl pc a i hd hv
                  rw [Nat.sub_self, Nat.sub_self] at this
                  exact this
        · cases hr
    · cases hr
theorem ax_sl_get (as : Nat → Nat) : ∀ (av : List Value) (i : Nat) (v : Value), (ax_sl av)[i]? = some (some v) → (lg_sl (av.map (ax_tv as)))[i]? = some (.val (ax_tv as v)) := by
  intro av
  induction av with
  | nil => intro i v h; simp [ax_sl] at h
  | cons x av ih =>
    intro i v h
    by_cases hx : x.category = 2
    · have e1 : ax_sl (x :: av) = some x :: none :: ax_sl av := by simp [ax_sl, hx]
      have e2 : lg_sl ((x :: av).map (ax_tv as)) = .val (ax_tv as x) :: .second :: lg_sl (av.map (ax_tv as)) := by simp [lg_sl, ax_tv_cat, hx]
      rw [e1] at h
      rw [e2]
      match i, h with
      | 0, h => simp at h; subst h; rfl
      | 1, h => simp at h
      | i + 2, h => exact ih i v (by simpa using h)
    · have e1 : ax_sl (x :: av) = some x :: ax_sl av := by simp [ax_sl, hx]
      have e2 : lg_sl ((x :: av).map (ax_tv as)) = .val (ax_tv as x) :: lg_sl (av.map (ax_tv as)) := by simp [lg_sl, ax_tv_cat, hx]
      rw [e1] at h
      rw [e2]
      match i, h with
      | 0, h => simp at h; subst h; rfl
      | i + 1, h => exact ih i v (by simpa using h)
theorem ax_sl_len (as : Nat → Nat) (av : List Value) : (lg_sl (av.map (ax_tv as))).length = (ax_sl av).length := by
  induction av with
  | nil => rfl
  | cons x av ih =>
    by_cases hx : x.category = 2
    · simp only [ax_sl, lg_sl, List.map_cons, List.flatMap_cons, ax_tv_cat, hx, if_true, List.length_append] at ih ⊢
      simp only [List.length_cons, List.length_nil]
      omega
    · simp only [ax_sl, lg_sl, List.map_cons, List.flatMap_cons, ax_tv_cat, hx, if_false, List.length_append] at ih ⊢
      simp only [List.length_cons, List.length_nil]
      omega
theorem ax_entry_lr (as : Nat → Nat) (n : Nat) (av : List Value) (hn : (ax_sl av).length ≤ n) : ax_lr as (ax_sl av ++ List.replicate (n - (ax_sl av).length) none) ((lg_sl (av.map (ax_tv as)) ++ List.replicate (n - (lg_sl (av.map (ax_tv as))).length) Slot.unset).toArray) := by
  obtain ⟨h1, h2, -⟩ := lv_entry (av.map (ax_tv as)) (n := n) (by rw [ax_sl_len]; exact hn)
  refine ⟨by rw [h1]; simp; omega, h2, fun i v hv => ?_⟩
  by_cases hi : i < (ax_sl av).length
  · rw [List.getElem?_append_left hi] at hv
    have := ax_sl_get as av i v hv
    rw [List.getElem?_toArray, List.getElem?_append_left (by rw [ax_sl_len]; exact hi)]
    exact this
  · rw [List.getElem?_append_right (by omega), List.getElem?_replicate] at hv
    split at hv <;> cases hv
theorem ax_his {mi : Nat} {args : Array Value} {s : State} {m : MethodId} (h : (ax_cd T mi).before args s = true) (hn : s.methodNamed? (ax_nm T mi) = some m) : ∃ meth c, s.vm.method? m = some meth ∧ meth.code = some c ∧ c.code = ax_code T mi ∧ c.maxLocals = ax_mx T mi ∧ meth.sig.returnType = ax_rt T mi ∧ meth.locks = false ∧ c.exceptionTable.toList.map (fun h => (h.startPc, h.endPc, h.handlerPc, h.catchType)) = ax_hs T mi := by
  by_cases hh : ax_hs T mi = []
  · rw [ax_cd_n hh] at h
    obtain ⟨meth, c, h1, h2, h3, h4, h5, h6, h7, -⟩ := Cond.code_spec hn h
    refine ⟨meth, c, h1, h2, h3, h4, h5, h6, ?_⟩
    rw [hh]
    have : c.exceptionTable = #[] := by simpa using h7
    rw [this]
    rfl
  · rw [ax_cd_c hh] at h
    obtain ⟨m', meth, c, h0, h1, h2, h3, h4, h5, h6, h7, -⟩ := Cond.codeWith_spec h
    cases h0.symm.trans hn
    exact ⟨meth, c, h1, h2, h3, h4, h6, h7, h5⟩
/-- every call of the abstract machine is a contract -/
theorem ax_call_ok (hO : ax_ok TB T) (hAs : ax_As b as) (hfl : l.flags = Jvm.pinnedFlags ++ [Jvm.noTraceFlag]) : ∀ (d n mi : Nat) (av : List Value) (h : ax_H), (∀ (v : Option Value) (h1 : ax_H), ax_call T d n mi av h = some (.inl v, h1) → ax_K TB T D tA b as l d mi av h v h1) ∧ (∀ (x : Nat) (h1 : ax_H), ax_call T d n mi av h = some (.inr x, h1) → ax_KT TB T D tA b as l d mi av h x h1) := by
  intro d
  induction d with
  | zero => intro n mi av h; exact ⟨fun v h1 hr => (by cases hr), fun v h1 hr => (by cases hr)⟩
  | succ d ih =>
    intro n mi av h
    have his : ∀ (rm : Room) (args : Array Value) (s : State) (m : MethodId), (headSpec (ax_w TB T mi) rm).pre.before args s = true → s.methodNamed? (ax_nm T mi) = some m → ∃ meth c, s.vm.method? m = some meth ∧ meth.code = some c ∧ c.code = ax_code T mi ∧ c.maxLocals = ax_mx T mi ∧ meth.sig.returnType = ax_rt T mi ∧ meth.locks = false := by
      intro rm args s m hp hn
      obtain ⟨meth, c, h1, h2, h3, h4, h5, h6, -⟩ := ax_his (T := T) (mi := mi) (atoms_spec (ws := ax_w TB T mi) hp _ List.mem_cons_self) hn
      exact ⟨meth, c, h1, h2, h3, h4, h5, h6⟩
    have mkX : ∀ {rm : Room} {p : Program} {e : Env} {s : State} {m : MethodId} {below : List Frame} {meth : Method} {c : Code} {s₁ : State}, BodyLoose p l (ax_nm T mi) (headSpec (ax_w TB T mi) rm) (ax_code T mi) (ax_mx T mi) (ax_rt T mi) e s m (av.map (ax_tv as)).toArray below meth c s₁ → c.maxLocals = ax_mx T mi → va_K D (ax_cl T) (ax_tys tA T) s → ax_ro b as T s s.heap → ax_X b as TB T D tA mi p s m (av.map (ax_tv as)).toArray meth c := by
      intro rm p e s m below meth c s₁ B hml hK hX
      have hts := atoms_spec (ws := ax_w TB T mi) B.pre
      obtain ⟨meth', c', h1, h2, h3, h4, h5, h6, h7⟩ := ax_his (T := T) (mi := mi) (hts _ List.mem_cons_self) B.named
      cases h1.symm.trans B.method
      cases h2.symm.trans (Stand.of_body B).code
      exact ⟨B.exec, B.bytes, hml, B.returns, B.notSynchronized, h7, fun hq => by rw [(name_of_methodNamed B.named B.method).1]; exact hq, findClass_of_methodNamed B.named, fun w hw => hts w (List.mem_cons_of_mem _ hw), hK, hX, hAs⟩
    refine ⟨fun v h1 hr => ?_, fun x h1 hr => ?_⟩
    · obtain ⟨hsl, hr, -⟩ := ax_call_spec hr
      unfold ax_K Met
      refine MetFree.of_bodyS (code := ax_code T mi) (maxLocals := ax_mx T mi) (ret := ax_rt T mi) (hO.2.2.2.1 mi) (his _) ?_
      intro p e s m args below meth c s₁ B hml hv _
      obtain ⟨rfl, hR, hK, hX⟩ := hv
      have X := mkX B hml hK hX
      have hh0 : s₁.heap = s.heap := by rw [B.state]; rfl
      have K : W p l e (ax_rm (d + 1) (h1.2.1 - h.2.1) (h1.2.2.1 - h.2.2.1)) s m (av.map (ax_tv as)).toArray below meth c s.heap [] 0 0 (MQ below (fun _ st o t => o = .returned (v.map (ax_tv as)) ∧ ax_R b as D (ax_cl T) tA h1 t.heap ∧ va_F (fun q => b ≤ q) st t ∧ ax_E h.2.2.2 h1 st.heap t.heap) (av.map (ax_tv as)).toArray s (h1.2.1 - h.2.1) (h1.2.2.1 - h.2.2.1) (fun q => b ≤ q)) (entryFrame m (av.map (ax_tv as)).toArray (ax_mx T mi)) := by
        rw [lg_entry_eq]
        have g := ax_loop_ok (w := h.2.2.2) (b := b) (as := as) (l := l) (e := e) (R := ax_rm (d + 1) (h1.2.1 - h.2.1) (h1.2.2.1 - h.2.2.1)) (below := below) (Q := MQ below (fun _ st o t => o = .returned (v.map (ax_tv as)) ∧ ax_R b as D (ax_cl T) tA h1 t.heap ∧ va_F (fun q => b ≤ q) st t ∧ ax_E h.2.2.2 h1 st.heap t.heap) (av.map (ax_tv as)).toArray s (h1.2.1 - h.2.1) (h1.2.2.1 - h.2.2.1) (fun q => b ≤ q)) hO X (d := d) (by show d + 9 ≤ d + 1 + 8; omega) (by show 40 * d + 160 ≤ 40 * (d + 1) + 120; omega) (ax_call_mono d n) (fun mj av h v h1 hq => (ih n mj av h).1 v h1 hq) (fun mj av h x h1 hq => (ih n mj av h).2 x h1 hq) n 0 (ax_entry T mi av) [] h (.inl v, h1) hr
        refine g 0 0 _ (by simp [ax_entry]; omega) (ax_entry_lr as _ av hsl) (by show 0 + (h1.2.1 - h.2.1) ≤ h1.2.1 - h.2.1; omega) (by show 0 + (h1.2.2.1 - h.2.2.1) ≤ h1.2.2.1 - h.2.2.1; omega) ?_ ?_ s.heap [] hR va_S.rf ⟨Nat.le_refl _, fun _ _ _ => rfl⟩
        · intro v' hv' pc' a' i hd hv H locs hR' hS hE0
          cases hv'
          rw [Nat.zero_add, Nat.zero_add]
          have hq : ∀ t : State, t.heap = H → s.WarmedH t.vm → (.returned (v.map (ax_tv as)) : Outcome) = .returned (v.map (ax_tv as)) ∧ ax_R b as D (ax_cl T) tA h1 t.heap ∧ va_F (fun q => b ≤ q) s t ∧ ax_E h.2.2.2 h1 s.heap t.heap := fun t ht _ => ⟨rfl, by rw [ht]; exact hR', hS.F ht, by rw [ht]; exact hE0⟩
          have hr0 := X.2.2.2.1
          have hlk := X.2.2.2.2.1
          generalize hrt : ax_rt T mi = rt at *
          generalize hvl : v.toList = vl at *
          unfold ax_ret at hv
          split at hv
          · cases hv
            exact W.vret B.exec B.bytes hr0 hq hS.2.2 hd hlk
          · split at hv
            · rename_i hn
              cases hv
              exact W.zret B.exec B.bytes hr0 hn hq hS.2.2 hd hlk
            · cases hv
          · cases hv
            exact W.lret B.exec B.bytes hr0 hq hS.2.2 hd hlk
          · cases hv
            exact W.aret B.exec B.bytes hr0 (Or.inl ⟨_, rfl⟩) (Or.inr ⟨_, rfl⟩) hq hS.2.2 hd hlk
          · cases hv
            exact W.aret B.exec B.bytes hr0 (Or.inl ⟨_, rfl⟩) (Or.inl rfl) hq hS.2.2 hd hlk
          · cases hv
        · intro pc' ls' a' st' i h8 k1 k2 k3 k4 k5 k6
          obtain ⟨⟨x, hx⟩, -⟩ := ax_thr_mono k2
          cases hx
      obtain ⟨t, a1, o, b1, b2, b3⟩ := K s₁ hh0 (Stand.of_body B)
      exact ⟨t, o, a1, b1, b2, ⟨b3.1, b3.2⟩⟩
    · obtain ⟨hsl, hr, hf1⟩ := ax_call_spec hr
      have hf2 : h1.2.1 = h.2.1 + 1 ∧ h1.2.2.1 = h.2.2.1 + 6 ∧ h1.2.2.2 = h.2.2.2 := by simpa [ax_fit1] using hf1
      refine ⟨hf2, ?_⟩
      refine MetFree.of_bodyS (code := ax_code T mi) (maxLocals := ax_mx T mi) (ret := ax_rt T mi) (hO.2.2.2.1 mi) (his _) ?_
      intro p e s m args below meth c s₁ B hml hv _
      obtain ⟨rfl, hR, hK, hX⟩ := hv
      have X := mkX B hml hK hX
      have hh0 : s₁.heap = s.heap := by rw [B.state]; rfl
      have K : W p l e (ax_rm (d + 1) 1 6) s m (av.map (ax_tv as)).toArray below meth c s.heap [] 0 0 (ax_QT b as T D tA below s x h1 1 6) (entryFrame m (av.map (ax_tv as)).toArray (ax_mx T mi)) := by
        rw [lg_entry_eq]
        have g := ax_loop_ok (w := h.2.2.2) (b := b) (as := as) (l := l) (e := e) (R := ax_rm (d + 1) 1 6) (below := below) (Q := ax_QT b as T D tA below s x h1 1 6) hO X (d := d) (by show d + 9 ≤ d + 1 + 8; omega) (by show 40 * d + 160 ≤ 40 * (d + 1) + 120; omega) (ax_call_mono d n) (fun mj av h v h1 hq => (ih n mj av h).1 v h1 hq) (fun mj av h x h1 hq => (ih n mj av h).2 x h1 hq) n 0 (ax_entry T mi av) [] h (.inr x, h1) hr
        refine g 0 0 _ (by simp [ax_entry]; omega) (ax_entry_lr as _ av hsl) (by show 0 + (h1.2.1 - h.2.1) ≤ 1; omega) (by show 0 + (h1.2.2.1 - h.2.2.1) ≤ 6; omega) ?_ ?_ s.heap [] hR va_S.rf ⟨Nat.le_refl _, fun _ _ _ => rfl⟩
        · intro v' hv'
          cases hv'
        · intro pc' ls' a' st' i h8 k1 k2 k3 k4 k5 k6
          obtain ⟨⟨x', hx'⟩, -⟩ := ax_thr_mono k2
          have hx2 : x = x' ∧ h1 = ax_one h8 := by
            cases hx'
            exact ⟨rfl, rfl⟩
          obtain ⟨rfl, rfl⟩ := hx2
          have z1 : h8.2.1 + 1 = h.2.1 + 1 := hf2.1
          have z2 : h8.2.2.1 + 6 = h.2.2.1 + 6 := hf2.2.1
          have z3 : h8.2.2.2 = h.2.2.2 := hf2.2.2
          rw [show 0 + (h8.2.1 - h.2.1) = 0 by omega, show 0 + (h8.2.2.1 - h.2.2.1) = 0 by omega]
          unfold ax_thr at k2
          split at k2
          · rename_i idx
            split at k2
            · rename_i ic hd1 hd2 hd3
              split at k2
              · rename_i hk
                obtain ⟨q1, q2, q3, q4, q5⟩ := hk
                have hE := hO.2.1 mi idx
                have hpl : ax_pl T mi idx = (10, x, ic) := by
                  cases k2
                  generalize ax_pl T mi idx = y at *
                  obtain ⟨y1, y2, y3⟩ := y
                  dsimp only at q1 q2
                  rw [q1, q2]
                rw [hpl] at hE
                simp only [ax_okE] at hE
                have htab := X.2.2.2.2.2.1
                rw [q5] at htab
                exact ax_thr_ok hfl X k4 k3 hE k1 hd1 hd2 hd3 (fun y hy => by
                  rw [List.map_eq_nil_iff] at htab
                  rw [htab] at hy
                  cases hy) z3 q3 q4 (by show 8 ≤ d + 1 + 8; omega) (by show 120 ≤ 40 * (d + 1) + 120; omega) (Nat.le_refl _) (Nat.le_refl _) (by rw [hR.1]; omega)
              · cases k2
            · cases k2
          · cases k2
      obtain ⟨t, a1, b1, b2, b3, b4, b5, b6⟩ := K s₁ hh0 (Stand.of_body B)
      exact ⟨t, _, a1, b1, b2, rfl, b3, b4, b5, b6⟩
end AX4
end
section
/-! The rules by which a run is shown: a run from here comes to o; a call comes to o. -/
def ax_Go (T : ax_T) (d mi pc : Nat) (ls : ax_L) (st : List Value) (h : ax_H) (o : ax_O) : Prop := ∃ n, ∀ n', n ≤ n' → ∀ k, n ≤ k → ax_loop T (ax_call T d k) mi n' pc ls st h = some o
def ax_Ca (T : ax_T) (d mi : Nat) (av : List Value) (h : ax_H) (o : ax_O) : Prop := ∃ n, ∀ n', n ≤ n' → ax_call T d n' mi av h = some o
section AX5
variable {T : ax_T} {d mi pc : Nat} {ls : ax_L} {st : List Value} {h : ax_H} {o : ax_O}
theorem ag_pure {i : Instr} {len pc' : Nat} {ls' : ax_L} {st' : List Value} (hd : decode (ax_code T mi) pc = .ok (i, len)) (hp : ax_pure i len pc ls st = some (pc', ls', st')) (k : ax_Go T d mi pc' ls' st' h o) : ax_Go T d mi pc ls st h o := by
  obtain ⟨n, hn⟩ := k
  refine ⟨n + 1, fun n' h1 k h2 => ?_⟩
  obtain ⟨q, rfl⟩ : ∃ q, n' = q + 1 := ⟨n' - 1, by omega⟩
  rw [ax_loop, hd]
  simp only [hp]
  exact hn q (by omega) k (by omega)
theorem ag_mem {i : Instr} {pc' : Nat} {ls' : ax_L} {st' : List Value} {h' : ax_H} (hd : decode (ax_code T mi) pc = .ok (i, ax_ml i)) (hn : ax_pure i (ax_ml i) pc ls st = none) (hp : ax_mem T mi i pc ls st h = some (pc', ls', st', h')) (k : ax_Go T d mi pc' ls' st' h' o) : ax_Go T d mi pc ls st h o := by
  obtain ⟨n, hk⟩ := k
  refine ⟨n + 1, fun n' h1 k h2 => ?_⟩
  obtain ⟨q, rfl⟩ : ∃ q, n' = q + 1 := ⟨n' - 1, by omega⟩
  rw [ax_loop, hd]
  simp only [hn, hp, if_true]
  exact hk q (by omega) k (by omega)
theorem ag_inv {i : Instr} {mj : Nat} {av r : List Value} {v : Option Value} {h' : ax_H} (hd : decode (ax_code T mi) pc = .ok (i, ax_ml i)) (hn : ax_pure i (ax_ml i) pc ls st = none) (hm : ax_mem T mi i pc ls st h = none) (hi : ax_inv T mi i st h = some (mj, av, r)) (hc : ax_Ca T d mj av h (.inl v, h')) (k : ax_Go T d mi (pc + 3) ls (v.toList ++ r) h' o) : ax_Go T d mi pc ls st h o := by
  obtain ⟨n, hk⟩ := k
  obtain ⟨n2, hc⟩ := hc
  refine ⟨n + n2 + 1, fun n' h1 k h2 => ?_⟩
  obtain ⟨q, rfl⟩ : ∃ q, n' = q + 1 := ⟨n' - 1, by omega⟩
  rw [ax_loop, hd]
  simp only [hn, hm, hi, hc k (by omega), if_true]
  exact hk q (by omega) k (by omega)
theorem ag_ret {i : Instr} {v : Option Value} (hd : decode (ax_code T mi) pc = .ok (i, ax_ml i)) (hn : ax_pure i (ax_ml i) pc ls st = none) (hm : ax_mem T mi i pc ls st h = none) (hi : ax_inv T mi i st h = none) (ht : ax_thr T mi i pc st h = none) (hr : ax_ret (ax_rt T mi) i st = some v) : ax_Go T d mi pc ls st h (.inl v, h) := by
  refine ⟨1, fun n' h1 k h2 => ?_⟩
  obtain ⟨q, rfl⟩ : ∃ q, n' = q + 1 := ⟨n' - 1, by omega⟩
  rw [ax_loop, hd]
  simp only [hn, hm, hi, ht, hr, if_true, Option.map_some]
theorem ag_call {av : List Value} {v : Option Value} {h1 : ax_H} (hl : (ax_sl av).length ≤ ax_mx T mi) (k : ax_Go T d mi 0 (ax_entry T mi av) [] h (.inl v, h1)) : ax_Ca T (d + 1) mi av h (.inl v, h1) := by
  obtain ⟨n, hk⟩ := k
  refine ⟨n, fun n' h1 => ?_⟩
  rw [ax_call, if_pos hl, hk n' h1 n' h1]
  rfl
theorem ag_callT {av : List Value} {x : Nat} (hl : (ax_sl av).length ≤ ax_mx T mi) (k : ax_Go T d mi 0 (ax_entry T mi av) [] h (.inr x, ax_one h)) : ax_Ca T (d + 1) mi av h (.inr x, ax_one h) := by
  obtain ⟨n, hk⟩ := k
  refine ⟨n, fun n' h1 => ?_⟩
  rw [ax_call, if_pos hl, hk n' h1 n' h1]
  simp [Option.filter, ax_fit1, ax_one]
theorem ag_thr {idx ic x : Nat} (hd : decode (ax_code T mi) pc = .ok (.new idx, 3)) (hpl : ax_pl T mi idx = (10, x, ic)) (hd1 : decode (ax_code T mi) (pc + 3) = .ok (.dup, 1)) (hd2 : decode (ax_code T mi) (pc + 4) = .ok (.invokespecial ic, 3)) (hd3 : decode (ax_code T mi) (pc + 7) = .ok (.athrow, 1)) (hb : h.2.1 < ax_big) (hw : (st.map (fun v => v.category)).sum ≤ 8) (hh : ax_hs T mi = []) : ax_Go T d mi pc ls st h (.inr x, ax_one h) := by
  refine ⟨1, fun n' h1 k h2 => ?_⟩
  obtain ⟨q, rfl⟩ : ∃ q, n' = q + 1 := ⟨n' - 1, by omega⟩
  rw [ax_loop, hd]
  have e1 : ax_pure (.new idx) 3 pc ls st = none := rfl
  have e2 : ax_mem T mi (.new idx) pc ls st h = none := by simp [ax_mem, ax_new, hpl]
  have e3 : ax_inv T mi (.new idx) st h = none := rfl
  have e4 : ax_thr T mi (.new idx) pc st h = some (.inr x, ax_one h) := by simp [ax_thr, hd1, hd2, hd3, hpl, hb, hw, hh]
  simp only [e1, e2, e3, e4, ax_ml, if_true]
/-- a call that throws, caught -/
theorem ag_invc {idx mj n a ci x pc' : Nat} {st0 xs r fs : List Value} {h' : ax_H} (hd : decode (ax_code T mi) pc = .ok (.invokevirtual idx, 3)) (hpl : ax_pl T mi idx = (7, mj, n)) (hst : st0 = xs ++ .ref a :: r) (hn : xs.length = n) (ha : h.1 a = some (.inr (ci, fs))) (hC : ((ax_cl T)[ci]?).map (fun q => q.1) = some (ax_nm T mj).cls) (hr : (r.map (fun v => v.category)).sum ≤ 8) (hc : ax_Ca T d mj (.ref a :: xs.reverse) h (.inr x, h')) (hh : ax_hd T mi pc x = some pc') (k : ax_Go T d mi pc' ls [.ref (h'.2.1 - 1)] h' o) : ax_Go T d mi pc ls st0 h o := by
  subst hst; subst hn
  obtain ⟨n, hk⟩ := k
  obtain ⟨n2, hc⟩ := hc
  refine ⟨n + n2 + 1, fun n' h1 k h2 => ?_⟩
  obtain ⟨q, rfl⟩ : ∃ q, n' = q + 1 := ⟨n' - 1, by omega⟩
  rw [ax_loop, hd]
  have e1 : ax_pure (.invokevirtual idx) 3 pc ls (xs ++ .ref a :: r) = none := rfl
  have e2 : ax_mem T mi (.invokevirtual idx) pc ls (xs ++ .ref a :: r) h = none := rfl
  have e3 : ax_inv T mi (.invokevirtual idx) (xs ++ .ref a :: r) h = some (mj, .ref a :: xs.reverse, r) := by
    simp only [ax_inv, hpl, List.drop_left, ha, List.take_left, hC, hr, and_self, if_true, true_or]
  have e4 : ax_cv T mi (.invokevirtual idx) = true := by simp [ax_cv, hpl]
  simp only [e1, e2, e3, e4, hc k (by omega), hh, ax_ml, if_true]
  exact hk q (by omega) k (by omega)
theorem ag_iconst {n : Int} {x : Int32} (hd : decode (ax_code T mi) pc = .ok (.iconst n, 1)) (hx : Int32.ofInt n = x) (k : ax_Go T d mi (pc + 1) (ls) (.int x :: st) h o) : ax_Go T d mi pc ls (st) h o :=
  ag_pure hd (by subst hx; rfl) k
theorem ag_bipush {n : Int} {x : Int32} (hd : decode (ax_code T mi) pc = .ok (.bipush n, 2)) (hx : (Int8.ofInt n).toInt32 = x) (k : ax_Go T d mi (pc + 2) (ls) (.int x :: st) h o) : ax_Go T d mi pc ls (st) h o :=
  ag_pure hd (by subst hx; rfl) k
theorem ag_sipush {n : Int} {x : Int32} (hd : decode (ax_code T mi) pc = .ok (.sipush n, 3)) (hx : (Int16.ofInt n).toInt32 = x) (k : ax_Go T d mi (pc + 3) (ls) (.int x :: st) h o) : ax_Go T d mi pc ls (st) h o :=
  ag_pure hd (by subst hx; rfl) k
theorem ag_lconst {n : Fin 2} {x : Int64} (hd : decode (ax_code T mi) pc = .ok (.lconst n, 1)) (hx : Int64.ofNat (n : Nat) = x) (k : ax_Go T d mi (pc + 1) (ls) (.long x :: st) h o) : ax_Go T d mi pc ls (st) h o :=
  ag_pure hd (by subst hx; rfl) k
theorem ag_null (hd : decode (ax_code T mi) pc = .ok (.aconst_null, 1)) (k : ax_Go T d mi (pc + 1) (ls) (.null :: st) h o) : ax_Go T d mi pc ls (st) h o :=
  ag_pure hd (rfl) k
theorem ag_iload {n : Nat} {x : Int32} (hd : decode (ax_code T mi) pc = .ok (.iload n, 2)) (hx : ax_ld ls n = some (.int x)) (k : ax_Go T d mi (pc + 2) (ls) (.int x :: st) h o) : ax_Go T d mi pc ls (st) h o :=
  ag_pure hd (by simp [ax_pure, ax_load, hx]) k
theorem ag_iload_n {n : Fin 4} {x : Int32} (hd : decode (ax_code T mi) pc = .ok (.iload_n n, 1)) (hx : ax_ld ls n = some (.int x)) (k : ax_Go T d mi (pc + 1) (ls) (.int x :: st) h o) : ax_Go T d mi pc ls (st) h o :=
  ag_pure hd (by simp [ax_pure, ax_load, hx]) k
theorem ag_lload {n : Nat} {x : Int64} (hd : decode (ax_code T mi) pc = .ok (.lload n, 2)) (hx : ax_ld ls n = some (.long x)) (k : ax_Go T d mi (pc + 2) (ls) (.long x :: st) h o) : ax_Go T d mi pc ls (st) h o :=
  ag_pure hd (by simp [ax_pure, ax_load, hx]) k
theorem ag_lload_n {n : Fin 4} {x : Int64} (hd : decode (ax_code T mi) pc = .ok (.lload_n n, 1)) (hx : ax_ld ls n = some (.long x)) (k : ax_Go T d mi (pc + 1) (ls) (.long x :: st) h o) : ax_Go T d mi pc ls (st) h o :=
  ag_pure hd (by simp [ax_pure, ax_load, hx]) k
theorem ag_aload {n : Nat} {x : Nat} (hd : decode (ax_code T mi) pc = .ok (.aload n, 2)) (hx : ax_ld ls n = some (.ref x)) (k : ax_Go T d mi (pc + 2) (ls) (.ref x :: st) h o) : ax_Go T d mi pc ls (st) h o :=
  ag_pure hd (by simp [ax_pure, ax_load, hx]) k
theorem ag_aload_n {n : Fin 4} {x : Nat} (hd : decode (ax_code T mi) pc = .ok (.aload_n n, 1)) (hx : ax_ld ls n = some (.ref x)) (k : ax_Go T d mi (pc + 1) (ls) (.ref x :: st) h o) : ax_Go T d mi pc ls (st) h o :=
  ag_pure hd (by simp [ax_pure, ax_load, hx]) k
theorem ag_aloadN {n : Nat} (hd : decode (ax_code T mi) pc = .ok (.aload n, 2)) (hx : ax_ld ls n = some .null) (k : ax_Go T d mi (pc + 2) (ls) (.null :: st) h o) : ax_Go T d mi pc ls (st) h o :=
  ag_pure hd (by simp [ax_pure, ax_load, hx]) k
theorem ag_aload_nN {n : Fin 4} (hd : decode (ax_code T mi) pc = .ok (.aload_n n, 1)) (hx : ax_ld ls n = some .null) (k : ax_Go T d mi (pc + 1) (ls) (.null :: st) h o) : ax_Go T d mi pc ls (st) h o :=
  ag_pure hd (by simp [ax_pure, ax_load, hx]) k
theorem ag_istore {n : Nat} {x : Int32} {ls' : ax_L} (hd : decode (ax_code T mi) pc = .ok (.istore n, 2)) (hn : n < ls.length) (hx : ax_set ls n (.int x) = ls') (k : ax_Go T d mi (pc + 2) (ls') (st) h o) : ax_Go T d mi pc ls (.int x :: st) h o :=
  ag_pure hd (by subst hx; simp [ax_pure, ax_store, hn]) k
theorem ag_istore_n {n : Fin 4} {x : Int32} {ls' : ax_L} (hd : decode (ax_code T mi) pc = .ok (.istore_n n, 1)) (hn : (n : Nat) < ls.length) (hx : ax_set ls n (.int x) = ls') (k : ax_Go T d mi (pc + 1) (ls') (st) h o) : ax_Go T d mi pc ls (.int x :: st) h o :=
  ag_pure hd (by subst hx; simp [ax_pure, ax_store, hn]) k
theorem ag_lstore {n : Nat} {x : Int64} {ls' : ax_L} (hd : decode (ax_code T mi) pc = .ok (.lstore n, 2)) (hn : n + 1 < ls.length) (hx : ax_set ls n (.long x) = ls') (k : ax_Go T d mi (pc + 2) (ls') (st) h o) : ax_Go T d mi pc ls (.long x :: st) h o :=
  ag_pure hd (by subst hx; simp [ax_pure, ax_store, hn]) k
theorem ag_lstore_n {n : Fin 4} {x : Int64} {ls' : ax_L} (hd : decode (ax_code T mi) pc = .ok (.lstore_n n, 1)) (hn : (n : Nat) + 1 < ls.length) (hx : ax_set ls n (.long x) = ls') (k : ax_Go T d mi (pc + 1) (ls') (st) h o) : ax_Go T d mi pc ls (.long x :: st) h o :=
  ag_pure hd (by subst hx; simp [ax_pure, ax_store, hn]) k
theorem ag_astore {n : Nat} {x : Nat} {ls' : ax_L} (hd : decode (ax_code T mi) pc = .ok (.astore n, 2)) (hn : n < ls.length) (hx : ax_set ls n (.ref x) = ls') (k : ax_Go T d mi (pc + 2) (ls') (st) h o) : ax_Go T d mi pc ls (.ref x :: st) h o :=
  ag_pure hd (by subst hx; simp [ax_pure, ax_store, hn]) k
theorem ag_astore_n {n : Fin 4} {x : Nat} {ls' : ax_L} (hd : decode (ax_code T mi) pc = .ok (.astore_n n, 1)) (hn : (n : Nat) < ls.length) (hx : ax_set ls n (.ref x) = ls') (k : ax_Go T d mi (pc + 1) (ls') (st) h o) : ax_Go T d mi pc ls (.ref x :: st) h o :=
  ag_pure hd (by subst hx; simp [ax_pure, ax_store, hn]) k
theorem ag_astoreN {n : Nat} {ls' : ax_L} (hd : decode (ax_code T mi) pc = .ok (.astore n, 2)) (hn : n < ls.length) (hx : ax_set ls n .null = ls') (k : ax_Go T d mi (pc + 2) (ls') (st) h o) : ax_Go T d mi pc ls (.null :: st) h o :=
  ag_pure hd (by subst hx; simp [ax_pure, ax_store, hn]) k
theorem ag_astore_nN {n : Fin 4} {ls' : ax_L} (hd : decode (ax_code T mi) pc = .ok (.astore_n n, 1)) (hn : (n : Nat) < ls.length) (hx : ax_set ls n .null = ls') (k : ax_Go T d mi (pc + 1) (ls') (st) h o) : ax_Go T d mi pc ls (.null :: st) h o :=
  ag_pure hd (by subst hx; simp [ax_pure, ax_store, hn]) k
theorem ag_iinc {n : Nat} {k0 : Int} {x y : Int32} {ls' : ax_L} (hd : decode (ax_code T mi) pc = .ok (.iinc n k0, 3)) (hx : ax_ld ls n = some (.int x)) (hy : x + Int32.ofInt k0 = y) (hl : ax_set ls n (.int y) = ls') (k : ax_Go T d mi (pc + 3) (ls') (st) h o) : ax_Go T d mi pc ls (st) h o :=
  ag_pure hd (by subst hy; subst hl; simp [ax_pure, hx]) k
theorem ag_goto {off : Int} {t : Nat} (hd : decode (ax_code T mi) pc = .ok (.goto off, 3)) (ht : ax_jmp pc off = some t) (k : ax_Go T d mi (t) (ls) (st) h o) : ax_Go T d mi pc ls (st) h o :=
  ag_pure hd (by simp [ax_pure, ht]) k
theorem ag_ineg {x : Int32} (hd : decode (ax_code T mi) pc = .ok (.ineg, 1)) (k : ax_Go T d mi (pc + 1) (ls) (.int (-x) :: st) h o) : ax_Go T d mi pc ls (.int x :: st) h o :=
  ag_pure hd (rfl) k
theorem ag_i2l {x : Int32} (hd : decode (ax_code T mi) pc = .ok (.i2l, 1)) (k : ax_Go T d mi (pc + 1) (ls) (.long x.toInt64 :: st) h o) : ax_Go T d mi pc ls (.int x :: st) h o :=
  ag_pure hd (rfl) k
theorem ag_l2i {x : Int64} (hd : decode (ax_code T mi) pc = .ok (.l2i, 1)) (k : ax_Go T d mi (pc + 1) (ls) (.int x.toInt32 :: st) h o) : ax_Go T d mi pc ls (.long x :: st) h o :=
  ag_pure hd (rfl) k
theorem ag_i2c {x : Int32} (hd : decode (ax_code T mi) pc = .ok (.i2c, 1)) (k : ax_Go T d mi (pc + 1) (ls) (.int (x.toUInt32 % 65536).toInt32 :: st) h o) : ax_Go T d mi pc ls (.int x :: st) h o :=
  ag_pure hd (rfl) k
theorem ag_iadd {a b : Int32} (hd : decode (ax_code T mi) pc = .ok (.iadd, 1)) (k : ax_Go T d mi (pc + 1) (ls) (.int (a + b) :: st) h o) : ax_Go T d mi pc ls (.int b :: .int a :: st) h o :=
  ag_pure hd (rfl) k
theorem ag_isub {a b : Int32} (hd : decode (ax_code T mi) pc = .ok (.isub, 1)) (k : ax_Go T d mi (pc + 1) (ls) (.int (a - b) :: st) h o) : ax_Go T d mi pc ls (.int b :: .int a :: st) h o :=
  ag_pure hd (rfl) k
theorem ag_imul {a b : Int32} (hd : decode (ax_code T mi) pc = .ok (.imul, 1)) (k : ax_Go T d mi (pc + 1) (ls) (.int (a * b) :: st) h o) : ax_Go T d mi pc ls (.int b :: .int a :: st) h o :=
  ag_pure hd (rfl) k
theorem ag_iand {a b : Int32} (hd : decode (ax_code T mi) pc = .ok (.iand, 1)) (k : ax_Go T d mi (pc + 1) (ls) (.int (a &&& b) :: st) h o) : ax_Go T d mi pc ls (.int b :: .int a :: st) h o :=
  ag_pure hd (rfl) k
theorem ag_ior {a b : Int32} (hd : decode (ax_code T mi) pc = .ok (.ior, 1)) (k : ax_Go T d mi (pc + 1) (ls) (.int (a ||| b) :: st) h o) : ax_Go T d mi pc ls (.int b :: .int a :: st) h o :=
  ag_pure hd (rfl) k
theorem ag_ixor {a b : Int32} (hd : decode (ax_code T mi) pc = .ok (.ixor, 1)) (k : ax_Go T d mi (pc + 1) (ls) (.int (a ^^^ b) :: st) h o) : ax_Go T d mi pc ls (.int b :: .int a :: st) h o :=
  ag_pure hd (rfl) k
theorem ag_ishl {a b : Int32} (hd : decode (ax_code T mi) pc = .ok (.ishl, 1)) (k : ax_Go T d mi (pc + 1) (ls) (.int (a <<< (b &&& 31)) :: st) h o) : ax_Go T d mi pc ls (.int b :: .int a :: st) h o :=
  ag_pure hd (rfl) k
theorem ag_ishr {a b : Int32} (hd : decode (ax_code T mi) pc = .ok (.ishr, 1)) (k : ax_Go T d mi (pc + 1) (ls) (.int (a >>> (b &&& 31)) :: st) h o) : ax_Go T d mi pc ls (.int b :: .int a :: st) h o :=
  ag_pure hd (rfl) k
theorem ag_iushr {a b : Int32} (hd : decode (ax_code T mi) pc = .ok (.iushr, 1)) (k : ax_Go T d mi (pc + 1) (ls) (.int ((a.toUInt32 >>> (b.toUInt32 &&& Int32.toUInt32 31)).toInt32) :: st) h o) : ax_Go T d mi pc ls (.int b :: .int a :: st) h o :=
  ag_pure hd (rfl) k
theorem ag_idiv {a b : Int32} (hd : decode (ax_code T mi) pc = .ok (.idiv, 1)) (hb : ¬ b = 0) (k : ax_Go T d mi (pc + 1) (ls) (.int (a / b) :: st) h o) : ax_Go T d mi pc ls (.int b :: .int a :: st) h o :=
  ag_pure hd (by simp [ax_pure, ax_bin, hb]) k
theorem ag_irem {a b : Int32} (hd : decode (ax_code T mi) pc = .ok (.irem, 1)) (hb : ¬ b = 0) (k : ax_Go T d mi (pc + 1) (ls) (.int (a - a / b * b) :: st) h o) : ax_Go T d mi pc ls (.int b :: .int a :: st) h o :=
  ag_pure hd (by simp [ax_pure, ax_bin, hb]) k
theorem ag_ladd {a b : Int64} (hd : decode (ax_code T mi) pc = .ok (.ladd, 1)) (k : ax_Go T d mi (pc + 1) (ls) (.long (a + b) :: st) h o) : ax_Go T d mi pc ls (.long b :: .long a :: st) h o :=
  ag_pure hd (rfl) k
theorem ag_land {a b : Int64} (hd : decode (ax_code T mi) pc = .ok (.land, 1)) (k : ax_Go T d mi (pc + 1) (ls) (.long (a &&& b) :: st) h o) : ax_Go T d mi pc ls (.long b :: .long a :: st) h o :=
  ag_pure hd (rfl) k
theorem ag_lor {a b : Int64} (hd : decode (ax_code T mi) pc = .ok (.lor, 1)) (k : ax_Go T d mi (pc + 1) (ls) (.long (a ||| b) :: st) h o) : ax_Go T d mi pc ls (.long b :: .long a :: st) h o :=
  ag_pure hd (rfl) k
theorem ag_lcmp {a b : Int64} (hd : decode (ax_code T mi) pc = .ok (.lcmp, 1)) (k : ax_Go T d mi (pc + 1) (ls) (.int (lg_cmp a b) :: st) h o) : ax_Go T d mi pc ls (.long b :: .long a :: st) h o :=
  ag_pure hd (rfl) k
theorem ag_lshl {a : Int64} {b : Int32} (hd : decode (ax_code T mi) pc = .ok (.lshl, 1)) (k : ax_Go T d mi (pc + 1) (ls) (.long (a <<< (b.toInt64 &&& 63)) :: st) h o) : ax_Go T d mi pc ls (.int b :: .long a :: st) h o :=
  ag_pure hd (rfl) k
theorem ag_lshr {a : Int64} {b : Int32} (hd : decode (ax_code T mi) pc = .ok (.lshr, 1)) (k : ax_Go T d mi (pc + 1) (ls) (.long (a >>> (b.toInt64 &&& 63)) :: st) h o) : ax_Go T d mi pc ls (.int b :: .long a :: st) h o :=
  ag_pure hd (rfl) k
theorem ag_lushr {a : Int64} {b : Int32} (hd : decode (ax_code T mi) pc = .ok (.lushr, 1)) (k : ax_Go T d mi (pc + 1) (ls) (.long ((a.toUInt64 >>> (b.toInt64.toUInt64 &&& Int64.toUInt64 63)).toInt64) :: st) h o) : ax_Go T d mi pc ls (.int b :: .long a :: st) h o :=
  ag_pure hd (rfl) k
theorem ag_dup {a : Value} (hd : decode (ax_code T mi) pc = .ok (.dup, 1)) (ha : a.category = 1) (k : ax_Go T d mi (pc + 1) (ls) (a :: a :: st) h o) : ax_Go T d mi pc ls (a :: st) h o :=
  ag_pure hd (by simp [ax_pure, ax_stk, ha]) k
theorem ag_pop {a : Value} (hd : decode (ax_code T mi) pc = .ok (.pop, 1)) (ha : a.category = 1) (k : ax_Go T d mi (pc + 1) (ls) (st) h o) : ax_Go T d mi pc ls (a :: st) h o :=
  ag_pure hd (by simp [ax_pure, ax_stk, ha]) k
theorem ag_dup_x1 {a b : Value} (hd : decode (ax_code T mi) pc = .ok (.dup_x1, 1)) (ha : a.category = 1) (hb : b.category = 1) (k : ax_Go T d mi (pc + 1) (ls) (a :: b :: a :: st) h o) : ax_Go T d mi pc ls (a :: b :: st) h o :=
  ag_pure hd (by simp [ax_pure, ax_stk, ha, hb]) k
theorem ag_dup2 {a b : Value} (hd : decode (ax_code T mi) pc = .ok (.dup2, 1)) (ha : a.category = 1) (hb : b.category = 1) (k : ax_Go T d mi (pc + 1) (ls) (a :: b :: a :: b :: st) h o) : ax_Go T d mi pc ls (a :: b :: st) h o :=
  ag_pure hd (by simp [ax_pure, ax_stk, ha, hb]) k
theorem ag_ifnull {a : Nat} {off : Int} (hd : decode (ax_code T mi) pc = .ok (.ifnull off, 3)) (k : ax_Go T d mi (pc + 3) (ls) (st) h o) : ax_Go T d mi pc ls (.ref a :: st) h o :=
  ag_pure hd (rfl) k
theorem ag_ifnullN {off : Int} {t : Nat} (hd : decode (ax_code T mi) pc = .ok (.ifnull off, 3)) (ht : ax_jmp pc off = some t) (k : ax_Go T d mi (t) (ls) (st) h o) : ax_Go T d mi pc ls (.null :: st) h o :=
  ag_pure hd (by simp [ax_pure, ax_stk, ht]) k
theorem ag_ifnonnull {a : Nat} {off : Int} {t : Nat} (hd : decode (ax_code T mi) pc = .ok (.ifnonnull off, 3)) (ht : ax_jmp pc off = some t) (k : ax_Go T d mi (t) (ls) (st) h o) : ax_Go T d mi pc ls (.ref a :: st) h o :=
  ag_pure hd (by simp [ax_pure, ax_stk, ht]) k
theorem ag_ifnonnullN {off : Int} (hd : decode (ax_code T mi) pc = .ok (.ifnonnull off, 3)) (k : ax_Go T d mi (pc + 3) (ls) (st) h o) : ax_Go T d mi pc ls (.null :: st) h o :=
  ag_pure hd (rfl) k
theorem ag_if_eq {x : Int32} {off : Int} {t : Nat} (hd : decode (ax_code T mi) pc = .ok (.ifCond .eq off, 3)) (ht : ax_jmp pc off = some t) (kt : x = 0 → ax_Go T d mi t ls st h o) (kf : ¬ (x = 0) → ax_Go T d mi (pc + 3) ls st h o) : ax_Go T d mi pc ls (.int x :: st) h o := by
  by_cases hc : x = 0
  · exact ag_pure (pc' := t) (ls' := ls) (st' := st) hd (by simp only [ax_pure, ax_stk, ax_br, ht, Option.map_some, show ax_cmp .eq x 0 = true from decide_eq_true hc, cond_true]) (kt hc)
  · exact ag_pure (pc' := pc + 3) (ls' := ls) (st' := st) hd (by simp only [ax_pure, ax_stk, ax_br, ht, Option.map_some, show ax_cmp .eq x 0 = false from decide_eq_false hc, cond_false]) (kf hc)
theorem ag_icmp_eq {x y : Int32} {off : Int} {t : Nat} (hd : decode (ax_code T mi) pc = .ok (.if_icmp .eq off, 3)) (ht : ax_jmp pc off = some t) (kt : x = y → ax_Go T d mi t ls st h o) (kf : ¬ (x = y) → ax_Go T d mi (pc + 3) ls st h o) : ax_Go T d mi pc ls (.int y :: .int x :: st) h o := by
  by_cases hc : x = y
  · exact ag_pure (pc' := t) (ls' := ls) (st' := st) hd (by simp only [ax_pure, ax_stk, ax_br, ht, Option.map_some, show ax_cmp .eq x y = true from decide_eq_true hc, cond_true]) (kt hc)
  · exact ag_pure (pc' := pc + 3) (ls' := ls) (st' := st) hd (by simp only [ax_pure, ax_stk, ax_br, ht, Option.map_some, show ax_cmp .eq x y = false from decide_eq_false hc, cond_false]) (kf hc)
theorem ag_if_ne {x : Int32} {off : Int} {t : Nat} (hd : decode (ax_code T mi) pc = .ok (.ifCond .ne off, 3)) (ht : ax_jmp pc off = some t) (kt : ¬ x = 0 → ax_Go T d mi t ls st h o) (kf : ¬ (¬ x = 0) → ax_Go T d mi (pc + 3) ls st h o) : ax_Go T d mi pc ls (.int x :: st) h o := by
  by_cases hc : ¬ x = 0
  · exact ag_pure (pc' := t) (ls' := ls) (st' := st) hd (by simp only [ax_pure, ax_stk, ax_br, ht, Option.map_some, show ax_cmp .ne x 0 = true from decide_eq_true hc, cond_true]) (kt hc)
  · exact ag_pure (pc' := pc + 3) (ls' := ls) (st' := st) hd (by simp only [ax_pure, ax_stk, ax_br, ht, Option.map_some, show ax_cmp .ne x 0 = false from decide_eq_false hc, cond_false]) (kf hc)
theorem ag_icmp_ne {x y : Int32} {off : Int} {t : Nat} (hd : decode (ax_code T mi) pc = .ok (.if_icmp .ne off, 3)) (ht : ax_jmp pc off = some t) (kt : ¬ x = y → ax_Go T d mi t ls st h o) (kf : ¬ (¬ x = y) → ax_Go T d mi (pc + 3) ls st h o) : ax_Go T d mi pc ls (.int y :: .int x :: st) h o := by
  by_cases hc : ¬ x = y
  · exact ag_pure (pc' := t) (ls' := ls) (st' := st) hd (by simp only [ax_pure, ax_stk, ax_br, ht, Option.map_some, show ax_cmp .ne x y = true from decide_eq_true hc, cond_true]) (kt hc)
  · exact ag_pure (pc' := pc + 3) (ls' := ls) (st' := st) hd (by simp only [ax_pure, ax_stk, ax_br, ht, Option.map_some, show ax_cmp .ne x y = false from decide_eq_false hc, cond_false]) (kf hc)
theorem ag_if_lt {x : Int32} {off : Int} {t : Nat} (hd : decode (ax_code T mi) pc = .ok (.ifCond .lt off, 3)) (ht : ax_jmp pc off = some t) (kt : x < 0 → ax_Go T d mi t ls st h o) (kf : ¬ (x < 0) → ax_Go T d mi (pc + 3) ls st h o) : ax_Go T d mi pc ls (.int x :: st) h o := by
  by_cases hc : x < 0
  · exact ag_pure (pc' := t) (ls' := ls) (st' := st) hd (by simp only [ax_pure, ax_stk, ax_br, ht, Option.map_some, show ax_cmp .lt x 0 = true from decide_eq_true hc, cond_true]) (kt hc)
  · exact ag_pure (pc' := pc + 3) (ls' := ls) (st' := st) hd (by simp only [ax_pure, ax_stk, ax_br, ht, Option.map_some, show ax_cmp .lt x 0 = false from decide_eq_false hc, cond_false]) (kf hc)
theorem ag_icmp_lt {x y : Int32} {off : Int} {t : Nat} (hd : decode (ax_code T mi) pc = .ok (.if_icmp .lt off, 3)) (ht : ax_jmp pc off = some t) (kt : x < y → ax_Go T d mi t ls st h o) (kf : ¬ (x < y) → ax_Go T d mi (pc + 3) ls st h o) : ax_Go T d mi pc ls (.int y :: .int x :: st) h o := by
  by_cases hc : x < y
  · exact ag_pure (pc' := t) (ls' := ls) (st' := st) hd (by simp only [ax_pure, ax_stk, ax_br, ht, Option.map_some, show ax_cmp .lt x y = true from decide_eq_true hc, cond_true]) (kt hc)
  · exact ag_pure (pc' := pc + 3) (ls' := ls) (st' := st) hd (by simp only [ax_pure, ax_stk, ax_br, ht, Option.map_some, show ax_cmp .lt x y = false from decide_eq_false hc, cond_false]) (kf hc)
theorem ag_if_ge {x : Int32} {off : Int} {t : Nat} (hd : decode (ax_code T mi) pc = .ok (.ifCond .ge off, 3)) (ht : ax_jmp pc off = some t) (kt : 0 ≤ x → ax_Go T d mi t ls st h o) (kf : ¬ (0 ≤ x) → ax_Go T d mi (pc + 3) ls st h o) : ax_Go T d mi pc ls (.int x :: st) h o := by
  by_cases hc : 0 ≤ x
  · exact ag_pure (pc' := t) (ls' := ls) (st' := st) hd (by simp only [ax_pure, ax_stk, ax_br, ht, Option.map_some, show ax_cmp .ge x 0 = true from decide_eq_true hc, cond_true]) (kt hc)
  · exact ag_pure (pc' := pc + 3) (ls' := ls) (st' := st) hd (by simp only [ax_pure, ax_stk, ax_br, ht, Option.map_some, show ax_cmp .ge x 0 = false from decide_eq_false hc, cond_false]) (kf hc)
theorem ag_icmp_ge {x y : Int32} {off : Int} {t : Nat} (hd : decode (ax_code T mi) pc = .ok (.if_icmp .ge off, 3)) (ht : ax_jmp pc off = some t) (kt : y ≤ x → ax_Go T d mi t ls st h o) (kf : ¬ (y ≤ x) → ax_Go T d mi (pc + 3) ls st h o) : ax_Go T d mi pc ls (.int y :: .int x :: st) h o := by
  by_cases hc : y ≤ x
  · exact ag_pure (pc' := t) (ls' := ls) (st' := st) hd (by simp only [ax_pure, ax_stk, ax_br, ht, Option.map_some, show ax_cmp .ge x y = true from decide_eq_true hc, cond_true]) (kt hc)
  · exact ag_pure (pc' := pc + 3) (ls' := ls) (st' := st) hd (by simp only [ax_pure, ax_stk, ax_br, ht, Option.map_some, show ax_cmp .ge x y = false from decide_eq_false hc, cond_false]) (kf hc)
theorem ag_if_gt {x : Int32} {off : Int} {t : Nat} (hd : decode (ax_code T mi) pc = .ok (.ifCond .gt off, 3)) (ht : ax_jmp pc off = some t) (kt : 0 < x → ax_Go T d mi t ls st h o) (kf : ¬ (0 < x) → ax_Go T d mi (pc + 3) ls st h o) : ax_Go T d mi pc ls (.int x :: st) h o := by
  by_cases hc : 0 < x
  · exact ag_pure (pc' := t) (ls' := ls) (st' := st) hd (by simp only [ax_pure, ax_stk, ax_br, ht, Option.map_some, show ax_cmp .gt x 0 = true from decide_eq_true hc, cond_true]) (kt hc)
  · exact ag_pure (pc' := pc + 3) (ls' := ls) (st' := st) hd (by simp only [ax_pure, ax_stk, ax_br, ht, Option.map_some, show ax_cmp .gt x 0 = false from decide_eq_false hc, cond_false]) (kf hc)
theorem ag_icmp_gt {x y : Int32} {off : Int} {t : Nat} (hd : decode (ax_code T mi) pc = .ok (.if_icmp .gt off, 3)) (ht : ax_jmp pc off = some t) (kt : y < x → ax_Go T d mi t ls st h o) (kf : ¬ (y < x) → ax_Go T d mi (pc + 3) ls st h o) : ax_Go T d mi pc ls (.int y :: .int x :: st) h o := by
  by_cases hc : y < x
  · exact ag_pure (pc' := t) (ls' := ls) (st' := st) hd (by simp only [ax_pure, ax_stk, ax_br, ht, Option.map_some, show ax_cmp .gt x y = true from decide_eq_true hc, cond_true]) (kt hc)
  · exact ag_pure (pc' := pc + 3) (ls' := ls) (st' := st) hd (by simp only [ax_pure, ax_stk, ax_br, ht, Option.map_some, show ax_cmp .gt x y = false from decide_eq_false hc, cond_false]) (kf hc)
theorem ag_if_le {x : Int32} {off : Int} {t : Nat} (hd : decode (ax_code T mi) pc = .ok (.ifCond .le off, 3)) (ht : ax_jmp pc off = some t) (kt : x ≤ 0 → ax_Go T d mi t ls st h o) (kf : ¬ (x ≤ 0) → ax_Go T d mi (pc + 3) ls st h o) : ax_Go T d mi pc ls (.int x :: st) h o := by
  by_cases hc : x ≤ 0
  · exact ag_pure (pc' := t) (ls' := ls) (st' := st) hd (by simp only [ax_pure, ax_stk, ax_br, ht, Option.map_some, show ax_cmp .le x 0 = true from decide_eq_true hc, cond_true]) (kt hc)
  · exact ag_pure (pc' := pc + 3) (ls' := ls) (st' := st) hd (by simp only [ax_pure, ax_stk, ax_br, ht, Option.map_some, show ax_cmp .le x 0 = false from decide_eq_false hc, cond_false]) (kf hc)
theorem ag_icmp_le {x y : Int32} {off : Int} {t : Nat} (hd : decode (ax_code T mi) pc = .ok (.if_icmp .le off, 3)) (ht : ax_jmp pc off = some t) (kt : x ≤ y → ax_Go T d mi t ls st h o) (kf : ¬ (x ≤ y) → ax_Go T d mi (pc + 3) ls st h o) : ax_Go T d mi pc ls (.int y :: .int x :: st) h o := by
  by_cases hc : x ≤ y
  · exact ag_pure (pc' := t) (ls' := ls) (st' := st) hd (by simp only [ax_pure, ax_stk, ax_br, ht, Option.map_some, show ax_cmp .le x y = true from decide_eq_true hc, cond_true]) (kt hc)
  · exact ag_pure (pc' := pc + 3) (ls' := ls) (st' := st) hd (by simp only [ax_pure, ax_stk, ax_br, ht, Option.map_some, show ax_cmp .le x y = false from decide_eq_false hc, cond_false]) (kf hc)
theorem ag_get {idx a cj k0 kd : Nat} {fs : List Value} {v : Value} (hd : decode (ax_code T mi) pc = .ok (.getfield idx, 3)) (hpl : ax_pl T mi idx = (kd, cj, k0)) (hkd : kd = 1 ∨ kd = 2) (ha : h.1 a = some (.inr (cj, fs))) (hv : fs[k0]? = some v) (k : ax_Go T d mi (pc + 3) ls (v :: st) h o) : ax_Go T d mi pc ls (.ref a :: st) h o :=
  ag_mem hd rfl (by simp [ax_mem, ax_getf, ha, hpl, hkd, hv]) k
theorem ag_put {idx a cj k0 : Nat} {fs : List Value} {v : Value} (hd : decode (ax_code T mi) pc = .ok (.putfield idx, 3)) (hpl : ax_pl T mi idx = (1, cj, k0)) (ha : h.1 a = some (.inr (cj, fs))) (hlt : a < h.2.1) (hk : k0 < fs.length) (hf : ax_fit (ax_fty T cj k0) v = true) (hn : ax_fin T mi cj k0 = true) (k : ax_Go T d mi (pc + 3) ls st (ax_up h a (.inr (cj, fs.set k0 v))) o) : ax_Go T d mi pc ls (v :: .ref a :: st) h o :=
  ag_mem hd rfl (by simp [ax_mem, ax_putf, ha, hpl, hlt, hk, hf, hn]) k
theorem ag_iald {a t n : Nat} {f : Nat → Int32} {j x : Int32} (hd : decode (ax_code T mi) pc = .ok (.iaload, 1)) (ha : h.1 a = some (.inl (t, n, .inl f))) (hb : a ≠ ax_big) (ht : (ax_ty T)[t]? = some .int) (hj : vp_in j n) (hx : f j.toNatClampNeg = x) (k : ax_Go T d mi (pc + 1) ls (.int x :: st) h o) : ax_Go T d mi pc ls (.int j :: .ref a :: st) h o := by
  subst hx
  refine ag_mem hd rfl ?_ k
  have hj' : ¬ (j < 0 ∨ n ≤ j.toNatClampNeg) := hj
  simp only [ax_mem, ax_ald, if_neg hb, ha, if_neg hj', ht]
theorem ag_cald {a t n : Nat} {f : Nat → Int32} {j x : Int32} (hd : decode (ax_code T mi) pc = .ok (.caload, 1)) (ha : h.1 a = some (.inl (t, n, .inl f))) (hb : a ≠ ax_big) (ht : (ax_ty T)[t]? = some .char) (hj : vp_in j n) (hx : f j.toNatClampNeg = x) (k : ax_Go T d mi (pc + 1) ls (.int x :: st) h o) : ax_Go T d mi pc ls (.int j :: .ref a :: st) h o := by
  subst hx
  refine ag_mem hd rfl ?_ k
  have hj' : ¬ (j < 0 ∨ n ≤ j.toNatClampNeg) := hj
  simp only [ax_mem, ax_ald, if_neg hb, ha, if_neg hj', ht]
theorem ag_lald {a t n : Nat} {f : Nat → Int64} {j : Int32} {x : Int64} (hd : decode (ax_code T mi) pc = .ok (.laload, 1)) (ha : h.1 a = some (.inl (t, n, .inr (.inl f)))) (hb : a ≠ ax_big) (ht : (ax_ty T)[t]? = some .long) (hj : vp_in j n) (hx : f j.toNatClampNeg = x) (k : ax_Go T d mi (pc + 1) ls (.long x :: st) h o) : ax_Go T d mi pc ls (.int j :: .ref a :: st) h o := by
  subst hx
  refine ag_mem hd rfl ?_ k
  have hj' : ¬ (j < 0 ∨ n ≤ j.toNatClampNeg) := hj
  simp only [ax_mem, ax_ald, if_neg hb, ha, if_neg hj', ht]
theorem ag_aald {a t n : Nat} {f : Nat → Option Nat} {C : String} {j : Int32} {v : Value} (hd : decode (ax_code T mi) pc = .ok (.aaload, 1)) (ha : h.1 a = some (.inl (t, n, .inr (.inr (.inr (.inr f)))))) (hb : a ≠ ax_big) (ht : (ax_ty T)[t]? = some (.object C)) (hj : vp_in j n) (hx : va_rf (f j.toNatClampNeg) = v) (k : ax_Go T d mi (pc + 1) ls (v :: st) h o) : ax_Go T d mi pc ls (.int j :: .ref a :: st) h o := by
  subst hx
  refine ag_mem hd rfl ?_ k
  have hj' : ¬ (j < 0 ∨ n ≤ j.toNatClampNeg) := hj
  simp only [ax_mem, ax_ald, if_neg hb, ha, if_neg hj', ht]
theorem ag_sald {j x : Int32} {L : Nat} {xs : Nat → Int32} (hsc : ax_sc T = some (L, xs)) (hd : decode (ax_code T mi) pc = .ok (.iaload, 1)) (hj : vp_in j L) (hx : xs j.toNatClampNeg = x) (k : ax_Go T d mi (pc + 1) ls (.int x :: st) h o) : ax_Go T d mi pc ls (.int j :: .ref ax_big :: st) h o := by
  subst hx
  refine ag_mem hd rfl ?_ k
  have hj' : ¬ (j < 0 ∨ L ≤ j.toNatClampNeg) := hj
  simp only [ax_mem, ax_ald, if_true, ax_scr, hsc, if_neg hj']
theorem ag_slen {L : Nat} {xs : Nat → Int32} (hsc : ax_sc T = some (L, xs)) (hd : decode (ax_code T mi) pc = .ok (.arraylength, 1)) (k : ax_Go T d mi (pc + 1) ls (.int (Int32.ofNat L) :: st) h o) : ax_Go T d mi pc ls (.ref ax_big :: st) h o := by
  refine ag_mem hd rfl ?_ k
  simp only [ax_mem, ax_alen, if_true, hsc, Option.map_some]
theorem ag_alen {a t n : Nat} {x : (Nat → Int32) ⊕ (Nat → Int64) ⊕ (Nat → UInt32) ⊕ (Nat → UInt64) ⊕ (Nat → Option Nat)} (hd : decode (ax_code T mi) pc = .ok (.arraylength, 1)) (ha : h.1 a = some (.inl (t, n, x))) (hb : a ≠ ax_big) (ht : t < (ax_ty T).length) (k : ax_Go T d mi (pc + 1) ls (.int (Int32.ofNat n) :: st) h o) : ax_Go T d mi pc ls (.ref a :: st) h o := by
  refine ag_mem hd rfl ?_ k
  simp only [ax_mem, ax_alen, if_neg hb, ha, if_pos ht]
theorem ag_iast {a t n : Nat} {f : Nat → Int32} {j x : Int32} (hd : decode (ax_code T mi) pc = .ok (.iastore, 1)) (ha : h.1 a = some (.inl (t, n, .inl f))) (hb : a < h.2.1) (ht : (ax_ty T)[t]? = some .int) (hj : vp_in j n) (k : ax_Go T d mi (pc + 1) ls st (ax_up h a (.inl (t, n, .inl (upd f j.toNatClampNeg x)))) o) : ax_Go T d mi pc ls (.int x :: .int j :: .ref a :: st) h o := by
  refine ag_mem hd rfl ?_ k
  have hj' : ¬ (h.2.1 ≤ a ∨ j < 0 ∨ n ≤ j.toNatClampNeg) := fun q => q.elim (fun q => Nat.not_lt.mpr q hb) hj
  simp only [ax_mem, ax_ast, ha, if_neg hj', ht]
theorem ag_cast {a t n : Nat} {f : Nat → Int32} {j x : Int32} (hd : decode (ax_code T mi) pc = .ok (.castore, 1)) (ha : h.1 a = some (.inl (t, n, .inl f))) (hb : a < h.2.1) (ht : (ax_ty T)[t]? = some .char) (hj : vp_in j n) (k : ax_Go T d mi (pc + 1) ls st (ax_up h a (.inl (t, n, .inl (upd f j.toNatClampNeg (vp_nar .char x))))) o) : ax_Go T d mi pc ls (.int x :: .int j :: .ref a :: st) h o := by
  refine ag_mem hd rfl ?_ k
  have hj' : ¬ (h.2.1 ≤ a ∨ j < 0 ∨ n ≤ j.toNatClampNeg) := fun q => q.elim (fun q => Nat.not_lt.mpr q hb) hj
  simp only [ax_mem, ax_ast, ha, if_neg hj', ht]
theorem ag_last {a t n : Nat} {f : Nat → Int64} {j : Int32} {x : Int64} (hd : decode (ax_code T mi) pc = .ok (.lastore, 1)) (ha : h.1 a = some (.inl (t, n, .inr (.inl f)))) (hb : a < h.2.1) (ht : (ax_ty T)[t]? = some .long) (hj : vp_in j n) (k : ax_Go T d mi (pc + 1) ls st (ax_up h a (.inl (t, n, .inr (.inl (vp_updL f j.toNatClampNeg x))))) o) : ax_Go T d mi pc ls (.long x :: .int j :: .ref a :: st) h o := by
  refine ag_mem hd rfl ?_ k
  have hj' : ¬ (h.2.1 ≤ a ∨ j < 0 ∨ n ≤ j.toNatClampNeg) := fun q => q.elim (fun q => Nat.not_lt.mpr q hb) hj
  simp only [ax_mem, ax_ast, ha, if_neg hj', ht]
theorem ag_aast {a t n ci y : Nat} {fs : List Value} {C : String} {f : Nat → Option Nat} {j : Int32} (hd : decode (ax_code T mi) pc = .ok (.aastore, 1)) (ha : h.1 a = some (.inl (t, n, .inr (.inr (.inr (.inr f)))))) (hb : a < h.2.1) (ht : (ax_ty T)[t]? = some (.object C)) (hj : vp_in j n) (hy : h.1 y = some (.inr (ci, fs))) (hC : ((ax_cl T)[ci]?).map (fun q => q.1) = some C) (k : ax_Go T d mi (pc + 1) ls st (ax_up h a (.inl (t, n, .inr (.inr (.inr (.inr (va_up f j.toNatClampNeg (some y)))))))) o) : ax_Go T d mi pc ls (.ref y :: .int j :: .ref a :: st) h o := by
  refine ag_mem hd rfl ?_ k
  have hj' : ¬ (h.2.1 ≤ a ∨ j < 0 ∨ n ≤ j.toNatClampNeg) := fun q => q.elim (fun q => Nat.not_lt.mpr q hb) hj
  simp only [ax_mem, ax_ast, ha, if_neg hj', ht, hy, hC, if_true]
theorem ag_invs {idx mj n kd : Nat} {st0 xs r : List Value} {v : Option Value} {h' : ax_H} (hd : decode (ax_code T mi) pc = .ok (.invokestatic idx, 3)) (hpl : ax_pl T mi idx = (kd, mj, n)) (hkd : kd = 6 ∨ kd = 16 ∨ kd = 26) (hst : st0 = xs ++ r) (hn : xs.length = n) (hr : (r.map (fun v => v.category)).sum ≤ 8) (hc : ax_Ca T d mj xs.reverse h (.inl v, h')) (k : ax_Go T d mi (pc + 3) ls (v.toList ++ r) h' o) : ax_Go T d mi pc ls st0 h o := by
  subst hst; subst hn
  refine ag_inv hd rfl rfl ?_ hc k
  simp [ax_inv, hpl, hkd, hr]
theorem ag_invv {idx mj n kd a ci : Nat} {st0 xs r fs : List Value} {v : Option Value} {h' : ax_H} (hd : decode (ax_code T mi) pc = .ok (.invokevirtual idx, 3)) (hpl : ax_pl T mi idx = (kd, mj, n)) (hkd : kd = 7 ∨ kd = 17) (hst : st0 = xs ++ .ref a :: r) (hn : xs.length = n) (ha : h.1 a = some (.inr (ci, fs))) (hC : ((ax_cl T)[ci]?).map (fun q => q.1) = some (ax_nm T mj).cls) (hr : (r.map (fun v => v.category)).sum ≤ 8) (hc : ax_Ca T d mj (.ref a :: xs.reverse) h (.inl v, h')) (k : ax_Go T d mi (pc + 3) ls (v.toList ++ r) h' o) : ax_Go T d mi pc ls st0 h o := by
  subst hst; subst hn
  refine ag_inv hd rfl rfl ?_ hc k
  simp only [ax_inv, hpl, List.drop_left, ha, List.take_left, hkd, hC, hr, and_self, if_true]
theorem ag_invi {idx mj n a kd : Nat} {st0 xs r : List Value} {v : Option Value} {h' : ax_H} (hd : decode (ax_code T mi) pc = .ok (.invokespecial idx, 3)) (hpl : ax_pl T mi idx = (kd, mj, n)) (hkd : kd = 8 ∨ kd = 18) (hst : st0 = xs ++ .ref a :: r) (hn : xs.length = n) (hr : (r.map (fun v => v.category)).sum ≤ 8) (hc : ax_Ca T d mj (.ref a :: xs.reverse) h (.inl v, h')) (k : ax_Go T d mi (pc + 3) ls (v.toList ++ r) h' o) : ax_Go T d mi pc ls st0 h o := by
  subst hst; subst hn
  refine ag_inv hd rfl ?_ ?_ hc k
  · cases xs with
    | nil => rcases hkd with rfl | rfl <;> simp [ax_mem, ax_oini, hpl]
    | cons x xs => rcases hkd with rfl | rfl <;> cases x <;> simp [ax_mem, ax_oini, hpl]
  · simp only [ax_inv, hpl, List.drop_left, List.take_left, hkd, hr, and_self, if_true]
theorem ag_ldc2 {idx v x3 : Nat} (hd : decode (ax_code T mi) pc = .ok (.ldc2_w idx, 3)) (hpl : ax_pl T mi idx = (11, v, x3)) (k : ax_Go T d mi (pc + 3) ls (.long (Int64.ofNat v) :: st) h o) : ax_Go T d mi pc ls st h o := by
  refine ag_mem hd rfl ?_ k
  simp only [ax_mem, ax_ldc2, hpl, if_true]
theorem ag_oini {idx a x2 x3 : Nat} (hd : decode (ax_code T mi) pc = .ok (.invokespecial idx, 3)) (hpl : ax_pl T mi idx = (9, x2, x3)) (hr : (st.map (fun v => v.category)).sum ≤ 8) (k : ax_Go T d mi (pc + 3) ls st h o) : ax_Go T d mi pc ls (.ref a :: st) h o := by
  refine ag_mem hd rfl ?_ k
  simp only [ax_mem, ax_oini, hpl, hr, and_self, if_true]
theorem ag_vret (hd : decode (ax_code T mi) pc = .ok (.return_, 1)) (hr : ax_rt T mi = none) : ax_Go T d mi pc ls [] h (.inl none, h) := ag_ret hd rfl rfl rfl rfl (by rw [hr]; rfl)
theorem ag_iret {x : Int32} {ty : FieldType} (hd : decode (ax_code T mi) pc = .ok (.ireturn, 1)) (hr : ax_rt T mi = some ty) (hn : narrow ty (.int x) = .int x) : ax_Go T d mi pc ls [.int x] h (.inl (some (.int x)), h) := ag_ret hd rfl rfl rfl rfl (by rw [hr]; simp only [ax_ret, hn, if_true])
theorem ag_lret {x : Int64} (hd : decode (ax_code T mi) pc = .ok (.lreturn, 1)) (hr : ax_rt T mi = some .long) : ax_Go T d mi pc ls [.long x] h (.inl (some (.long x)), h) := ag_ret hd rfl rfl rfl rfl (by rw [hr]; rfl)
theorem ag_aret {x : Nat} {C : String} (hd : decode (ax_code T mi) pc = .ok (.areturn, 1)) (hr : ax_rt T mi = some (.object C)) : ax_Go T d mi pc ls [.ref x] h (.inl (some (.ref x)), h) := ag_ret hd rfl rfl rfl rfl (by rw [hr]; rfl)
theorem ag_aretN {C : String} (hd : decode (ax_code T mi) pc = .ok (.areturn, 1)) (hr : ax_rt T mi = some (.object C)) : ax_Go T d mi pc ls [.null] h (.inl (some .null), h) := ag_ret hd rfl rfl rfl rfl (by rw [hr]; rfl)
/-- more steps do no harm -/
theorem ax_loop_more {cf cf' : Nat → List Value → ax_H → Option ax_O} (hcf : ∀ mj av h o, cf mj av h = some o → cf' mj av h = some o) : ∀ (n n' : Nat), n ≤ n' → ∀ (pc : Nat) (ls : ax_L) (st : List Value) (h : ax_H) (o : ax_O), ax_loop T cf mi n pc ls st h = some o → ax_loop T cf' mi n' pc ls st h = some o := by
  intro n
  induction n with
  | zero => intro n' _ pc ls st h o hr; cases hr
  | succ n ih =>
    intro n' hn pc ls st h o hr
    obtain ⟨q, rfl⟩ : ∃ q, n' = q + 1 := ⟨n' - 1, by omega⟩
    have ih := ih q (by omega)
    rw [ax_loop] at hr ⊢
    split at hr
    · split at hr
      · exact ih _ _ _ _ _ hr
      · split at hr
        · rename_i hlen
          simp only [if_pos hlen]
          split at hr
          · exact ih _ _ _ _ _ hr
          · split at hr
            · split at hr
              · rename_i hc
                simp only [hcf _ _ _ _ hc]
                exact ih _ _ _ _ _ hr
              · rename_i hc
                simp only [hcf _ _ _ _ hc]
                split at hr
                · rename_i hcv
                  simp only [hcv, if_true]
                  split at hr
                  · exact ih _ _ _ _ _ hr
                  · cases hr
                · cases hr
              · cases hr
            · exact hr
        · cases hr
    · cases hr
theorem ax_call_more : ∀ (d n n' mi : Nat), n ≤ n' → ∀ (av : List Value) (h : ax_H) (o : ax_O), ax_call T d n mi av h = some o → ax_call T d n' mi av h = some o := by
  intro d
  induction d with
  | zero => intro n n' mi _ av h o hr; cases hr
  | succ d ih =>
    intro n n' mi hn av h o hr
    obtain ⟨hl, h1, h2⟩ := ax_call_spec hr
    rw [ax_call, if_pos hl, ax_loop_more (fun mj av h o => ih n n' mj hn av h o) n n' hn _ _ _ _ _ h1, Option.filter_eq_some_iff]
    exact ⟨rfl, h2⟩
theorem ag_done {n : Nat} {av : List Value} (hr : ax_call T d n mi av h = some o) : ax_Ca T d mi av h o := ⟨n, fun n' hn => ax_call_more d n n' mi hn av h o hr⟩
/-- two tables that are one but for the script: T0 has none -/
def ax_eqT (T0 T : ax_T) : Prop := T0.1 = T.1 ∧ T0.2.1 = T.2.1 ∧ T0.2.2.1 = T.2.2.1 ∧ T0.2.2.2.1 = T.2.2.2.1 ∧ T0.2.2.2.2.1 = T.2.2.2.2.1 ∧ T0.2.2.2.2.2.1 = T.2.2.2.2.2.1 ∧ ax_sc T0 = none
end AX5
end
section
/-! a run that reads no script is a run at any script -/
section AX6
variable {m : Nat → MethodName × ByteArray × Nat × Option FieldType} {pl : Nat → Nat → Nat × Nat × Nat} {cl : List vw_C} {ft : Nat → Nat → FieldType} {ty : List FieldType} {hs : Nat → List (Nat × Nat × Nat × Nat)} {sc : Option (Nat × (Nat → Int32))}
variable {mi pc : Nat} {i : Instr} {ls : ax_L} {st : List Value} {h : ax_H}
theorem ax_ald_up {i : Instr} {j : Int32} {a : Nat} {r : List Value} {q : ax_S} (hp : ax_ald (m, pl, cl, ft, ty, hs, none) i j a pc ls r h = some q) : ax_ald (m, pl, cl, ft, ty, hs, sc) i j a pc ls r h = some q := by
  unfold ax_ald at hp ⊢
  split at hp
  · unfold ax_scr at hp
    split at hp <;> cases hp
  · rename_i hb
    rw [if_neg hb]
    exact hp
theorem ax_ald_no {i : Instr} {j : Int32} {a : Nat} {r : List Value} (hi : i ≠ .iaload) (hp : ax_ald (m, pl, cl, ft, ty, hs, none) i j a pc ls r h = none) : ax_ald (m, pl, cl, ft, ty, hs, sc) i j a pc ls r h = none := by
  unfold ax_ald at hp ⊢
  split at hp
  · rename_i hb
    rw [if_pos hb]
    unfold ax_scr
    split
    · exact absurd rfl hi
    · rfl
  · rename_i hb
    rw [if_neg hb]
    exact hp
theorem ax_alen_up {a : Nat} {r : List Value} {q : ax_S} (hp : ax_alen (m, pl, cl, ft, ty, hs, none) a pc ls r h = some q) : ax_alen (m, pl, cl, ft, ty, hs, sc) a pc ls r h = some q := by
  unfold ax_alen at hp ⊢
  split at hp
  · cases hp
  · rename_i hb
    rw [if_neg hb]
    exact hp
theorem ax_mem_up {q : ax_S} (hp : ax_mem (m, pl, cl, ft, ty, hs, none) mi i pc ls st h = some q) : ax_mem (m, pl, cl, ft, ty, hs, sc) mi i pc ls st h = some q := by
  unfold ax_mem at hp
  split at hp
  · exact hp
  · exact hp
  · exact ax_ald_up hp
  · exact ax_ald_up hp
  · exact ax_ald_up hp
  · exact ax_ald_up hp
  · exact hp
  · exact hp
  · exact hp
  · exact hp
  · exact ax_alen_up hp
  · exact hp
  · exact hp
  · exact hp
  · exact hp
  · exact hp
  · cases hp
theorem ax_mem_no (h1 : i ≠ .iaload) (h2 : i ≠ .arraylength) (hp : ax_mem (m, pl, cl, ft, ty, hs, none) mi i pc ls st h = none) : ax_mem (m, pl, cl, ft, ty, hs, sc) mi i pc ls st h = none := by
  unfold ax_mem at hp ⊢
  split at hp
  · exact hp
  · exact hp
  · exact absurd rfl h1
  · exact ax_ald_no (by decide) hp
  · exact ax_ald_no (by decide) hp
  · exact ax_ald_no (by decide) hp
  · exact hp
  · exact hp
  · exact hp
  · exact hp
  · exact absurd rfl h2
  · exact hp
  · exact hp
  · exact hp
  · exact hp
  · exact hp
  · exact hp
theorem ax_loop_up {cf cf' : Nat → List Value → ax_H → Option ax_O} (hcf : ∀ mj av h o, cf mj av h = some o → cf' mj av h = some o) : ∀ (n pc : Nat) (ls : ax_L) (st : List Value) (h : ax_H) (o : ax_O), ax_loop (m, pl, cl, ft, ty, hs, none) cf mi n pc ls st h = some o → ax_loop (m, pl, cl, ft, ty, hs, sc) cf' mi n pc ls st h = some o := by
  intro n
  induction n with
  | zero => intro pc ls st h o hr; cases hr
  | succ n ih =>
    intro pc ls st h o hr
    rw [ax_loop] at hr ⊢
    split at hr
    · rename_i i len hd
      have hd' : decode (ax_code (m, pl, cl, ft, ty, hs, sc) mi) pc = .ok (i, len) := hd
      rw [hd']
      dsimp only
      split at hr
      · exact ih _ _ _ _ _ hr
      · split at hr
        · rename_i hlen
          simp only [if_pos hlen]
          split at hr
          · rename_i hm
            simp only [ax_mem_up (sc := sc) hm]
            exact ih _ _ _ _ _ hr
          · rename_i hm
            by_cases h1 : i = .iaload
            · subst h1
              exact absurd hr (by simp [ax_inv, ax_thr, ax_ret])
            by_cases h2 : i = .arraylength
            · subst h2
              exact absurd hr (by simp [ax_inv, ax_thr, ax_ret])
            simp only [ax_mem_no (sc := sc) h1 h2 hm]
            split at hr
            · rename_i mj av r hi
              have hi' : ax_inv (m, pl, cl, ft, ty, hs, sc) mi i st h = some (mj, av, r) := hi
              simp only [hi']
              split at hr
              · rename_i hc
                simp only [hcf _ _ _ _ hc]
                exact ih _ _ _ _ _ hr
              · rename_i x h' hc
                simp only [hcf _ _ _ _ hc]
                split at hr
                · rename_i hcv
                  have hcv' : ax_cv (m, pl, cl, ft, ty, hs, sc) mi i = true := hcv
                  simp only [hcv', if_true]
                  split at hr
                  · rename_i pc' hh
                    have hh' : ax_hd (m, pl, cl, ft, ty, hs, sc) mi pc x = some pc' := hh
                    simp only [hh']
                    exact ih _ _ _ _ _ hr
                  · cases hr
                · cases hr
              · cases hr
            · rename_i hi
              have hi' : ax_inv (m, pl, cl, ft, ty, hs, sc) mi i st h = none := hi
              simp only [hi']
              exact hr
        · cases hr
    · cases hr
theorem ax_call_up : ∀ (d n mi : Nat) (av : List Value) (h : ax_H) (o : ax_O), ax_call (m, pl, cl, ft, ty, hs, none) d n mi av h = some o → ax_call (m, pl, cl, ft, ty, hs, sc) d n mi av h = some o := by
  intro d
  induction d with
  | zero => intro n mi av h o hr; cases hr
  | succ d ih =>
    intro n mi av h o hr
    obtain ⟨hl, h1, h2⟩ := ax_call_spec hr
    have hl' : (ax_sl av).length ≤ ax_mx (m, pl, cl, ft, ty, hs, sc) mi := hl
    rw [ax_call, if_pos hl']
    have := ax_loop_up (sc := sc) (fun mj av h o => ih n mj av h o) n 0 (ax_entry (m, pl, cl, ft, ty, hs, none) mi av) [] h o h1
    have e : ax_loop (m, pl, cl, ft, ty, hs, sc) (ax_call (m, pl, cl, ft, ty, hs, sc) d n) mi n 0 (ax_entry (m, pl, cl, ft, ty, hs, sc) mi av) [] h = some o := this
    rw [e, Option.filter_eq_some_iff]
    exact ⟨rfl, h2⟩
end AX6
end
section
-- ===== PART A: goes FIRST, ahead of the names: the tables' words, and 'selects' of the private methods out of them =====
/-- a private method of a class that the tables say can be made, by its rows of tables_1 -/
def lw_okq (q : MethodName × Nat) : Prop := (q.1.cls ≠ "java/lang/invoke/MethodHandle" ∧ q.1.cls ≠ "java/lang/invoke/VarHandle") ∧ Cond.instantiable q.1.cls q.2 ∈ tables_1 ∧ Cond.privateMethod q.1 ∈ tables_1 ∧ Cond.instanceMethod q.1 ∈ tables_1
theorem lw_p0 : lw_okq (⟨"MailGuard", "textIsRow", "(I)Z"⟩, 4) := ⟨⟨by decide +kernel, by decide +kernel⟩, List.mem_of_getElem? (i := 22) (by decide +kernel), List.mem_of_getElem? (i := 327) (by decide +kernel), List.mem_of_getElem? (i := 328) (by decide +kernel)⟩
theorem lw_p1 : lw_okq (⟨"java/lang/Throwable", "fillInStackTrace", "(I)Ljava/lang/Throwable;"⟩, 6) := ⟨⟨by decide +kernel, by decide +kernel⟩, List.mem_of_getElem? (i := 390) (by decide +kernel), List.mem_of_getElem? (i := 388) (by decide +kernel), List.mem_of_getElem? (i := 389) (by decide +kernel)⟩
theorem lw_p2 : lw_okq (⟨"MailGuard$Checker", "evaluate", "(I)I"⟩, 10) := ⟨⟨by decide +kernel, by decide +kernel⟩, List.mem_of_getElem? (i := 90) (by decide +kernel), List.mem_of_getElem? (i := 480) (by decide +kernel), List.mem_of_getElem? (i := 481) (by decide +kernel)⟩
theorem lw_p3 : lw_okq (⟨"MailGuard$Term", "readModifier", "(LMailGuard$Text;III)Z"⟩, 6) := ⟨⟨by decide +kernel, by decide +kernel⟩, List.mem_of_getElem? (i := 107) (by decide +kernel), List.mem_of_getElem? (i := 581) (by decide +kernel), List.mem_of_getElem? (i := 582) (by decide +kernel)⟩
theorem lw_p4 : lw_okq (⟨"MailGuard$Term", "readMechanism", "(LMailGuard$Text;II)Z"⟩, 6) := ⟨⟨by decide +kernel, by decide +kernel⟩, List.mem_of_getElem? (i := 107) (by decide +kernel), List.mem_of_getElem? (i := 597) (by decide +kernel), List.mem_of_getElem? (i := 598) (by decide +kernel)⟩
theorem lw_p5 : lw_okq (⟨"MailGuard$Term", "readSign", "(C)Z"⟩, 6) := ⟨⟨by decide +kernel, by decide +kernel⟩, List.mem_of_getElem? (i := 107) (by decide +kernel), List.mem_of_getElem? (i := 601) (by decide +kernel), List.mem_of_getElem? (i := 602) (by decide +kernel)⟩
theorem lw_p6 : lw_okq (⟨"MailGuard$Term", "readAddress", "(J)Z"⟩, 6) := ⟨⟨by decide +kernel, by decide +kernel⟩, List.mem_of_getElem? (i := 107) (by decide +kernel), List.mem_of_getElem? (i := 617) (by decide +kernel), List.mem_of_getElem? (i := 618) (by decide +kernel)⟩
theorem lw_p7 : lw_okq (⟨"MailGuard$Checker", "goThrough", "(LMailGuard$Text;I)I"⟩, 10) := ⟨⟨by decide +kernel, by decide +kernel⟩, List.mem_of_getElem? (i := 90) (by decide +kernel), List.mem_of_getElem? (i := 622) (by decide +kernel), List.mem_of_getElem? (i := 623) (by decide +kernel)⟩
theorem lw_p8 : lw_okq (⟨"MailGuard$Checker", "matches", "(LMailGuard$Text;LMailGuard$Term;I)I"⟩, 10) := ⟨⟨by decide +kernel, by decide +kernel⟩, List.mem_of_getElem? (i := 90) (by decide +kernel), List.mem_of_getElem? (i := 630) (by decide +kernel), List.mem_of_getElem? (i := 631) (by decide +kernel)⟩
theorem lw_p9 : lw_okq (⟨"MailGuard$Checker", "spendLookup", "()Z"⟩, 10) := ⟨⟨by decide +kernel, by decide +kernel⟩, List.mem_of_getElem? (i := 90) (by decide +kernel), List.mem_of_getElem? (i := 637) (by decide +kernel), List.mem_of_getElem? (i := 638) (by decide +kernel)⟩
theorem lw_p10 : lw_okq (⟨"MailGuard$Checker", "expand", "(LMailGuard$Text;IILMailGuard$Text;)V"⟩, 10) := ⟨⟨by decide +kernel, by decide +kernel⟩, List.mem_of_getElem? (i := 90) (by decide +kernel), List.mem_of_getElem? (i := 642) (by decide +kernel), List.mem_of_getElem? (i := 643) (by decide +kernel)⟩
theorem lw_p11 : lw_okq (⟨"MailGuard$Checker", "expandMacro", "(LMailGuard$Text;IILMailGuard$Text;)V"⟩, 10) := ⟨⟨by decide +kernel, by decide +kernel⟩, List.mem_of_getElem? (i := 90) (by decide +kernel), List.mem_of_getElem? (i := 647) (by decide +kernel), List.mem_of_getElem? (i := 648) (by decide +kernel)⟩
theorem lw_p12 : lw_okq (⟨"MailGuard$Checker", "evaluateExpanded", "(I)I"⟩, 10) := ⟨⟨by decide +kernel, by decide +kernel⟩, List.mem_of_getElem? (i := 90) (by decide +kernel), List.mem_of_getElem? (i := 663) (by decide +kernel), List.mem_of_getElem? (i := 664) (by decide +kernel)⟩
theorem lw_p13 : lw_okq (⟨"MailGuard$Checker", "hostsMatch", "(LMailGuard$Text;I)I"⟩, 10) := ⟨⟨by decide +kernel, by decide +kernel⟩, List.mem_of_getElem? (i := 90) (by decide +kernel), List.mem_of_getElem? (i := 672) (by decide +kernel), List.mem_of_getElem? (i := 673) (by decide +kernel)⟩
theorem lw_p14 : lw_okq (⟨"MailGuard$Checker", "matchOfCount", "(I)I"⟩, 10) := ⟨⟨by decide +kernel, by decide +kernel⟩, List.mem_of_getElem? (i := 90) (by decide +kernel), List.mem_of_getElem? (i := 676) (by decide +kernel), List.mem_of_getElem? (i := 677) (by decide +kernel)⟩
theorem lw_p15 : lw_okq (⟨"MailGuard$Checker", "mailsMatch", "(LMailGuard$Text;I)I"⟩, 10) := ⟨⟨by decide +kernel, by decide +kernel⟩, List.mem_of_getElem? (i := 90) (by decide +kernel), List.mem_of_getElem? (i := 680) (by decide +kernel), List.mem_of_getElem? (i := 681) (by decide +kernel)⟩
def lw_privs_1 : List (MethodName × Nat) := [(⟨"MailGuard", "textIsRow", "(I)Z"⟩, 4), (⟨"java/lang/Throwable", "fillInStackTrace", "(I)Ljava/lang/Throwable;"⟩, 6), (⟨"MailGuard$Checker", "evaluate", "(I)I"⟩, 10), (⟨"MailGuard$Term", "readModifier", "(LMailGuard$Text;III)Z"⟩, 6), (⟨"MailGuard$Term", "readMechanism", "(LMailGuard$Text;II)Z"⟩, 6), (⟨"MailGuard$Term", "readSign", "(C)Z"⟩, 6), (⟨"MailGuard$Term", "readAddress", "(J)Z"⟩, 6), (⟨"MailGuard$Checker", "goThrough", "(LMailGuard$Text;I)I"⟩, 10), (⟨"MailGuard$Checker", "matches", "(LMailGuard$Text;LMailGuard$Term;I)I"⟩, 10), (⟨"MailGuard$Checker", "spendLookup", "()Z"⟩, 10), (⟨"MailGuard$Checker", "expand", "(LMailGuard$Text;IILMailGuard$Text;)V"⟩, 10), (⟨"MailGuard$Checker", "expandMacro", "(LMailGuard$Text;IILMailGuard$Text;)V"⟩, 10), (⟨"MailGuard$Checker", "evaluateExpanded", "(I)I"⟩, 10), (⟨"MailGuard$Checker", "hostsMatch", "(LMailGuard$Text;I)I"⟩, 10), (⟨"MailGuard$Checker", "matchOfCount", "(I)I"⟩, 10), (⟨"MailGuard$Checker", "mailsMatch", "(LMailGuard$Text;I)I"⟩, 10)]
theorem lw_r1 : ∀ q ∈ lw_privs_1, lw_okq q := List.forall_mem_cons.mpr ⟨lw_p0, List.forall_mem_cons.mpr ⟨lw_p1, List.forall_mem_cons.mpr ⟨lw_p2, List.forall_mem_cons.mpr ⟨lw_p3, List.forall_mem_cons.mpr ⟨lw_p4, List.forall_mem_cons.mpr ⟨lw_p5, List.forall_mem_cons.mpr ⟨lw_p6, List.forall_mem_cons.mpr ⟨lw_p7, List.forall_mem_cons.mpr ⟨lw_p8, List.forall_mem_cons.mpr ⟨lw_p9, List.forall_mem_cons.mpr ⟨lw_p10, List.forall_mem_cons.mpr ⟨lw_p11, List.forall_mem_cons.mpr ⟨lw_p12, List.forall_mem_cons.mpr ⟨lw_p13, List.forall_mem_cons.mpr ⟨lw_p14, List.forall_mem_cons.mpr ⟨lw_p15, fun _ h => absurd h List.not_mem_nil⟩⟩⟩⟩⟩⟩⟩⟩⟩⟩⟩⟩⟩⟩⟩⟩
theorem lw_p16 : lw_okq (⟨"MailGuard$Checker", "redirected", "(LMailGuard$Text;III)I"⟩, 10) := ⟨⟨by decide +kernel, by decide +kernel⟩, List.mem_of_getElem? (i := 90) (by decide +kernel), List.mem_of_getElem? (i := 684) (by decide +kernel), List.mem_of_getElem? (i := 685) (by decide +kernel)⟩
theorem lw_p17 : lw_okq (⟨"MailGuard$Judge", "findPolicy", "(LMailGuard$Text;I)I"⟩, 4) := ⟨⟨by decide +kernel, by decide +kernel⟩, List.mem_of_getElem? (i := 178) (by decide +kernel), List.mem_of_getElem? (i := 718) (by decide +kernel), List.mem_of_getElem? (i := 719) (by decide +kernel)⟩
theorem lw_p18 : lw_okq (⟨"MailGuard$Policy", "readTag", "(LMailGuard$Text;II)Z"⟩, 4) := ⟨⟨by decide +kernel, by decide +kernel⟩, List.mem_of_getElem? (i := 184) (by decide +kernel), List.mem_of_getElem? (i := 752) (by decide +kernel), List.mem_of_getElem? (i := 753) (by decide +kernel)⟩
theorem lw_p19 : lw_okq (⟨"MailGuard$Judge", "isAligned", "(LMailGuard$Text;I)Z"⟩, 4) := ⟨⟨by decide +kernel, by decide +kernel⟩, List.mem_of_getElem? (i := 178) (by decide +kernel), List.mem_of_getElem? (i := 774) (by decide +kernel), List.mem_of_getElem? (i := 775) (by decide +kernel)⟩
theorem lw_p20 : lw_okq (⟨"MailGuardModel", "readAddress", "([III)I"⟩, 49) := ⟨⟨by decide +kernel, by decide +kernel⟩, List.mem_of_getElem? (i := 797) (by decide +kernel), List.mem_of_getElem? (i := 981) (by decide +kernel), List.mem_of_getElem? (i := 982) (by decide +kernel)⟩
theorem lw_p21 : lw_okq (⟨"MailGuardModel", "number", "([IIII)I"⟩, 49) := ⟨⟨by decide +kernel, by decide +kernel⟩, List.mem_of_getElem? (i := 797) (by decide +kernel), List.mem_of_getElem? (i := 985) (by decide +kernel), List.mem_of_getElem? (i := 986) (by decide +kernel)⟩
theorem lw_p22 : lw_okq (⟨"MailGuardModel", "begin", "(II)V"⟩, 49) := ⟨⟨by decide +kernel, by decide +kernel⟩, List.mem_of_getElem? (i := 797) (by decide +kernel), List.mem_of_getElem? (i := 997) (by decide +kernel), List.mem_of_getElem? (i := 998) (by decide +kernel)⟩
theorem lw_p23 : lw_okq (⟨"MailGuardModel", "comes", "(I)V"⟩, 49) := ⟨⟨by decide +kernel, by decide +kernel⟩, List.mem_of_getElem? (i := 797) (by decide +kernel), List.mem_of_getElem? (i := 1001) (by decide +kernel), List.mem_of_getElem? (i := 1002) (by decide +kernel)⟩
theorem lw_p24 : lw_okq (⟨"MailGuardModel", "end", "(I)V"⟩, 49) := ⟨⟨by decide +kernel, by decide +kernel⟩, List.mem_of_getElem? (i := 797) (by decide +kernel), List.mem_of_getElem? (i := 1005) (by decide +kernel), List.mem_of_getElem? (i := 1006) (by decide +kernel)⟩
theorem lw_p25 : lw_okq (⟨"MailGuardModel", "findRecord", "(I)V"⟩, 49) := ⟨⟨by decide +kernel, by decide +kernel⟩, List.mem_of_getElem? (i := 797) (by decide +kernel), List.mem_of_getElem? (i := 1009) (by decide +kernel), List.mem_of_getElem? (i := 1010) (by decide +kernel)⟩
theorem lw_p26 : lw_okq (⟨"MailGuardModel", "ask", "(I)Z"⟩, 49) := ⟨⟨by decide +kernel, by decide +kernel⟩, List.mem_of_getElem? (i := 797) (by decide +kernel), List.mem_of_getElem? (i := 1013) (by decide +kernel), List.mem_of_getElem? (i := 1014) (by decide +kernel)⟩
theorem lw_p27 : lw_okq (⟨"MailGuardModel", "bears", "(I)Z"⟩, 49) := ⟨⟨by decide +kernel, by decide +kernel⟩, List.mem_of_getElem? (i := 797) (by decide +kernel), List.mem_of_getElem? (i := 1017) (by decide +kernel), List.mem_of_getElem? (i := 1018) (by decide +kernel)⟩
theorem lw_p28 : lw_okq (⟨"MailGuardModel", "counts", "(I)Z"⟩, 49) := ⟨⟨by decide +kernel, by decide +kernel⟩, List.mem_of_getElem? (i := 797) (by decide +kernel), List.mem_of_getElem? (i := 1021) (by decide +kernel), List.mem_of_getElem? (i := 1022) (by decide +kernel)⟩
theorem lw_p29 : lw_okq (⟨"MailGuardModel", "word", "(IIIII)Z"⟩, 49) := ⟨⟨by decide +kernel, by decide +kernel⟩, List.mem_of_getElem? (i := 797) (by decide +kernel), List.mem_of_getElem? (i := 1025) (by decide +kernel), List.mem_of_getElem? (i := 1026) (by decide +kernel)⟩
theorem lw_p30 : lw_okq (⟨"MailGuardModel", "at", "(II)I"⟩, 49) := ⟨⟨by decide +kernel, by decide +kernel⟩, List.mem_of_getElem? (i := 797) (by decide +kernel), List.mem_of_getElem? (i := 1029) (by decide +kernel), List.mem_of_getElem? (i := 1030) (by decide +kernel)⟩
theorem lw_p31 : lw_okq (⟨"MailGuardModel", "terms", "(I)Z"⟩, 49) := ⟨⟨by decide +kernel, by decide +kernel⟩, List.mem_of_getElem? (i := 797) (by decide +kernel), List.mem_of_getElem? (i := 1033) (by decide +kernel), List.mem_of_getElem? (i := 1034) (by decide +kernel)⟩
def lw_privs_2 : List (MethodName × Nat) := [(⟨"MailGuard$Checker", "redirected", "(LMailGuard$Text;III)I"⟩, 10), (⟨"MailGuard$Judge", "findPolicy", "(LMailGuard$Text;I)I"⟩, 4), (⟨"MailGuard$Policy", "readTag", "(LMailGuard$Text;II)Z"⟩, 4), (⟨"MailGuard$Judge", "isAligned", "(LMailGuard$Text;I)Z"⟩, 4), (⟨"MailGuardModel", "readAddress", "([III)I"⟩, 49), (⟨"MailGuardModel", "number", "([IIII)I"⟩, 49), (⟨"MailGuardModel", "begin", "(II)V"⟩, 49), (⟨"MailGuardModel", "comes", "(I)V"⟩, 49), (⟨"MailGuardModel", "end", "(I)V"⟩, 49), (⟨"MailGuardModel", "findRecord", "(I)V"⟩, 49), (⟨"MailGuardModel", "ask", "(I)Z"⟩, 49), (⟨"MailGuardModel", "bears", "(I)Z"⟩, 49), (⟨"MailGuardModel", "counts", "(I)Z"⟩, 49), (⟨"MailGuardModel", "word", "(IIIII)Z"⟩, 49), (⟨"MailGuardModel", "at", "(II)I"⟩, 49), (⟨"MailGuardModel", "terms", "(I)Z"⟩, 49)]
theorem lw_r2 : ∀ q ∈ lw_privs_2, lw_okq q := List.forall_mem_cons.mpr ⟨lw_p16, List.forall_mem_cons.mpr ⟨lw_p17, List.forall_mem_cons.mpr ⟨lw_p18, List.forall_mem_cons.mpr ⟨lw_p19, List.forall_mem_cons.mpr ⟨lw_p20, List.forall_mem_cons.mpr ⟨lw_p21, List.forall_mem_cons.mpr ⟨lw_p22, List.forall_mem_cons.mpr ⟨lw_p23, List.forall_mem_cons.mpr ⟨lw_p24, List.forall_mem_cons.mpr ⟨lw_p25, List.forall_mem_cons.mpr ⟨lw_p26, List.forall_mem_cons.mpr ⟨lw_p27, List.forall_mem_cons.mpr ⟨lw_p28, List.forall_mem_cons.mpr ⟨lw_p29, List.forall_mem_cons.mpr ⟨lw_p30, List.forall_mem_cons.mpr ⟨lw_p31, fun _ h => absurd h List.not_mem_nil⟩⟩⟩⟩⟩⟩⟩⟩⟩⟩⟩⟩⟩⟩⟩⟩
theorem lw_p32 : lw_okq (⟨"MailGuardModel", "termEnd", "(II)I"⟩, 49) := ⟨⟨by decide +kernel, by decide +kernel⟩, List.mem_of_getElem? (i := 797) (by decide +kernel), List.mem_of_getElem? (i := 1037) (by decide +kernel), List.mem_of_getElem? (i := 1038) (by decide +kernel)⟩
theorem lw_p33 : lw_okq (⟨"MailGuardModel", "modifier", "(III)I"⟩, 49) := ⟨⟨by decide +kernel, by decide +kernel⟩, List.mem_of_getElem? (i := 797) (by decide +kernel), List.mem_of_getElem? (i := 1041) (by decide +kernel), List.mem_of_getElem? (i := 1042) (by decide +kernel)⟩
theorem lw_p34 : lw_okq (⟨"MailGuardModel", "isRedirect", "(III)Z"⟩, 49) := ⟨⟨by decide +kernel, by decide +kernel⟩, List.mem_of_getElem? (i := 797) (by decide +kernel), List.mem_of_getElem? (i := 1045) (by decide +kernel), List.mem_of_getElem? (i := 1046) (by decide +kernel)⟩
theorem lw_p35 : lw_okq (⟨"MailGuardModel", "isTarget", "(IIIZ)Z"⟩, 49) := ⟨⟨by decide +kernel, by decide +kernel⟩, List.mem_of_getElem? (i := 797) (by decide +kernel), List.mem_of_getElem? (i := 1049) (by decide +kernel), List.mem_of_getElem? (i := 1050) (by decide +kernel)⟩
theorem lw_p36 : lw_okq (⟨"MailGuardModel", "macroEnd", "(III)I"⟩, 49) := ⟨⟨by decide +kernel, by decide +kernel⟩, List.mem_of_getElem? (i := 797) (by decide +kernel), List.mem_of_getElem? (i := 1053) (by decide +kernel), List.mem_of_getElem? (i := 1054) (by decide +kernel)⟩
theorem lw_p37 : lw_okq (⟨"MailGuardModel", "isMechanism", "(III)Z"⟩, 49) := ⟨⟨by decide +kernel, by decide +kernel⟩, List.mem_of_getElem? (i := 797) (by decide +kernel), List.mem_of_getElem? (i := 1060) (by decide +kernel), List.mem_of_getElem? (i := 1061) (by decide +kernel)⟩
theorem lw_p38 : lw_okq (⟨"MailGuardModel", "mechanism", "(III)I"⟩, 49) := ⟨⟨by decide +kernel, by decide +kernel⟩, List.mem_of_getElem? (i := 797) (by decide +kernel), List.mem_of_getElem? (i := 1064) (by decide +kernel), List.mem_of_getElem? (i := 1065) (by decide +kernel)⟩
theorem lw_p39 : lw_okq (⟨"MailGuardModel", "slash", "(III)I"⟩, 49) := ⟨⟨by decide +kernel, by decide +kernel⟩, List.mem_of_getElem? (i := 797) (by decide +kernel), List.mem_of_getElem? (i := 1068) (by decide +kernel), List.mem_of_getElem? (i := 1069) (by decide +kernel)⟩
theorem lw_p40 : lw_okq (⟨"MailGuardModel", "step", "()V"⟩, 49) := ⟨⟨by decide +kernel, by decide +kernel⟩, List.mem_of_getElem? (i := 797) (by decide +kernel), List.mem_of_getElem? (i := 1072) (by decide +kernel), List.mem_of_getElem? (i := 1073) (by decide +kernel)⟩
theorem lw_p41 : lw_okq (⟨"MailGuardModel", "does", "(IIII)I"⟩, 49) := ⟨⟨by decide +kernel, by decide +kernel⟩, List.mem_of_getElem? (i := 797) (by decide +kernel), List.mem_of_getElem? (i := 1079) (by decide +kernel), List.mem_of_getElem? (i := 1080) (by decide +kernel)⟩
theorem lw_p42 : lw_okq (⟨"MailGuardModel", "lookUp", "()Z"⟩, 49) := ⟨⟨by decide +kernel, by decide +kernel⟩, List.mem_of_getElem? (i := 797) (by decide +kernel), List.mem_of_getElem? (i := 1086) (by decide +kernel), List.mem_of_getElem? (i := 1087) (by decide +kernel)⟩
theorem lw_p43 : lw_okq (⟨"MailGuardModel", "expand", "(III)Z"⟩, 49) := ⟨⟨by decide +kernel, by decide +kernel⟩, List.mem_of_getElem? (i := 797) (by decide +kernel), List.mem_of_getElem? (i := 1090) (by decide +kernel), List.mem_of_getElem? (i := 1091) (by decide +kernel)⟩
theorem lw_p44 : lw_okq (⟨"MailGuardModel", "put", "(I)V"⟩, 49) := ⟨⟨by decide +kernel, by decide +kernel⟩, List.mem_of_getElem? (i := 797) (by decide +kernel), List.mem_of_getElem? (i := 1094) (by decide +kernel), List.mem_of_getElem? (i := 1095) (by decide +kernel)⟩
theorem lw_p45 : lw_okq (⟨"MailGuardModel", "fetch", "(I)V"⟩, 49) := ⟨⟨by decide +kernel, by decide +kernel⟩, List.mem_of_getElem? (i := 797) (by decide +kernel), List.mem_of_getElem? (i := 1098) (by decide +kernel), List.mem_of_getElem? (i := 1099) (by decide +kernel)⟩
theorem lw_p46 : lw_okq (⟨"MailGuardModel", "sourceNumber", "(I)V"⟩, 49) := ⟨⟨by decide +kernel, by decide +kernel⟩, List.mem_of_getElem? (i := 797) (by decide +kernel), List.mem_of_getElem? (i := 1102) (by decide +kernel), List.mem_of_getElem? (i := 1103) (by decide +kernel)⟩
theorem lw_p47 : lw_okq (⟨"MailGuardModel", "putParts", "(IZ)V"⟩, 49) := ⟨⟨by decide +kernel, by decide +kernel⟩, List.mem_of_getElem? (i := 797) (by decide +kernel), List.mem_of_getElem? (i := 1106) (by decide +kernel), List.mem_of_getElem? (i := 1107) (by decide +kernel)⟩
def lw_privs_3 : List (MethodName × Nat) := [(⟨"MailGuardModel", "termEnd", "(II)I"⟩, 49), (⟨"MailGuardModel", "modifier", "(III)I"⟩, 49), (⟨"MailGuardModel", "isRedirect", "(III)Z"⟩, 49), (⟨"MailGuardModel", "isTarget", "(IIIZ)Z"⟩, 49), (⟨"MailGuardModel", "macroEnd", "(III)I"⟩, 49), (⟨"MailGuardModel", "isMechanism", "(III)Z"⟩, 49), (⟨"MailGuardModel", "mechanism", "(III)I"⟩, 49), (⟨"MailGuardModel", "slash", "(III)I"⟩, 49), (⟨"MailGuardModel", "step", "()V"⟩, 49), (⟨"MailGuardModel", "does", "(IIII)I"⟩, 49), (⟨"MailGuardModel", "lookUp", "()Z"⟩, 49), (⟨"MailGuardModel", "expand", "(III)Z"⟩, 49), (⟨"MailGuardModel", "put", "(I)V"⟩, 49), (⟨"MailGuardModel", "fetch", "(I)V"⟩, 49), (⟨"MailGuardModel", "sourceNumber", "(I)V"⟩, 49), (⟨"MailGuardModel", "putParts", "(IZ)V"⟩, 49)]
theorem lw_r3 : ∀ q ∈ lw_privs_3, lw_okq q := List.forall_mem_cons.mpr ⟨lw_p32, List.forall_mem_cons.mpr ⟨lw_p33, List.forall_mem_cons.mpr ⟨lw_p34, List.forall_mem_cons.mpr ⟨lw_p35, List.forall_mem_cons.mpr ⟨lw_p36, List.forall_mem_cons.mpr ⟨lw_p37, List.forall_mem_cons.mpr ⟨lw_p38, List.forall_mem_cons.mpr ⟨lw_p39, List.forall_mem_cons.mpr ⟨lw_p40, List.forall_mem_cons.mpr ⟨lw_p41, List.forall_mem_cons.mpr ⟨lw_p42, List.forall_mem_cons.mpr ⟨lw_p43, List.forall_mem_cons.mpr ⟨lw_p44, List.forall_mem_cons.mpr ⟨lw_p45, List.forall_mem_cons.mpr ⟨lw_p46, List.forall_mem_cons.mpr ⟨lw_p47, fun _ h => absurd h List.not_mem_nil⟩⟩⟩⟩⟩⟩⟩⟩⟩⟩⟩⟩⟩⟩⟩⟩
theorem lw_p48 : lw_okq (⟨"MailGuardModel", "nameDomain", "()V"⟩, 49) := ⟨⟨by decide +kernel, by decide +kernel⟩, List.mem_of_getElem? (i := 797) (by decide +kernel), List.mem_of_getElem? (i := 1110) (by decide +kernel), List.mem_of_getElem? (i := 1111) (by decide +kernel)⟩
theorem lw_p49 : lw_okq (⟨"MailGuardModel", "mails", "(I)I"⟩, 49) := ⟨⟨by decide +kernel, by decide +kernel⟩, List.mem_of_getElem? (i := 797) (by decide +kernel), List.mem_of_getElem? (i := 1114) (by decide +kernel), List.mem_of_getElem? (i := 1115) (by decide +kernel)⟩
theorem lw_p50 : lw_okq (⟨"MailGuardModel", "empty", "()I"⟩, 49) := ⟨⟨by decide +kernel, by decide +kernel⟩, List.mem_of_getElem? (i := 797) (by decide +kernel), List.mem_of_getElem? (i := 1118) (by decide +kernel), List.mem_of_getElem? (i := 1119) (by decide +kernel)⟩
theorem lw_p51 : lw_okq (⟨"MailGuardModel", "isOf", "(I)Z"⟩, 49) := ⟨⟨by decide +kernel, by decide +kernel⟩, List.mem_of_getElem? (i := 797) (by decide +kernel), List.mem_of_getElem? (i := 1122) (by decide +kernel), List.mem_of_getElem? (i := 1123) (by decide +kernel)⟩
theorem lw_p52 : lw_okq (⟨"MailGuardModel", "saveName", "()V"⟩, 49) := ⟨⟨by decide +kernel, by decide +kernel⟩, List.mem_of_getElem? (i := 797) (by decide +kernel), List.mem_of_getElem? (i := 1126) (by decide +kernel), List.mem_of_getElem? (i := 1127) (by decide +kernel)⟩
theorem lw_p53 : lw_okq (⟨"MailGuardModel", "hosts", "(I)I"⟩, 49) := ⟨⟨by decide +kernel, by decide +kernel⟩, List.mem_of_getElem? (i := 797) (by decide +kernel), List.mem_of_getElem? (i := 1130) (by decide +kernel), List.mem_of_getElem? (i := 1131) (by decide +kernel)⟩
theorem lw_p54 : lw_okq (⟨"MailGuardModel", "loadName", "()V"⟩, 49) := ⟨⟨by decide +kernel, by decide +kernel⟩, List.mem_of_getElem? (i := 797) (by decide +kernel), List.mem_of_getElem? (i := 1134) (by decide +kernel), List.mem_of_getElem? (i := 1135) (by decide +kernel)⟩
theorem lw_p55 : lw_okq (⟨"MailGuardModel", "organisation", "([II)I"⟩, 49) := ⟨⟨by decide +kernel, by decide +kernel⟩, List.mem_of_getElem? (i := 797) (by decide +kernel), List.mem_of_getElem? (i := 1150) (by decide +kernel), List.mem_of_getElem? (i := 1151) (by decide +kernel)⟩
theorem lw_p56 : lw_okq (⟨"MailGuardModel", "seek", "([III)I"⟩, 49) := ⟨⟨by decide +kernel, by decide +kernel⟩, List.mem_of_getElem? (i := 797) (by decide +kernel), List.mem_of_getElem? (i := 1154) (by decide +kernel), List.mem_of_getElem? (i := 1155) (by decide +kernel)⟩
theorem lw_p57 : lw_okq (⟨"MailGuardModel", "isPolicy", "(I)Z"⟩, 49) := ⟨⟨by decide +kernel, by decide +kernel⟩, List.mem_of_getElem? (i := 797) (by decide +kernel), List.mem_of_getElem? (i := 1158) (by decide +kernel), List.mem_of_getElem? (i := 1159) (by decide +kernel)⟩
theorem lw_p58 : lw_okq (⟨"MailGuardModel", "blanks", "(II)I"⟩, 49) := ⟨⟨by decide +kernel, by decide +kernel⟩, List.mem_of_getElem? (i := 797) (by decide +kernel), List.mem_of_getElem? (i := 1162) (by decide +kernel), List.mem_of_getElem? (i := 1163) (by decide +kernel)⟩
theorem lw_p59 : lw_okq (⟨"MailGuardModel", "tag", "(IIII)Z"⟩, 49) := ⟨⟨by decide +kernel, by decide +kernel⟩, List.mem_of_getElem? (i := 797) (by decide +kernel), List.mem_of_getElem? (i := 1166) (by decide +kernel), List.mem_of_getElem? (i := 1167) (by decide +kernel)⟩
theorem lw_p60 : lw_okq (⟨"MailGuardModel", "action", "(III)I"⟩, 49) := ⟨⟨by decide +kernel, by decide +kernel⟩, List.mem_of_getElem? (i := 797) (by decide +kernel), List.mem_of_getElem? (i := 1170) (by decide +kernel), List.mem_of_getElem? (i := 1171) (by decide +kernel)⟩
def lw_privs_4 : List (MethodName × Nat) := [(⟨"MailGuardModel", "nameDomain", "()V"⟩, 49), (⟨"MailGuardModel", "mails", "(I)I"⟩, 49), (⟨"MailGuardModel", "empty", "()I"⟩, 49), (⟨"MailGuardModel", "isOf", "(I)Z"⟩, 49), (⟨"MailGuardModel", "saveName", "()V"⟩, 49), (⟨"MailGuardModel", "hosts", "(I)I"⟩, 49), (⟨"MailGuardModel", "loadName", "()V"⟩, 49), (⟨"MailGuardModel", "organisation", "([II)I"⟩, 49), (⟨"MailGuardModel", "seek", "([III)I"⟩, 49), (⟨"MailGuardModel", "isPolicy", "(I)Z"⟩, 49), (⟨"MailGuardModel", "blanks", "(II)I"⟩, 49), (⟨"MailGuardModel", "tag", "(IIII)Z"⟩, 49), (⟨"MailGuardModel", "action", "(III)I"⟩, 49)]
theorem lw_r4 : ∀ q ∈ lw_privs_4, lw_okq q := List.forall_mem_cons.mpr ⟨lw_p48, List.forall_mem_cons.mpr ⟨lw_p49, List.forall_mem_cons.mpr ⟨lw_p50, List.forall_mem_cons.mpr ⟨lw_p51, List.forall_mem_cons.mpr ⟨lw_p52, List.forall_mem_cons.mpr ⟨lw_p53, List.forall_mem_cons.mpr ⟨lw_p54, List.forall_mem_cons.mpr ⟨lw_p55, List.forall_mem_cons.mpr ⟨lw_p56, List.forall_mem_cons.mpr ⟨lw_p57, List.forall_mem_cons.mpr ⟨lw_p58, List.forall_mem_cons.mpr ⟨lw_p59, List.forall_mem_cons.mpr ⟨lw_p60, fun _ h => absurd h List.not_mem_nil⟩⟩⟩⟩⟩⟩⟩⟩⟩⟩⟩⟩⟩
def lw_privs : List (MethodName × Nat) := lw_privs_1 ++ (lw_privs_2 ++ (lw_privs_3 ++ (lw_privs_4)))
def lw_tbl : List Cond := k2_sels lw_privs ++ tables_1
theorem lw_privs_ok : ∀ q ∈ lw_privs, lw_okq q := by
  show ∀ q ∈ lw_privs_1 ++ (lw_privs_2 ++ (lw_privs_3 ++ (lw_privs_4))), lw_okq q
  exact List.forall_mem_append.mpr ⟨lw_r1, List.forall_mem_append.mpr ⟨lw_r2, List.forall_mem_append.mpr ⟨lw_r3, lw_r4⟩⟩⟩
end
section
/-! the tables of this claim for the abstract machine (written by a program) -/
def mg_TB : List Jvm.Cond := lw_tbl.filter ax_gw
theorem mg_of {w : Jvm.Cond} (h : w ∈ lw_tbl) (hg : ax_gw w = true) : w ∈ mg_TB := List.mem_filter.mpr ⟨h, hg⟩
theorem mg_p0 (i : Nat) {w : Jvm.Cond} (h : (k2_sels lw_privs_1)[i]? = some w) (hg : ax_gw w = true) : w ∈ mg_TB := mg_of (List.mem_append_left _ (by
  have h1 := List.mem_of_getElem? h
  unfold k2_sels at h1 ⊢
  rw [show lw_privs = lw_privs_1 ++ (lw_privs_2 ++ (lw_privs_3 ++ lw_privs_4)) from rfl]
  simp only [List.map_append, List.mem_append]
  simp only [h1, true_or, or_true])) hg
theorem mg_p1 (i : Nat) {w : Jvm.Cond} (h : (k2_sels lw_privs_2)[i]? = some w) (hg : ax_gw w = true) : w ∈ mg_TB := mg_of (List.mem_append_left _ (by
  have h1 := List.mem_of_getElem? h
  unfold k2_sels at h1 ⊢
  rw [show lw_privs = lw_privs_1 ++ (lw_privs_2 ++ (lw_privs_3 ++ lw_privs_4)) from rfl]
  simp only [List.map_append, List.mem_append]
  simp only [h1, true_or, or_true])) hg
theorem mg_p2 (i : Nat) {w : Jvm.Cond} (h : (k2_sels lw_privs_3)[i]? = some w) (hg : ax_gw w = true) : w ∈ mg_TB := mg_of (List.mem_append_left _ (by
  have h1 := List.mem_of_getElem? h
  unfold k2_sels at h1 ⊢
  rw [show lw_privs = lw_privs_1 ++ (lw_privs_2 ++ (lw_privs_3 ++ lw_privs_4)) from rfl]
  simp only [List.map_append, List.mem_append]
  simp only [h1, true_or, or_true])) hg
theorem mg_p3 (i : Nat) {w : Jvm.Cond} (h : (k2_sels lw_privs_4)[i]? = some w) (hg : ax_gw w = true) : w ∈ mg_TB := mg_of (List.mem_append_left _ (by
  have h1 := List.mem_of_getElem? h
  unfold k2_sels at h1 ⊢
  rw [show lw_privs = lw_privs_1 ++ (lw_privs_2 ++ (lw_privs_3 ++ lw_privs_4)) from rfl]
  simp only [List.map_append, List.mem_append]
  simp only [h1, true_or, or_true])) hg
theorem mg_t1 (i : Nat) {w : Jvm.Cond} (h : tables_1_1[i]? = some w) (hg : ax_gw w = true) : w ∈ mg_TB := mg_of (List.mem_append_right _ (by
  have h1 := List.mem_of_getElem? h
  rw [show tables_1 = tables_1_1 ++ (tables_1_2 ++ (tables_1_3 ++ (tables_1_4 ++ tables_1_5))) from rfl]
  simp only [List.mem_append]
  simp only [h1, true_or, or_true])) hg
theorem mg_t2 (i : Nat) {w : Jvm.Cond} (h : tables_1_2[i]? = some w) (hg : ax_gw w = true) : w ∈ mg_TB := mg_of (List.mem_append_right _ (by
  have h1 := List.mem_of_getElem? h
  rw [show tables_1 = tables_1_1 ++ (tables_1_2 ++ (tables_1_3 ++ (tables_1_4 ++ tables_1_5))) from rfl]
  simp only [List.mem_append]
  simp only [h1, true_or, or_true])) hg
theorem mg_t3 (i : Nat) {w : Jvm.Cond} (h : tables_1_3[i]? = some w) (hg : ax_gw w = true) : w ∈ mg_TB := mg_of (List.mem_append_right _ (by
  have h1 := List.mem_of_getElem? h
  rw [show tables_1 = tables_1_1 ++ (tables_1_2 ++ (tables_1_3 ++ (tables_1_4 ++ tables_1_5))) from rfl]
  simp only [List.mem_append]
  simp only [h1, true_or, or_true])) hg
theorem mg_t4 (i : Nat) {w : Jvm.Cond} (h : tables_1_4[i]? = some w) (hg : ax_gw w = true) : w ∈ mg_TB := mg_of (List.mem_append_right _ (by
  have h1 := List.mem_of_getElem? h
  rw [show tables_1 = tables_1_1 ++ (tables_1_2 ++ (tables_1_3 ++ (tables_1_4 ++ tables_1_5))) from rfl]
  simp only [List.mem_append]
  simp only [h1, true_or, or_true])) hg
theorem mg_t5 (i : Nat) {w : Jvm.Cond} (h : tables_1_5[i]? = some w) (hg : ax_gw w = true) : w ∈ mg_TB := mg_of (List.mem_append_right _ (by
  have h1 := List.mem_of_getElem? h
  rw [show tables_1 = tables_1_1 ++ (tables_1_2 ++ (tables_1_3 ++ (tables_1_4 ++ tables_1_5))) from rfl]
  simp only [List.mem_append]
  simp only [h1, true_or, or_true])) hg
def F_Guard : u_T := fun k => match k with
  | 0 => ("MailGuard", "text", "LMailGuard$Text;", true)
  | 1 => ("MailGuard", "table", "LMailGuard$Table;", true)
  | 2 => ("MailGuard", "checker", "LMailGuard$Checker;", true)
  | _ => ("MailGuard", "judge", "LMailGuard$Judge;", true)
def t_Guard : Nat → FieldType := fun k => match k with
  | 0 => .object "MailGuard$Text"
  | 1 => .object "MailGuard$Table"
  | 2 => .object "MailGuard$Checker"
  | _ => .object "MailGuard$Judge"
def F_Text : u_T := fun k => match k with
  | 0 => ("MailGuard$Text", "chars", "[C", true)
  | _ => ("MailGuard$Text", "size", "I", false)
def t_Text : Nat → FieldType := fun k => match k with
  | 0 => .array .char
  | _ => .int
def F_Row : u_T := fun k => match k with
  | 0 => ("MailGuard$Row", "kind", "I", false)
  | 1 => ("MailGuard$Row", "name", "LMailGuard$Text;", true)
  | 2 => ("MailGuard$Row", "data", "LMailGuard$Text;", true)
  | _ => ("MailGuard$Row", "address", "I", false)
def t_Row : Nat → FieldType := fun k => match k with
  | 0 => .int
  | 1 => .object "MailGuard$Text"
  | 2 => .object "MailGuard$Text"
  | _ => .int
def F_Table : u_T := fun k => match k with
  | 0 => ("MailGuard$Table", "rows", "[LMailGuard$Row;", true)
  | 1 => ("MailGuard$Table", "count", "I", false)
  | _ => ("MailGuard$Table", "lastAsked", "LMailGuard$Text;", true)
def t_Table : Nat → FieldType := fun k => match k with
  | 0 => .array (.object "MailGuard$Row")
  | 1 => .int
  | _ => .object "MailGuard$Text"
def F_Term : u_T := fun k => match k with
  | 0 => ("MailGuard$Term", "kind", "I", false)
  | 1 => ("MailGuard$Term", "result", "I", false)
  | 2 => ("MailGuard$Term", "targetFrom", "I", false)
  | 3 => ("MailGuard$Term", "targetTo", "I", false)
  | 4 => ("MailGuard$Term", "bits", "I", false)
  | _ => ("MailGuard$Term", "address", "I", false)
def t_Term : Nat → FieldType := fun k => match k with
  | 0 => .int
  | 1 => .int
  | 2 => .int
  | 3 => .int
  | 4 => .int
  | _ => .int
def F_Level : u_T := fun k => match k with
  | 0 => ("MailGuard$Level", "domain", "LMailGuard$Text;", true)
  | _ => ("MailGuard$Level", "term", "LMailGuard$Term;", true)
def t_Level : Nat → FieldType := fun k => match k with
  | 0 => .object "MailGuard$Text"
  | _ => .object "MailGuard$Term"
def F_Checker : u_T := fun k => match k with
  | 0 => ("MailGuard$Checker", "table", "LMailGuard$Table;", true)
  | 1 => ("MailGuard$Checker", "levels", "[LMailGuard$Level;", true)
  | 2 => ("MailGuard$Checker", "expanded", "LMailGuard$Text;", true)
  | 3 => ("MailGuard$Checker", "written", "LMailGuard$Text;", true)
  | 4 => ("MailGuard$Checker", "address", "I", false)
  | 5 => ("MailGuard$Checker", "result", "I", false)
  | 6 => ("MailGuard$Checker", "lookups", "I", false)
  | 7 => ("MailGuard$Checker", "voids", "I", false)
  | 8 => ("MailGuard$Checker", "matched", "I", false)
  | _ => ("MailGuard$Checker", "checks", "I", false)
def t_Checker : Nat → FieldType := fun k => match k with
  | 0 => .object "MailGuard$Table"
  | 1 => .array (.object "MailGuard$Level")
  | 2 => .object "MailGuard$Text"
  | 3 => .object "MailGuard$Text"
  | 4 => .int
  | 5 => .int
  | 6 => .int
  | 7 => .int
  | 8 => .int
  | _ => .int
def F_Policy : u_T := fun k => match k with
  | 0 => ("MailGuard$Policy", "action", "I", false)
  | 1 => ("MailGuard$Policy", "actionBelow", "I", false)
  | 2 => ("MailGuard$Policy", "alignment", "I", false)
  | _ => ("MailGuard$Policy", "percent", "I", false)
def t_Policy : Nat → FieldType := fun k => match k with
  | 0 => .int
  | 1 => .int
  | 2 => .int
  | _ => .int
def F_Judge : u_T := fun k => match k with
  | 0 => ("MailGuard$Judge", "table", "LMailGuard$Table;", true)
  | 1 => ("MailGuard$Judge", "checker", "LMailGuard$Checker;", true)
  | 2 => ("MailGuard$Judge", "found", "LMailGuard$Policy;", true)
  | _ => ("MailGuard$Judge", "policyName", "LMailGuard$Text;", true)
def t_Judge : Nat → FieldType := fun k => match k with
  | 0 => .object "MailGuard$Table"
  | 1 => .object "MailGuard$Checker"
  | 2 => .object "MailGuard$Policy"
  | _ => .object "MailGuard$Text"
def F_Model : u_T := fun k => match k with
  | 0 => ("MailGuardModel", "thrown", "I", false)
  | 1 => ("MailGuardModel", "length", "I", false)
  | 2 => ("MailGuardModel", "text", "[I", false)
  | 3 => ("MailGuardModel", "rows", "I", false)
  | 4 => ("MailGuardModel", "typeOf", "[I", false)
  | 5 => ("MailGuardModel", "row", "[I", false)
  | 6 => ("MailGuardModel", "size", "[I", false)
  | 7 => ("MailGuardModel", "nameSize", "[I", false)
  | 8 => ("MailGuardModel", "addressOf", "[I", false)
  | 9 => ("MailGuardModel", "read", "I", false)
  | 10 => ("MailGuardModel", "nameLength", "I", false)
  | 11 => ("MailGuardModel", "name", "[I", false)
  | 12 => ("MailGuardModel", "askedLength", "I", false)
  | 13 => ("MailGuardModel", "asked", "[I", false)
  | 14 => ("MailGuardModel", "asks", "Z", false)
  | 15 => ("MailGuardModel", "hits", "I", false)
  | 16 => ("MailGuardModel", "hit", "[I", false)
  | 17 => ("MailGuardModel", "long1", "I", false)
  | 18 => ("MailGuardModel", "big", "[I", false)
  | 19 => ("MailGuardModel", "parts", "I", false)
  | 20 => ("MailGuardModel", "partFrom", "[I", false)
  | 21 => ("MailGuardModel", "source", "[I", false)
  | 22 => ("MailGuardModel", "sourceSize", "I", false)
  | 23 => ("MailGuardModel", "deep", "I", false)
  | 24 => ("MailGuardModel", "domain", "[I", false)
  | 25 => ("MailGuardModel", "domainSize", "[I", false)
  | 26 => ("MailGuardModel", "record", "[I", false)
  | 27 => ("MailGuardModel", "place", "[I", false)
  | 28 => ("MailGuardModel", "redirect", "[I", false)
  | 29 => ("MailGuardModel", "redirectEnd", "[I", false)
  | 30 => ("MailGuardModel", "begun", "[I", false)
  | 31 => ("MailGuardModel", "sign", "[I", false)
  | 32 => ("MailGuardModel", "mechanisms", "[I", false)
  | 33 => ("MailGuardModel", "current", "I", false)
  | 34 => ("MailGuardModel", "checked", "Z", false)
  | 35 => ("MailGuardModel", "address", "I", false)
  | 36 => ("MailGuardModel", "result", "I", false)
  | 37 => ("MailGuardModel", "lookups", "I", false)
  | 38 => ("MailGuardModel", "voids", "I", false)
  | 39 => ("MailGuardModel", "matched", "I", false)
  | 40 => ("MailGuardModel", "checks", "I", false)
  | 41 => ("MailGuardModel", "firstSize", "I", false)
  | 42 => ("MailGuardModel", "firstDomain", "[I", false)
  | 43 => ("MailGuardModel", "policyP", "I", false)
  | 44 => ("MailGuardModel", "policySp", "I", false)
  | 45 => ("MailGuardModel", "policyStrict", "I", false)
  | 46 => ("MailGuardModel", "policyPct", "I", false)
  | 47 => ("MailGuardModel", "left", "[I", false)
  | _ => ("MailGuardModel", "right", "[I", false)
def t_Model : Nat → FieldType := fun k => match k with
  | 0 => .int
  | 1 => .int
  | 2 => .array .int
  | 3 => .int
  | 4 => .array .int
  | 5 => .array .int
  | 6 => .array .int
  | 7 => .array .int
  | 8 => .array .int
  | 9 => .int
  | 10 => .int
  | 11 => .array .int
  | 12 => .int
  | 13 => .array .int
  | 14 => .boolean
  | 15 => .int
  | 16 => .array .int
  | 17 => .int
  | 18 => .array .int
  | 19 => .int
  | 20 => .array .int
  | 21 => .array .int
  | 22 => .int
  | 23 => .int
  | 24 => .array .int
  | 25 => .array .int
  | 26 => .array .int
  | 27 => .array .int
  | 28 => .array .int
  | 29 => .array .int
  | 30 => .array .int
  | 31 => .array .int
  | 32 => .array .int
  | 33 => .int
  | 34 => .boolean
  | 35 => .int
  | 36 => .int
  | 37 => .int
  | 38 => .int
  | 39 => .int
  | 40 => .int
  | 41 => .int
  | 42 => .array .int
  | 43 => .int
  | 44 => .int
  | 45 => .int
  | 46 => .int
  | 47 => .array .int
  | _ => .array .int
def mg_cl : List vw_C := [("MailGuard", F_Guard, 4), ("MailGuard$Text", F_Text, 2), ("MailGuard$Row", F_Row, 4), ("MailGuard$Table", F_Table, 3), ("MailGuard$Term", F_Term, 6), ("MailGuard$Level", F_Level, 2), ("MailGuard$Checker", F_Checker, 10), ("MailGuard$Policy", F_Policy, 4), ("MailGuard$Judge", F_Judge, 4), ("MailGuardModel", F_Model, 49)]
def mg_ft (ci k : Nat) : FieldType := match ci with
  | 0 => t_Guard k
  | 1 => t_Text k
  | 2 => t_Row k
  | 3 => t_Table k
  | 4 => t_Term k
  | 5 => t_Level k
  | 6 => t_Checker k
  | 7 => t_Policy k
  | 8 => t_Judge k
  | _ => t_Model k
def mg_ty : List FieldType := [.int, .char, .long, .object "MailGuard$Row", .object "MailGuard$Level"]
def pl_Guard (idx : Nat) : Nat × Nat × Nat := match idx with
  | 3 => (9, 0, 0)
  | 9 => (4, 1, 2)
  | 11 => (8, 5, 1)
  | 14 => (1, 0, 0)
  | 18 => (4, 3, 3)
  | 20 => (8, 6, 0)
  | 21 => (1, 0, 1)
  | 25 => (4, 6, 10)
  | 27 => (8, 8, 1)
  | 30 => (1, 0, 2)
  | 34 => (4, 8, 4)
  | 36 => (8, 11, 2)
  | 39 => (1, 0, 3)
  | 43 => (6, 14, 2)
  | 47 => (7, 15, 0)
  | 51 => (7, 16, 1)
  | 55 => (7, 18, 0)
  | 58 => (7, 36, 1)
  | 62 => (10, 1, 64)
  | 65 => (7, 33, 0)
  | 68 => (10, 2, 70)
  | 71 => (7, 42, 2)
  | 75 => (7, 21, 1)
  | 78 => (7, 46, 0)
  | 82 => (7, 47, 2)
  | 85 => (17, 51, 1)
  | 89 => (7, 85, 1)
  | 92 => (7, 23, 0)
  | 95 => (7, 24, 0)
  | 98 => (7, 25, 0)
  | 101 => (7, 26, 0)
  | 104 => (7, 27, 0)
  | 107 => (7, 28, 0)
  | 110 => (7, 30, 0)
  | 114 => (7, 31, 1)
  | 118 => (7, 87, 2)
  | 122 => (7, 34, 1)
  | 125 => (2, 2, 0)
  | 131 => (7, 37, 3)
  | 135 => (7, 38, 2)
  | 138 => (7, 40, 2)
  | 142 => (11, 18446744073709551615, 0)
  | _ => (0, 0, 0)
def pl_Text (idx : Nat) : Nat × Nat × Nat := match idx with
  | 3 => (9, 0, 0)
  | 9 => (1, 1, 0)
  | 15 => (1, 1, 1)
  | 29 => (7, 16, 1)
  | 33 => (7, 78, 1)
  | 37 => (7, 31, 1)
  | 40 => (7, 44, 3)
  | 44 => (7, 38, 2)
  | 48 => (6, 39, 1)
  | 52 => (7, 41, 3)
  | 56 => (11, 18446744073709551615, 0)
  | _ => (0, 0, 0)
def pl_Row (idx : Nat) : Nat × Nat × Nat := match idx with
  | 3 => (9, 0, 0)
  | 9 => (4, 1, 2)
  | 11 => (8, 5, 1)
  | 14 => (1, 2, 1)
  | 20 => (1, 2, 2)
  | 23 => (7, 15, 0)
  | 27 => (7, 37, 3)
  | 31 => (1, 2, 0)
  | 35 => (7, 18, 0)
  | 38 => (7, 44, 3)
  | 42 => (7, 40, 2)
  | 46 => (1, 2, 3)
  | 48 => (7, 54, 3)
  | _ => (0, 0, 0)
def pl_Table (idx : Nat) : Nat × Nat × Nat := match idx with
  | 3 => (9, 0, 0)
  | 9 => (4, 2, 4)
  | 11 => (1, 3, 0)
  | 17 => (4, 1, 2)
  | 19 => (8, 5, 1)
  | 22 => (1, 3, 2)
  | 26 => (18, 7, 0)
  | 27 => (1, 3, 1)
  | 31 => (7, 18, 0)
  | 34 => (7, 43, 2)
  | 38 => (7, 15, 0)
  | 42 => (7, 44, 3)
  | 46 => (2, 2, 1)
  | 49 => (7, 54, 3)
  | 53 => (2, 2, 0)
  | 56 => (6, 89, 2)
  | 66 => (7, 52, 1)
  | 70 => (7, 90, 1)
  | 73 => (7, 31, 1)
  | _ => (0, 0, 0)
def pl_Term (idx : Nat) : Nat × Nat × Nat := match idx with
  | 3 => (9, 0, 0)
  | 9 => (1, 4, 0)
  | 15 => (1, 4, 2)
  | 18 => (1, 4, 3)
  | 21 => (6, 60, 3)
  | 25 => (7, 62, 4)
  | 29 => (7, 66, 3)
  | 33 => (7, 31, 1)
  | 39 => (6, 61, 1)
  | 43 => (6, 39, 1)
  | 48 => (7, 57, 3)
  | 52 => (7, 63, 0)
  | 56 => (6, 64, 3)
  | 59 => (7, 67, 1)
  | 62 => (7, 37, 3)
  | 66 => (6, 68, 3)
  | 69 => (7, 41, 3)
  | 73 => (1, 4, 4)
  | 76 => (7, 40, 2)
  | 80 => (7, 69, 1)
  | 84 => (1, 4, 5)
  | 86 => (11, 18446744073709551615, 0)
  | 88 => (1, 4, 1)
  | 103 => (6, 65, 3)
  | _ => (0, 0, 0)
def pl_Level (idx : Nat) : Nat × Nat × Nat := match idx with
  | 3 => (9, 0, 0)
  | 9 => (4, 1, 2)
  | 11 => (8, 5, 1)
  | 14 => (1, 5, 0)
  | 20 => (4, 4, 6)
  | 22 => (18, 10, 0)
  | 23 => (1, 5, 1)
  | _ => (0, 0, 0)
def pl_Checker (idx : Nat) : Nat × Nat × Nat := match idx with
  | 3 => (9, 0, 0)
  | 11 => (4, 5, 2)
  | 13 => (1, 6, 1)
  | 17 => (4, 1, 2)
  | 19 => (8, 5, 1)
  | 22 => (1, 6, 2)
  | 26 => (1, 6, 3)
  | 29 => (1, 6, 5)
  | 33 => (1, 6, 0)
  | 37 => (18, 9, 0)
  | 38 => (1, 6, 6)
  | 41 => (1, 6, 7)
  | 44 => (1, 6, 8)
  | 47 => (1, 6, 9)
  | 50 => (2, 5, 0)
  | 53 => (1, 6, 4)
  | 56 => (7, 18, 0)
  | 59 => (7, 48, 1)
  | 62 => (7, 16, 1)
  | 66 => (7, 49, 0)
  | 70 => (7, 15, 0)
  | 74 => (7, 44, 3)
  | 78 => (7, 50, 0)
  | 83 => (7, 52, 1)
  | 87 => (7, 53, 2)
  | 91 => (7, 33, 0)
  | 94 => (7, 34, 1)
  | 98 => (7, 55, 2)
  | 104 => (2, 2, 2)
  | 107 => (6, 56, 1)
  | 111 => (2, 5, 1)
  | 115 => (6, 58, 2)
  | 119 => (7, 70, 2)
  | 135 => (7, 57, 3)
  | 139 => (7, 31, 1)
  | 142 => (7, 59, 3)
  | 148 => (2, 4, 0)
  | 151 => (7, 71, 0)
  | 155 => (7, 72, 3)
  | 159 => (2, 4, 1)
  | 160 => (2, 4, 2)
  | 163 => (2, 4, 3)
  | 166 => (7, 84, 4)
  | 170 => (7, 74, 0)
  | 173 => (7, 75, 4)
  | 177 => (7, 79, 1)
  | 180 => (2, 4, 5)
  | 181 => (2, 4, 4)
  | 184 => (6, 73, 3)
  | 188 => (7, 63, 0)
  | 191 => (6, 80, 1)
  | 194 => (7, 46, 0)
  | 197 => (7, 81, 2)
  | 200 => (7, 83, 2)
  | 203 => (7, 82, 1)
  | 206 => (7, 51, 1)
  | 209 => (2, 2, 3)
  | 210 => (6, 65, 3)
  | 214 => (7, 76, 4)
  | 220 => (7, 77, 2)
  | _ => (0, 0, 0)
def pl_Policy (idx : Nat) : Nat × Nat × Nat := match idx with
  | 3 => (9, 0, 0)
  | 9 => (1, 7, 0)
  | 15 => (1, 7, 1)
  | 18 => (1, 7, 2)
  | 21 => (1, 7, 3)
  | 32 => (7, 15, 0)
  | 43 => (7, 57, 3)
  | 47 => (7, 31, 1)
  | 51 => (7, 94, 2)
  | 54 => (7, 95, 2)
  | 57 => (7, 96, 3)
  | 61 => (6, 61, 1)
  | 65 => (7, 37, 3)
  | 71 => (6, 97, 3)
  | 79 => (6, 98, 3)
  | 84 => (7, 41, 3)
  | _ => (0, 0, 0)
def pl_Judge (idx : Nat) : Nat × Nat × Nat := match idx with
  | 3 => (9, 0, 0)
  | 9 => (4, 7, 4)
  | 11 => (18, 12, 0)
  | 12 => (1, 8, 2)
  | 18 => (4, 1, 2)
  | 20 => (8, 5, 1)
  | 23 => (1, 8, 3)
  | 27 => (1, 8, 0)
  | 31 => (1, 8, 1)
  | 35 => (7, 88, 1)
  | 41 => (7, 91, 2)
  | 45 => (7, 99, 2)
  | 49 => (7, 101, 0)
  | 53 => (7, 102, 0)
  | 56 => (7, 103, 0)
  | 59 => (7, 18, 0)
  | 64 => (7, 92, 1)
  | 68 => (7, 15, 0)
  | 71 => (7, 44, 3)
  | 75 => (7, 53, 2)
  | 78 => (7, 33, 0)
  | 81 => (7, 34, 1)
  | 85 => (7, 55, 2)
  | 91 => (2, 2, 2)
  | 94 => (7, 93, 1)
  | 98 => (7, 24, 0)
  | 103 => (7, 49, 0)
  | 107 => (7, 100, 0)
  | 111 => (7, 54, 3)
  | _ => (0, 0, 0)
def pl_Model (idx : Nat) : Nat × Nat × Nat := match idx with
  | 1 => (9, 0, 0)
  | 7 => (1, 9, 2)
  | 13 => (1, 9, 4)
  | 16 => (1, 9, 5)
  | 19 => (1, 9, 6)
  | 22 => (1, 9, 7)
  | 25 => (1, 9, 8)
  | 28 => (1, 9, 11)
  | 31 => (1, 9, 13)
  | 34 => (1, 9, 16)
  | 37 => (1, 9, 18)
  | 40 => (1, 9, 20)
  | 43 => (1, 9, 21)
  | 46 => (1, 9, 24)
  | 49 => (1, 9, 25)
  | 52 => (1, 9, 26)
  | 55 => (1, 9, 27)
  | 58 => (1, 9, 28)
  | 61 => (1, 9, 29)
  | 64 => (1, 9, 30)
  | 67 => (1, 9, 31)
  | 70 => (1, 9, 32)
  | 73 => (1, 9, 42)
  | 76 => (1, 9, 47)
  | 79 => (1, 9, 48)
  | 82 => (1, 9, 0)
  | 86 => (1, 9, 1)
  | 89 => (6, 111, 1)
  | 93 => (6, 112, 1)
  | 96 => (1, 9, 9)
  | 99 => (7, 114, 4)
  | 103 => (6, 110, 3)
  | 107 => (7, 113, 3)
  | 111 => (1, 9, 3)
  | 114 => (1, 9, 10)
  | 117 => (1, 9, 14)
  | 121 => (1, 9, 12)
  | 124 => (1, 9, 15)
  | 127 => (7, 122, 1)
  | 130 => (7, 131, 3)
  | 134 => (1, 9, 17)
  | 137 => (1, 9, 22)
  | 140 => (1, 9, 23)
  | 143 => (1, 9, 35)
  | 146 => (7, 144, 1)
  | 150 => (1, 9, 41)
  | 153 => (1, 9, 19)
  | 156 => (7, 142, 1)
  | 159 => (7, 143, 1)
  | 162 => (7, 145, 2)
  | 166 => (7, 125, 2)
  | 170 => (7, 124, 5)
  | 174 => (7, 134, 3)
  | 177 => (7, 130, 4)
  | 181 => (7, 135, 3)
  | 184 => (7, 127, 2)
  | 187 => (7, 128, 3)
  | 190 => (7, 129, 3)
  | 194 => (6, 132, 1)
  | 197 => (7, 133, 3)
  | 200 => (1, 9, 36)
  | 203 => (1, 9, 40)
  | 206 => (7, 118, 1)
  | 209 => (7, 120, 1)
  | 212 => (7, 121, 1)
  | 215 => (7, 119, 1)
  | 218 => (7, 123, 1)
  | 221 => (7, 126, 1)
  | 224 => (1, 9, 39)
  | 227 => (1, 9, 37)
  | 230 => (7, 148, 0)
  | 234 => (6, 139, 3)
  | 237 => (1, 9, 38)
  | 240 => (7, 149, 1)
  | 243 => (7, 150, 0)
  | 246 => (7, 151, 1)
  | 250 => (7, 152, 0)
  | 253 => (7, 140, 0)
  | 257 => (7, 141, 3)
  | 260 => (7, 146, 0)
  | 263 => (1, 9, 33)
  | 266 => (7, 117, 2)
  | 270 => (7, 147, 1)
  | 273 => (6, 137, 1)
  | 276 => (7, 138, 4)
  | 280 => (1, 9, 34)
  | 283 => (7, 136, 0)
  | 286 => (1, 9, 43)
  | 289 => (7, 161, 3)
  | 292 => (1, 9, 44)
  | 295 => (1, 9, 45)
  | 298 => (1, 9, 46)
  | 301 => (7, 159, 2)
  | 304 => (7, 160, 4)
  | 308 => (7, 158, 1)
  | 311 => (7, 156, 2)
  | 315 => (7, 157, 3)
  | 318 => (6, 162, 6)
  | _ => (0, 0, 0)
def pl_Law (idx : Nat) : Nat × Nat × Nat := match idx with
  | 7 => (7, 35, 1)
  | 8 => (4, 0, 4)
  | 13 => (12, 1, 0)
  | 15 => (12, 2, 0)
  | 17 => (7, 45, 1)
  | 20 => (7, 86, 1)
  | 23 => (8, 4, 0)
  | 24 => (4, 9, 49)
  | 26 => (8, 104, 0)
  | 27 => (11, 4294967295, 0)
  | 29 => (7, 13, 1)
  | 33 => (7, 106, 1)
  | 34 => (7, 17, 0)
  | 37 => (7, 107, 0)
  | 38 => (7, 19, 0)
  | 42 => (7, 108, 0)
  | 43 => (26, 1, 3)
  | 48 => (7, 109, 1)
  | 49 => (7, 105, 0)
  | 52 => (7, 20, 1)
  | 56 => (7, 115, 1)
  | 57 => (26, 2, 3)
  | 59 => (7, 116, 1)
  | 60 => (7, 22, 1)
  | 63 => (7, 153, 1)
  | 64 => (7, 29, 1)
  | 67 => (7, 154, 1)
  | 68 => (26, 3, 3)
  | 70 => (7, 155, 1)
  | 71 => (7, 32, 1)
  | 74 => (7, 163, 1)
  | _ => (0, 0, 0)
def pl_none (_ : Nat) : Nat × Nat × Nat := (0, 0, 0)
abbrev mg_e : Type := (MethodName × ByteArray × Nat × Option FieldType) × (Nat → Nat × Nat × Nat) × List (Nat × Nat × Nat × Nat)
def mg_ms0 : List mg_e := [((⟨"MailGuardLaw", "law", "([I)Z"⟩, code, 7, (some FieldType.boolean)), pl_Law, []),
  ((⟨"MailGuardLaw", "row", "(LMailGuard;I[J)I"⟩, method_3_code, 4, (some FieldType.int)), pl_Law, [(0, 9, 12, 13), (0, 9, 15, 15)]),
  ((⟨"MailGuardLaw", "check", "(LMailGuard;I[J)I"⟩, method_4_code, 4, (some FieldType.int)), pl_Law, [(0, 9, 12, 13)]),
  ((⟨"MailGuardLaw", "policy", "(LMailGuard;I[J)I"⟩, method_5_code, 4, (some FieldType.int)), pl_Law, [(0, 9, 12, 13), (0, 9, 15, 15)]),
  ((⟨"MailGuard", "<init>", "()V"⟩, prog_1_method_1_code, 1, none), pl_Guard, []),
  ((⟨"MailGuard$Text", "<init>", "(I)V"⟩, prog_9_method_1_code, 2, none), pl_Text, []),
  ((⟨"MailGuard$Table", "<init>", "()V"⟩, prog_7_method_1_code, 2, none), pl_Table, []),
  ((⟨"MailGuard$Row", "<init>", "()V"⟩, prog_6_method_1_code, 1, none), pl_Row, []),
  ((⟨"MailGuard$Checker", "<init>", "(LMailGuard$Table;)V"⟩, prog_2_method_1_code, 3, none), pl_Checker, []),
  ((⟨"MailGuard$Level", "<init>", "()V"⟩, prog_4_method_1_code, 1, none), pl_Level, []),
  ((⟨"MailGuard$Term", "<init>", "()V"⟩, prog_8_method_1_code, 1, none), pl_Term, []),
  ((⟨"MailGuard$Judge", "<init>", "(LMailGuard$Table;LMailGuard$Checker;)V"⟩, prog_3_method_1_code, 3, none), pl_Judge, []),
  ((⟨"MailGuard$Policy", "<init>", "()V"⟩, prog_5_method_1_code, 1, none), pl_Policy, []),
  ((⟨"MailGuard", "type", "(J)Z"⟩, prog_1_method_2_code, 6, (some FieldType.boolean)), pl_Guard, []),
  ((⟨"MailGuard", "byteAt", "(JI)I"⟩, prog_1_method_12_code, 3, (some FieldType.int)), pl_Guard, []),
  ((⟨"MailGuard$Text", "size", "()I"⟩, prog_9_method_2_code, 1, (some FieldType.int)), pl_Text, []),
  ((⟨"MailGuard$Text", "add", "(C)V"⟩, prog_9_method_5_code, 2, none), pl_Text, []),
  ((⟨"MailGuard", "wipe", "()V"⟩, prog_1_method_3_code, 1, none), pl_Guard, []),
  ((⟨"MailGuard$Text", "clear", "()V"⟩, prog_9_method_4_code, 1, none), pl_Text, []),
  ((⟨"MailGuard", "length", "()I"⟩, prog_1_method_4_code, 1, (some FieldType.int)), pl_Guard, [])]
def mg_ms1 : List mg_e := [((⟨"MailGuard", "drop", "(I)Z"⟩, prog_1_method_6_code, 2, (some FieldType.boolean)), pl_Guard, []),
  ((⟨"MailGuard$Table", "remove", "(I)Z"⟩, prog_7_method_7_code, 4, (some FieldType.boolean)), pl_Table, []),
  ((⟨"MailGuard", "latest", "(I)I"⟩, prog_1_method_8_code, 2, (some FieldType.int)), pl_Guard, []),
  ((⟨"MailGuard$Checker", "hasResult", "()Z"⟩, prog_2_method_2_code, 1, (some FieldType.boolean)), pl_Checker, []),
  ((⟨"MailGuard$Checker", "result", "()I"⟩, prog_2_method_3_code, 1, (some FieldType.int)), pl_Checker, []),
  ((⟨"MailGuard$Checker", "lookups", "()I"⟩, prog_2_method_4_code, 1, (some FieldType.int)), pl_Checker, []),
  ((⟨"MailGuard$Checker", "voids", "()I"⟩, prog_2_method_5_code, 1, (some FieldType.int)), pl_Checker, []),
  ((⟨"MailGuard$Checker", "matched", "()I"⟩, prog_2_method_6_code, 1, (some FieldType.int)), pl_Checker, []),
  ((⟨"MailGuard$Checker", "checks", "()I"⟩, prog_2_method_7_code, 1, (some FieldType.int)), pl_Checker, []),
  ((⟨"MailGuard", "asked", "(I)I"⟩, prog_1_method_9_code, 3, (some FieldType.int)), pl_Guard, []),
  ((⟨"MailGuard$Table", "lastAsked", "()LMailGuard$Text;"⟩, prog_7_method_4_code, 1, (some (FieldType.object "MailGuard$Text"))), pl_Table, []),
  ((⟨"MailGuard$Text", "at", "(I)C"⟩, prog_9_method_3_code, 2, (some FieldType.char)), pl_Text, []),
  ((⟨"MailGuard", "rows", "(I)I"⟩, prog_1_method_11_code, 3, (some FieldType.int)), pl_Guard, []),
  ((⟨"MailGuard$Table", "count", "()I"⟩, prog_7_method_2_code, 1, (some FieldType.int)), pl_Table, []),
  ((⟨"MailGuard$Table", "at", "(I)LMailGuard$Row;"⟩, prog_7_method_3_code, 2, (some (FieldType.object "MailGuard$Row"))), pl_Table, []),
  ((⟨"MailGuard", "row", "(I)I"⟩, prog_1_method_5_code, 2, (some FieldType.int)), pl_Guard, []),
  ((⟨"MailGuard", "textIsRow", "(I)Z"⟩, prog_1_method_13_code, 4, (some FieldType.boolean)), pl_Guard, []),
  ((⟨"MailGuard$Text", "find", "(CII)I"⟩, prog_9_method_17_code, 5, (some FieldType.int)), pl_Text, []),
  ((⟨"MailGuard$Text", "isName", "(II)Z"⟩, prog_9_method_19_code, 6, (some FieldType.boolean)), pl_Text, []),
  ((⟨"MailGuard$Text", "isLabelCharacter", "(C)Z"⟩, prog_9_method_23_code, 1, (some FieldType.boolean)), pl_Text, [])]
def mg_ms2 : List mg_e := [((⟨"MailGuard$Text", "address", "(II)J"⟩, prog_9_method_21_code, 9, (some FieldType.long)), pl_Text, []),
  ((⟨"MailGuard$Text", "number", "(III)I"⟩, prog_9_method_20_code, 8, (some FieldType.int)), pl_Text, []),
  ((⟨"MailGuard$Table", "append", "(ILMailGuard$Text;)V"⟩, prog_7_method_6_code, 3, none), pl_Table, []),
  ((⟨"MailGuard$Row", "fill", "(ILMailGuard$Text;)V"⟩, prog_6_method_2_code, 4, none), pl_Row, []),
  ((⟨"MailGuard$Text", "addPart", "(LMailGuard$Text;II)V"⟩, prog_9_method_6_code, 5, none), pl_Text, []),
  ((⟨"MailGuard", "check", "(I)I"⟩, prog_1_method_7_code, 3, (some FieldType.int)), pl_Guard, []),
  ((⟨"MailGuard$Text", "isName", "()Z"⟩, prog_9_method_18_code, 1, (some FieldType.boolean)), pl_Text, []),
  ((⟨"MailGuard$Checker", "begin", "(ILMailGuard$Text;)V"⟩, prog_2_method_9_code, 4, none), pl_Checker, []),
  ((⟨"MailGuard$Text", "addByte", "(I)V"⟩, prog_9_method_8_code, 2, none), pl_Text, []),
  ((⟨"MailGuard$Checker", "firstDomain", "()LMailGuard$Text;"⟩, prog_2_method_8_code, 1, (some (FieldType.object "MailGuard$Text"))), pl_Checker, []),
  ((⟨"MailGuard$Table", "forgetAsked", "()V"⟩, prog_7_method_5_code, 1, none), pl_Table, []),
  ((⟨"MailGuard$Checker", "evaluate", "(I)I"⟩, prog_2_method_11_code, 6, (some FieldType.int)), pl_Checker, []),
  ((⟨"MailGuard$Text", "startOfLast", "(I)I"⟩, prog_9_method_11_code, 4, (some FieldType.int)), pl_Text, []),
  ((⟨"MailGuard$Table", "ask", "(LMailGuard$Text;I)I"⟩, prog_7_method_8_code, 5, (some FieldType.int)), pl_Table, []),
  ((⟨"MailGuard$Text", "same", "(ILMailGuard$Text;I)Z"⟩, prog_9_method_13_code, 5, (some FieldType.boolean)), pl_Text, []),
  ((⟨"MailGuard$Row", "is", "(ILMailGuard$Text;)Z"⟩, prog_6_method_3_code, 3, (some FieldType.boolean)), pl_Row, []),
  ((⟨"MailGuard$Checker", "isRecord", "(LMailGuard$Text;)Z"⟩, prog_2_method_12_code, 2, (some FieldType.boolean)), pl_Checker, []),
  ((⟨"MailGuard$Text", "isWord", "(IILjava/lang/String;)Z"⟩, prog_9_method_16_code, 5, (some FieldType.boolean)), pl_Text, []),
  ((⟨"MailGuard$Checker", "hasTermsAlone", "(LMailGuard$Text;LMailGuard$Term;)Z"⟩, prog_2_method_13_code, 5, (some FieldType.boolean)), pl_Checker, []),
  ((⟨"MailGuard$Term", "read", "(LMailGuard$Text;II)Z"⟩, prog_8_method_4_code, 5, (some FieldType.boolean)), pl_Term, [])]
def mg_ms3 : List mg_e := [((⟨"MailGuard$Term", "endOfModifierName", "(LMailGuard$Text;II)I"⟩, prog_8_method_5_code, 5, (some FieldType.int)), pl_Term, []),
  ((⟨"MailGuard$Text", "isLetter", "(C)Z"⟩, prog_9_method_22_code, 1, (some FieldType.boolean)), pl_Text, []),
  ((⟨"MailGuard$Term", "readModifier", "(LMailGuard$Text;III)Z"⟩, prog_8_method_6_code, 5, (some FieldType.boolean)), pl_Term, []),
  ((⟨"MailGuard$Term", "hasTarget", "()Z"⟩, prog_8_method_3_code, 1, (some FieldType.boolean)), pl_Term, []),
  ((⟨"MailGuard$Term", "isTarget", "(LMailGuard$Text;II)Z"⟩, prog_8_method_11_code, 5, (some FieldType.boolean)), pl_Term, []),
  ((⟨"MailGuard$Term", "endOfMacro", "(LMailGuard$Text;II)I"⟩, prog_8_method_12_code, 5, (some FieldType.int)), pl_Term, []),
  ((⟨"MailGuard$Term", "readMechanism", "(LMailGuard$Text;II)Z"⟩, prog_8_method_7_code, 9, (some FieldType.boolean)), pl_Term, []),
  ((⟨"MailGuard$Term", "readSign", "(C)Z"⟩, prog_8_method_9_code, 2, (some FieldType.boolean)), pl_Term, []),
  ((⟨"MailGuard$Term", "kindOf", "(LMailGuard$Text;II)I"⟩, prog_8_method_10_code, 3, (some FieldType.int)), pl_Term, []),
  ((⟨"MailGuard$Term", "readAddress", "(J)Z"⟩, prog_8_method_8_code, 3, (some FieldType.boolean)), pl_Term, []),
  ((⟨"MailGuard$Checker", "goThrough", "(LMailGuard$Text;I)I"⟩, prog_2_method_14_code, 10, (some FieldType.int)), pl_Checker, []),
  ((⟨"MailGuard$Term", "isMechanism", "()Z"⟩, prog_8_method_2_code, 1, (some FieldType.boolean)), pl_Term, []),
  ((⟨"MailGuard$Checker", "matches", "(LMailGuard$Text;LMailGuard$Term;I)I"⟩, prog_2_method_16_code, 5, (some FieldType.int)), pl_Checker, []),
  ((⟨"MailGuard$Checker", "sameBits", "(III)Z"⟩, prog_2_method_23_code, 3, (some FieldType.boolean)), pl_Checker, []),
  ((⟨"MailGuard$Checker", "spendLookup", "()Z"⟩, prog_2_method_17_code, 1, (some FieldType.boolean)), pl_Checker, []),
  ((⟨"MailGuard$Checker", "expand", "(LMailGuard$Text;IILMailGuard$Text;)V"⟩, prog_2_method_24_code, 8, none), pl_Checker, []),
  ((⟨"MailGuard$Checker", "expandMacro", "(LMailGuard$Text;IILMailGuard$Text;)V"⟩, prog_2_method_25_code, 9, none), pl_Checker, []),
  ((⟨"MailGuard$Text", "addReversed", "(LMailGuard$Text;I)V"⟩, prog_9_method_9_code, 5, none), pl_Text, []),
  ((⟨"MailGuard$Text", "endOfFirst", "(I)I"⟩, prog_9_method_10_code, 4, (some FieldType.int)), pl_Text, []),
  ((⟨"MailGuard$Checker", "evaluateExpanded", "(I)I"⟩, prog_2_method_18_code, 5, (some FieldType.int)), pl_Checker, [])]
def mg_ms4 : List mg_e := [((⟨"MailGuard$Checker", "matchOfInclude", "(I)I"⟩, prog_2_method_19_code, 1, (some FieldType.int)), pl_Checker, []),
  ((⟨"MailGuard$Checker", "hostsMatch", "(LMailGuard$Text;I)I"⟩, prog_2_method_21_code, 6, (some FieldType.int)), pl_Checker, []),
  ((⟨"MailGuard$Checker", "matchOfCount", "(I)I"⟩, prog_2_method_20_code, 2, (some FieldType.int)), pl_Checker, []),
  ((⟨"MailGuard$Checker", "mailsMatch", "(LMailGuard$Text;I)I"⟩, prog_2_method_22_code, 8, (some FieldType.int)), pl_Checker, []),
  ((⟨"MailGuard$Checker", "redirected", "(LMailGuard$Text;III)I"⟩, prog_2_method_15_code, 5, (some FieldType.int)), pl_Checker, []),
  ((⟨"MailGuard$Checker", "end", "(I)V"⟩, prog_2_method_10_code, 2, none), pl_Checker, []),
  ((⟨"MailGuard", "policy", "(I)I"⟩, prog_1_method_10_code, 3, (some FieldType.int)), pl_Guard, []),
  ((⟨"MailGuard$Judge", "verdict", "(LMailGuard$Text;I)I"⟩, prog_3_method_2_code, 7, (some FieldType.int)), pl_Judge, []),
  ((⟨"MailGuard$Table", "organisation", "(LMailGuard$Text;)I"⟩, prog_7_method_9_code, 4, (some FieldType.int)), pl_Table, []),
  ((⟨"MailGuard$Table", "startOfSuffix", "(LMailGuard$Text;LMailGuard$Text;)I"⟩, prog_7_method_10_code, 4, (some FieldType.int)), pl_Table, []),
  ((⟨"MailGuard$Text", "startOfPartAhead", "(I)I"⟩, prog_9_method_12_code, 3, (some FieldType.int)), pl_Text, []),
  ((⟨"MailGuard$Judge", "findPolicy", "(LMailGuard$Text;I)I"⟩, prog_3_method_3_code, 7, (some FieldType.int)), pl_Judge, []),
  ((⟨"MailGuard$Text", "addWord", "(Ljava/lang/String;)V"⟩, prog_9_method_7_code, 3, none), pl_Text, []),
  ((⟨"MailGuard$Policy", "read", "(LMailGuard$Text;)Z"⟩, prog_5_method_6_code, 7, (some FieldType.boolean)), pl_Policy, []),
  ((⟨"MailGuard$Text", "startWithoutBlanks", "(II)I"⟩, prog_9_method_14_code, 4, (some FieldType.int)), pl_Text, []),
  ((⟨"MailGuard$Text", "endWithoutBlanks", "(II)I"⟩, prog_9_method_15_code, 4, (some FieldType.int)), pl_Text, []),
  ((⟨"MailGuard$Policy", "readTag", "(LMailGuard$Text;II)Z"⟩, prog_5_method_7_code, 6, (some FieldType.boolean)), pl_Policy, []),
  ((⟨"MailGuard$Policy", "actionOf", "(LMailGuard$Text;II)I"⟩, prog_5_method_8_code, 3, (some FieldType.int)), pl_Policy, []),
  ((⟨"MailGuard$Policy", "alignmentOf", "(LMailGuard$Text;II)I"⟩, prog_5_method_9_code, 3, (some FieldType.int)), pl_Policy, []),
  ((⟨"MailGuard$Judge", "isAligned", "(LMailGuard$Text;I)Z"⟩, prog_3_method_4_code, 4, (some FieldType.boolean)), pl_Judge, [])]
def mg_ms5 : List mg_e := [((⟨"MailGuard$Policy", "isStrict", "()Z"⟩, prog_5_method_4_code, 1, (some FieldType.boolean)), pl_Policy, []),
  ((⟨"MailGuard$Policy", "actionBelow", "()I"⟩, prog_5_method_3_code, 1, (some FieldType.int)), pl_Policy, []),
  ((⟨"MailGuard$Policy", "action", "()I"⟩, prog_5_method_2_code, 1, (some FieldType.int)), pl_Policy, []),
  ((⟨"MailGuard$Policy", "percent", "()I"⟩, prog_5_method_5_code, 1, (some FieldType.int)), pl_Policy, []),
  ((⟨"MailGuardModel", "<init>", "()V"⟩, prog_11_method_1_code, 1, none), pl_Model, []),
  ((⟨"MailGuardModel", "thrown", "()I"⟩, prog_11_method_2_code, 1, (some FieldType.int)), pl_Model, []),
  ((⟨"MailGuardModel", "type", "(J)Z"⟩, prog_11_method_3_code, 6, (some FieldType.boolean)), pl_Model, []),
  ((⟨"MailGuardModel", "wipe", "()V"⟩, prog_11_method_4_code, 1, none), pl_Model, []),
  ((⟨"MailGuardModel", "length", "()I"⟩, prog_11_method_5_code, 1, (some FieldType.int)), pl_Model, []),
  ((⟨"MailGuardModel", "row", "(I)I"⟩, prog_11_method_11_code, 6, (some FieldType.int)), pl_Model, []),
  ((⟨"MailGuardModel", "isName", "([III)Z"⟩, prog_11_method_8_code, 7, (some FieldType.boolean)), pl_Model, []),
  ((⟨"MailGuardModel", "isSmall", "(I)Z"⟩, prog_11_method_7_code, 1, (some FieldType.boolean)), pl_Model, []),
  ((⟨"MailGuardModel", "isDigit", "(I)Z"⟩, prog_11_method_6_code, 1, (some FieldType.boolean)), pl_Model, []),
  ((⟨"MailGuardModel", "readAddress", "([III)I"⟩, prog_11_method_10_code, 8, (some FieldType.int)), pl_Model, []),
  ((⟨"MailGuardModel", "number", "([IIII)I"⟩, prog_11_method_9_code, 7, (some FieldType.int)), pl_Model, []),
  ((⟨"MailGuardModel", "drop", "(I)Z"⟩, prog_11_method_12_code, 4, (some FieldType.boolean)), pl_Model, []),
  ((⟨"MailGuardModel", "check", "(I)I"⟩, prog_11_method_49_code, 3, (some FieldType.int)), pl_Model, []),
  ((⟨"MailGuardModel", "begin", "(II)V"⟩, prog_11_method_34_code, 6, none), pl_Model, []),
  ((⟨"MailGuardModel", "comes", "(I)V"⟩, prog_11_method_37_code, 5, none), pl_Model, []),
  ((⟨"MailGuardModel", "end", "(I)V"⟩, prog_11_method_33_code, 2, none), pl_Model, [])]
def mg_ms6 : List mg_e := [((⟨"MailGuardModel", "findRecord", "(I)V"⟩, prog_11_method_36_code, 4, none), pl_Model, []),
  ((⟨"MailGuardModel", "ask", "(I)Z"⟩, prog_11_method_14_code, 4, (some FieldType.boolean)), pl_Model, []),
  ((⟨"MailGuardModel", "bears", "(I)Z"⟩, prog_11_method_13_code, 4, (some FieldType.boolean)), pl_Model, []),
  ((⟨"MailGuardModel", "counts", "(I)Z"⟩, prog_11_method_35_code, 4, (some FieldType.boolean)), pl_Model, []),
  ((⟨"MailGuardModel", "word", "(IIIII)Z"⟩, prog_11_method_26_code, 6, (some FieldType.boolean)), pl_Model, []),
  ((⟨"MailGuardModel", "at", "(II)I"⟩, prog_11_method_23_code, 3, (some FieldType.int)), pl_Model, []),
  ((⟨"MailGuardModel", "terms", "(I)Z"⟩, prog_11_method_32_code, 7, (some FieldType.boolean)), pl_Model, []),
  ((⟨"MailGuardModel", "termEnd", "(II)I"⟩, prog_11_method_24_code, 4, (some FieldType.int)), pl_Model, []),
  ((⟨"MailGuardModel", "modifier", "(III)I"⟩, prog_11_method_25_code, 6, (some FieldType.int)), pl_Model, []),
  ((⟨"MailGuardModel", "isRedirect", "(III)Z"⟩, prog_11_method_31_code, 4, (some FieldType.boolean)), pl_Model, []),
  ((⟨"MailGuardModel", "isTarget", "(IIIZ)Z"⟩, prog_11_method_16_code, 7, (some FieldType.boolean)), pl_Model, []),
  ((⟨"MailGuardModel", "macroEnd", "(III)I"⟩, prog_11_method_15_code, 8, (some FieldType.int)), pl_Model, []),
  ((⟨"MailGuardModel", "isSign", "(I)Z"⟩, prog_11_method_27_code, 1, (some FieldType.boolean)), pl_Model, []),
  ((⟨"MailGuardModel", "isMechanism", "(III)Z"⟩, prog_11_method_30_code, 9, (some FieldType.boolean)), pl_Model, []),
  ((⟨"MailGuardModel", "mechanism", "(III)I"⟩, prog_11_method_28_code, 7, (some FieldType.int)), pl_Model, []),
  ((⟨"MailGuardModel", "slash", "(III)I"⟩, prog_11_method_29_code, 5, (some FieldType.int)), pl_Model, []),
  ((⟨"MailGuardModel", "step", "()V"⟩, prog_11_method_48_code, 9, none), pl_Model, []),
  ((⟨"MailGuardModel", "meaning", "(I)I"⟩, prog_11_method_38_code, 1, (some FieldType.int)), pl_Model, []),
  ((⟨"MailGuardModel", "does", "(IIII)I"⟩, prog_11_method_47_code, 10, (some FieldType.int)), pl_Model, []),
  ((⟨"MailGuardModel", "alike", "(III)Z"⟩, prog_11_method_40_code, 3, (some FieldType.boolean)), pl_Model, [])]
def mg_ms7 : List mg_e := [((⟨"MailGuardModel", "lookUp", "()Z"⟩, prog_11_method_39_code, 1, (some FieldType.boolean)), pl_Model, []),
  ((⟨"MailGuardModel", "expand", "(III)Z"⟩, prog_11_method_21_code, 10, (some FieldType.boolean)), pl_Model, []),
  ((⟨"MailGuardModel", "put", "(I)V"⟩, prog_11_method_17_code, 2, none), pl_Model, []),
  ((⟨"MailGuardModel", "fetch", "(I)V"⟩, prog_11_method_19_code, 5, none), pl_Model, []),
  ((⟨"MailGuardModel", "sourceNumber", "(I)V"⟩, prog_11_method_18_code, 2, none), pl_Model, []),
  ((⟨"MailGuardModel", "putParts", "(IZ)V"⟩, prog_11_method_20_code, 7, none), pl_Model, []),
  ((⟨"MailGuardModel", "nameDomain", "()V"⟩, prog_11_method_22_code, 3, none), pl_Model, []),
  ((⟨"MailGuardModel", "mails", "(I)I"⟩, prog_11_method_43_code, 8, (some FieldType.int)), pl_Model, []),
  ((⟨"MailGuardModel", "empty", "()I"⟩, prog_11_method_42_code, 1, (some FieldType.int)), pl_Model, []),
  ((⟨"MailGuardModel", "isOf", "(I)Z"⟩, prog_11_method_44_code, 2, (some FieldType.boolean)), pl_Model, []),
  ((⟨"MailGuardModel", "saveName", "()V"⟩, prog_11_method_45_code, 2, none), pl_Model, []),
  ((⟨"MailGuardModel", "hosts", "(I)I"⟩, prog_11_method_41_code, 4, (some FieldType.int)), pl_Model, []),
  ((⟨"MailGuardModel", "loadName", "()V"⟩, prog_11_method_46_code, 2, none), pl_Model, []),
  ((⟨"MailGuardModel", "latest", "(I)I"⟩, prog_11_method_50_code, 2, (some FieldType.int)), pl_Model, []),
  ((⟨"MailGuardModel", "asked", "(I)I"⟩, prog_11_method_51_code, 2, (some FieldType.int)), pl_Model, []),
  ((⟨"MailGuardModel", "policy", "(I)I"⟩, prog_11_method_59_code, 11, (some FieldType.int)), pl_Model, []),
  ((⟨"MailGuardModel", "organisation", "([II)I"⟩, prog_11_method_52_code, 8, (some FieldType.int)), pl_Model, []),
  ((⟨"MailGuardModel", "seek", "([III)I"⟩, prog_11_method_57_code, 7, (some FieldType.int)), pl_Model, []),
  ((⟨"MailGuardModel", "isPolicy", "(I)Z"⟩, prog_11_method_56_code, 6, (some FieldType.boolean)), pl_Model, []),
  ((⟨"MailGuardModel", "blanks", "(II)I"⟩, prog_11_method_55_code, 4, (some FieldType.int)), pl_Model, [])]
def mg_ms8 : List mg_e := [((⟨"MailGuardModel", "tag", "(IIII)Z"⟩, prog_11_method_54_code, 8, (some FieldType.boolean)), pl_Model, []),
  ((⟨"MailGuardModel", "action", "(III)I"⟩, prog_11_method_53_code, 8, (some FieldType.int)), pl_Model, []),
  ((⟨"MailGuardModel", "sameEnds", "([III[III)Z"⟩, prog_11_method_58_code, 8, (some FieldType.boolean)), pl_Model, []),
  ((⟨"MailGuardModel", "rows", "(I)I"⟩, prog_11_method_60_code, 2, (some FieldType.int)), pl_Model, [])]
def mg_m0 : mg_e := ((⟨"MailGuardLaw", "law", "([I)Z"⟩, code, 7, (some FieldType.boolean)), pl_Law, [])
/-- the method mi -/
def mg_m (mi : Nat) : mg_e := match mi / 20 with
  | 0 => mg_ms0.getD (mi % 20) mg_m0
  | 1 => mg_ms1.getD (mi % 20) mg_m0
  | 2 => mg_ms2.getD (mi % 20) mg_m0
  | 3 => mg_ms3.getD (mi % 20) mg_m0
  | 4 => mg_ms4.getD (mi % 20) mg_m0
  | 5 => mg_ms5.getD (mi % 20) mg_m0
  | 6 => mg_ms6.getD (mi % 20) mg_m0
  | 7 => mg_ms7.getD (mi % 20) mg_m0
  | 8 => mg_ms8.getD (mi % 20) mg_m0
  | _ => mg_m0
def mgT (L : Nat) (xs : Nat → Int32) : ax_T := (fun mi => (mg_m mi).1, fun mi idx => (mg_m mi).2.1 idx, mg_cl, mg_ft, mg_ty, fun mi => (mg_m mi).2.2, some (L, xs))
def mg_T0 : ax_T := (fun mi => (mg_m mi).1, fun mi idx => (mg_m mi).2.1 idx, mg_cl, mg_ft, mg_ty, fun mi => (mg_m mi).2.2, none)
end
section
theorem pe_Guard_3 : ax_okE mg_TB mg_T0 "MailGuard" 3 (9, 0, 0) := by
  simp only [ax_okE]
  exact ⟨mg_t1 26 (by decide +kernel) rfl, mg_t1 27 (by decide +kernel) rfl, mg_t1 28 (by decide +kernel) rfl⟩
theorem pe_Guard_9 : ax_okE mg_TB mg_T0 "MailGuard" 9 (4, 1, 2) := by
  simp only [ax_okE]
  exact ⟨rfl, mg_t1 29 (by decide +kernel) rfl, mg_t1 30 (by decide +kernel) rfl, mg_t1 2 (by decide +kernel) rfl⟩
theorem pe_Guard_11 : ax_okE mg_TB mg_T0 "MailGuard" 11 (8, 5, 1) := by
  simp only [ax_okE]
  exact ⟨mg_t1 31 (by decide +kernel) rfl, mg_t1 32 (by decide +kernel) rfl, rfl, rfl, mg_t1 2 (by decide +kernel) rfl, by decide +kernel, ⟨rfl, mg_t1 33 (by decide +kernel) rfl, by decide, by decide, by decide⟩⟩
theorem pe_Guard_14 : ax_okE mg_TB mg_T0 "MailGuard" 14 (1, 0, 0) := by
  simp only [ax_okE]
  exact ⟨by decide, mg_t1 217 (by decide +kernel) rfl⟩
theorem pe_Guard_18 : ax_okE mg_TB mg_T0 "MailGuard" 18 (4, 3, 3) := by
  simp only [ax_okE]
  exact ⟨rfl, mg_t1 43 (by decide +kernel) rfl, mg_t1 44 (by decide +kernel) rfl, mg_t1 3 (by decide +kernel) rfl⟩
theorem pe_Guard_20 : ax_okE mg_TB mg_T0 "MailGuard" 20 (8, 6, 0) := by
  simp only [ax_okE]
  exact ⟨mg_t1 45 (by decide +kernel) rfl, mg_t1 46 (by decide +kernel) rfl, rfl, rfl, mg_t1 3 (by decide +kernel) rfl, by decide +kernel, ⟨rfl, mg_t1 47 (by decide +kernel) rfl, by decide, by decide, by decide⟩⟩
theorem pe_Guard_21 : ax_okE mg_TB mg_T0 "MailGuard" 21 (1, 0, 1) := by
  simp only [ax_okE]
  exact ⟨by decide, mg_t1 218 (by decide +kernel) rfl⟩
theorem pe_Guard_25 : ax_okE mg_TB mg_T0 "MailGuard" 25 (4, 6, 10) := by
  simp only [ax_okE]
  exact ⟨rfl, mg_t1 89 (by decide +kernel) rfl, mg_t1 90 (by decide +kernel) rfl, mg_t1 5 (by decide +kernel) rfl⟩
theorem pe_Guard_27 : ax_okE mg_TB mg_T0 "MailGuard" 27 (8, 8, 1) := by
  simp only [ax_okE]
  exact ⟨mg_t1 91 (by decide +kernel) rfl, mg_t1 92 (by decide +kernel) rfl, rfl, rfl, mg_t1 5 (by decide +kernel) rfl, by decide +kernel, ⟨rfl, mg_t1 93 (by decide +kernel) rfl, by decide, by decide, by decide⟩⟩
theorem pe_Guard_30 : ax_okE mg_TB mg_T0 "MailGuard" 30 (1, 0, 2) := by
  simp only [ax_okE]
  exact ⟨by decide, mg_t1 219 (by decide +kernel) rfl⟩
theorem pe_Guard_34 : ax_okE mg_TB mg_T0 "MailGuard" 34 (4, 8, 4) := by
  simp only [ax_okE]
  exact ⟨rfl, mg_t1 177 (by decide +kernel) rfl, mg_t1 178 (by decide +kernel) rfl, mg_t1 8 (by decide +kernel) rfl⟩
theorem pe_Guard_36 : ax_okE mg_TB mg_T0 "MailGuard" 36 (8, 11, 2) := by
  simp only [ax_okE]
  exact ⟨mg_t1 179 (by decide +kernel) rfl, mg_t1 180 (by decide +kernel) rfl, rfl, rfl, mg_t1 8 (by decide +kernel) rfl, by decide +kernel, ⟨rfl, mg_t1 181 (by decide +kernel) rfl, by decide, by decide, by decide⟩⟩
theorem pe_Guard_39 : ax_okE mg_TB mg_T0 "MailGuard" 39 (1, 0, 3) := by
  simp only [ax_okE]
  exact ⟨by decide, mg_t1 220 (by decide +kernel) rfl⟩
theorem pe_Guard_43 : ax_okE mg_TB mg_T0 "MailGuard" 43 (6, 14, 2) := by
  simp only [ax_okE]
  exact ⟨mg_t1 234 (by decide +kernel) rfl, mg_t1 235 (by decide +kernel) rfl, mg_t1 1 (by decide +kernel) rfl, by decide +kernel, ⟨rfl, mg_t1 236 (by decide +kernel) rfl, by decide, by decide, by decide⟩⟩
theorem pe_Guard_47 : ax_okE mg_TB mg_T0 "MailGuard" 47 (7, 15, 0) := by
  simp only [ax_okE]
  exact ⟨mg_t1 237 (by decide +kernel) rfl, mg_t1 238 (by decide +kernel) rfl, mg_t1 239 (by decide +kernel) rfl, mg_t1 2 (by decide +kernel) rfl, by decide +kernel, ⟨rfl, mg_t2 0 (by decide +kernel) rfl, by decide, by decide, by decide⟩⟩
theorem pe_Guard_51 : ax_okE mg_TB mg_T0 "MailGuard" 51 (7, 16, 1) := by
  simp only [ax_okE]
  exact ⟨mg_t2 1 (by decide +kernel) rfl, mg_t2 2 (by decide +kernel) rfl, mg_t2 3 (by decide +kernel) rfl, mg_t1 2 (by decide +kernel) rfl, by decide +kernel, ⟨rfl, mg_t2 4 (by decide +kernel) rfl, by decide, by decide, by decide⟩⟩
theorem pe_Guard_55 : ax_okE mg_TB mg_T0 "MailGuard" 55 (7, 18, 0) := by
  simp only [ax_okE]
  exact ⟨mg_t2 9 (by decide +kernel) rfl, mg_t2 10 (by decide +kernel) rfl, mg_t2 11 (by decide +kernel) rfl, mg_t1 2 (by decide +kernel) rfl, by decide +kernel, ⟨rfl, mg_t2 12 (by decide +kernel) rfl, by decide, by decide, by decide⟩⟩
theorem pe_Guard_58 : ax_okE mg_TB mg_T0 "MailGuard" 58 (7, 36, 1) := by
  simp only [ax_okE]
  exact ⟨mg_t2 86 (by decide +kernel) rfl, mg_t2 88 (by decide +kernel) rfl, mg_p0 0 (by decide +kernel) rfl, mg_t1 1 (by decide +kernel) rfl, by decide +kernel, ⟨rfl, mg_t2 89 (by decide +kernel) rfl, by decide, by decide, by decide⟩⟩
theorem pe_Guard_65 : ax_okE mg_TB mg_T0 "MailGuard" 65 (7, 33, 0) := by
  simp only [ax_okE]
  exact ⟨mg_t2 69 (by decide +kernel) rfl, mg_t2 70 (by decide +kernel) rfl, mg_t2 71 (by decide +kernel) rfl, mg_t1 3 (by decide +kernel) rfl, by decide +kernel, ⟨rfl, mg_t2 72 (by decide +kernel) rfl, by decide, by decide, by decide⟩⟩
theorem pe_Guard_71 : ax_okE mg_TB mg_T0 "MailGuard" 71 (7, 42, 2) := by
  simp only [ax_okE]
  exact ⟨mg_t2 189 (by decide +kernel) rfl, mg_t2 190 (by decide +kernel) rfl, mg_t2 191 (by decide +kernel) rfl, mg_t1 3 (by decide +kernel) rfl, by decide +kernel, ⟨rfl, mg_t2 192 (by decide +kernel) rfl, by decide, by decide, by decide⟩⟩
theorem pe_Guard_75 : ax_okE mg_TB mg_T0 "MailGuard" 75 (7, 21, 1) := by
  simp only [ax_okE]
  exact ⟨mg_t2 21 (by decide +kernel) rfl, mg_t2 22 (by decide +kernel) rfl, mg_t2 23 (by decide +kernel) rfl, mg_t1 3 (by decide +kernel) rfl, by decide +kernel, ⟨rfl, mg_t2 24 (by decide +kernel) rfl, by decide, by decide, by decide⟩⟩
theorem pe_Guard_78 : ax_okE mg_TB mg_T0 "MailGuard" 78 (7, 46, 0) := by
  simp only [ax_okE]
  exact ⟨mg_t2 212 (by decide +kernel) rfl, mg_t2 213 (by decide +kernel) rfl, mg_t2 214 (by decide +kernel) rfl, mg_t1 2 (by decide +kernel) rfl, by decide +kernel, ⟨rfl, mg_t2 215 (by decide +kernel) rfl, by decide, by decide, by decide⟩⟩
theorem pe_Guard_82 : ax_okE mg_TB mg_T0 "MailGuard" 82 (7, 47, 2) := by
  simp only [ax_okE]
  exact ⟨mg_t2 217 (by decide +kernel) rfl, mg_t2 218 (by decide +kernel) rfl, mg_t2 219 (by decide +kernel) rfl, mg_t1 5 (by decide +kernel) rfl, by decide +kernel, ⟨rfl, mg_t2 220 (by decide +kernel) rfl, by decide, by decide, by decide⟩⟩
theorem pe_Guard_85 : ax_okE mg_TB mg_T0 "MailGuard" 85 (17, 51, 1) := by
  simp only [ax_okE]
  exact ⟨mg_t2 239 (by decide +kernel) rfl, mg_t3 1 (by decide +kernel) rfl, mg_p0 2 (by decide +kernel) rfl, mg_t1 5 (by decide +kernel) rfl, by decide +kernel, ⟨rfl, mg_t3 2 (by decide +kernel) rfl, by decide, by decide, by decide⟩⟩
theorem pe_Guard_89 : ax_okE mg_TB mg_T0 "MailGuard" 89 (7, 85, 1) := by
  simp only [ax_okE]
  exact ⟨mg_t3 207 (by decide +kernel) rfl, mg_t3 208 (by decide +kernel) rfl, mg_t3 209 (by decide +kernel) rfl, mg_t1 5 (by decide +kernel) rfl, by decide +kernel, ⟨rfl, mg_t3 210 (by decide +kernel) rfl, by decide, by decide, by decide⟩⟩
theorem pe_Guard_92 : ax_okE mg_TB mg_T0 "MailGuard" 92 (7, 23, 0) := by
  simp only [ax_okE]
  exact ⟨mg_t2 29 (by decide +kernel) rfl, mg_t2 30 (by decide +kernel) rfl, mg_t2 31 (by decide +kernel) rfl, mg_t1 5 (by decide +kernel) rfl, by decide +kernel, ⟨rfl, mg_t2 32 (by decide +kernel) rfl, by decide, by decide, by decide⟩⟩
theorem pe_Guard_95 : ax_okE mg_TB mg_T0 "MailGuard" 95 (7, 24, 0) := by
  simp only [ax_okE]
  exact ⟨mg_t2 33 (by decide +kernel) rfl, mg_t2 34 (by decide +kernel) rfl, mg_t2 35 (by decide +kernel) rfl, mg_t1 5 (by decide +kernel) rfl, by decide +kernel, ⟨rfl, mg_t2 36 (by decide +kernel) rfl, by decide, by decide, by decide⟩⟩
theorem pe_Guard_98 : ax_okE mg_TB mg_T0 "MailGuard" 98 (7, 25, 0) := by
  simp only [ax_okE]
  exact ⟨mg_t2 37 (by decide +kernel) rfl, mg_t2 38 (by decide +kernel) rfl, mg_t2 39 (by decide +kernel) rfl, mg_t1 5 (by decide +kernel) rfl, by decide +kernel, ⟨rfl, mg_t2 40 (by decide +kernel) rfl, by decide, by decide, by decide⟩⟩
theorem pe_Guard_101 : ax_okE mg_TB mg_T0 "MailGuard" 101 (7, 26, 0) := by
  simp only [ax_okE]
  exact ⟨mg_t2 41 (by decide +kernel) rfl, mg_t2 42 (by decide +kernel) rfl, mg_t2 43 (by decide +kernel) rfl, mg_t1 5 (by decide +kernel) rfl, by decide +kernel, ⟨rfl, mg_t2 44 (by decide +kernel) rfl, by decide, by decide, by decide⟩⟩
theorem pe_Guard_104 : ax_okE mg_TB mg_T0 "MailGuard" 104 (7, 27, 0) := by
  simp only [ax_okE]
  exact ⟨mg_t2 45 (by decide +kernel) rfl, mg_t2 46 (by decide +kernel) rfl, mg_t2 47 (by decide +kernel) rfl, mg_t1 5 (by decide +kernel) rfl, by decide +kernel, ⟨rfl, mg_t2 48 (by decide +kernel) rfl, by decide, by decide, by decide⟩⟩
theorem pe_Guard_107 : ax_okE mg_TB mg_T0 "MailGuard" 107 (7, 28, 0) := by
  simp only [ax_okE]
  exact ⟨mg_t2 49 (by decide +kernel) rfl, mg_t2 50 (by decide +kernel) rfl, mg_t2 51 (by decide +kernel) rfl, mg_t1 5 (by decide +kernel) rfl, by decide +kernel, ⟨rfl, mg_t2 52 (by decide +kernel) rfl, by decide, by decide, by decide⟩⟩
theorem pe_Guard_110 : ax_okE mg_TB mg_T0 "MailGuard" 110 (7, 30, 0) := by
  simp only [ax_okE]
  exact ⟨mg_t2 57 (by decide +kernel) rfl, mg_t2 58 (by decide +kernel) rfl, mg_t2 59 (by decide +kernel) rfl, mg_t1 3 (by decide +kernel) rfl, by decide +kernel, ⟨rfl, mg_t2 60 (by decide +kernel) rfl, by decide, by decide, by decide⟩⟩
theorem pe_Guard_114 : ax_okE mg_TB mg_T0 "MailGuard" 114 (7, 31, 1) := by
  simp only [ax_okE]
  exact ⟨mg_t2 61 (by decide +kernel) rfl, mg_t2 62 (by decide +kernel) rfl, mg_t2 63 (by decide +kernel) rfl, mg_t1 2 (by decide +kernel) rfl, by decide +kernel, ⟨rfl, mg_t2 64 (by decide +kernel) rfl, by decide, by decide, by decide⟩⟩
theorem pe_Guard_118 : ax_okE mg_TB mg_T0 "MailGuard" 118 (7, 87, 2) := by
  simp only [ax_okE]
  exact ⟨mg_t3 219 (by decide +kernel) rfl, mg_t3 220 (by decide +kernel) rfl, mg_t3 221 (by decide +kernel) rfl, mg_t1 8 (by decide +kernel) rfl, by decide +kernel, ⟨rfl, mg_t3 222 (by decide +kernel) rfl, by decide, by decide, by decide⟩⟩
theorem pe_Guard_122 : ax_okE mg_TB mg_T0 "MailGuard" 122 (7, 34, 1) := by
  simp only [ax_okE]
  exact ⟨mg_t2 73 (by decide +kernel) rfl, mg_t2 74 (by decide +kernel) rfl, mg_t2 75 (by decide +kernel) rfl, mg_t1 3 (by decide +kernel) rfl, by decide +kernel, ⟨rfl, mg_t2 76 (by decide +kernel) rfl, by decide, by decide, by decide⟩⟩
theorem pe_Guard_125 : ax_okE mg_TB mg_T0 "MailGuard" 125 (2, 2, 0) := by
  simp only [ax_okE]
  exact ⟨by decide, mg_t1 62 (by decide +kernel) rfl⟩
theorem pe_Guard_131 : ax_okE mg_TB mg_T0 "MailGuard" 131 (7, 37, 3) := by
  simp only [ax_okE]
  exact ⟨mg_t2 90 (by decide +kernel) rfl, mg_t2 91 (by decide +kernel) rfl, mg_t2 92 (by decide +kernel) rfl, mg_t1 2 (by decide +kernel) rfl, by decide +kernel, ⟨rfl, mg_t2 93 (by decide +kernel) rfl, by decide, by decide, by decide⟩⟩
theorem pe_Guard_135 : ax_okE mg_TB mg_T0 "MailGuard" 135 (7, 38, 2) := by
  simp only [ax_okE]
  exact ⟨mg_t2 95 (by decide +kernel) rfl, mg_t2 96 (by decide +kernel) rfl, mg_t2 97 (by decide +kernel) rfl, mg_t1 2 (by decide +kernel) rfl, by decide +kernel, ⟨rfl, mg_t2 98 (by decide +kernel) rfl, by decide, by decide, by decide⟩⟩
theorem pe_Guard_138 : ax_okE mg_TB mg_T0 "MailGuard" 138 (7, 40, 2) := by
  simp only [ax_okE]
  exact ⟨mg_t2 102 (by decide +kernel) rfl, mg_t2 103 (by decide +kernel) rfl, mg_t2 104 (by decide +kernel) rfl, mg_t1 2 (by decide +kernel) rfl, by decide +kernel, ⟨rfl, mg_t2 105 (by decide +kernel) rfl, by decide, by decide, by decide⟩⟩
theorem pe_Guard_142 : ax_okE mg_TB mg_T0 "MailGuard" 142 (11, 18446744073709551615, 0) := by
  simp only [ax_okE]
  exact mg_t2 111 (by decide +kernel) rfl
theorem pe_Text_3 : ax_okE mg_TB mg_T0 "MailGuard$Text" 3 (9, 0, 0) := by
  simp only [ax_okE]
  exact ⟨mg_t1 34 (by decide +kernel) rfl, mg_t1 27 (by decide +kernel) rfl, mg_t1 28 (by decide +kernel) rfl⟩
theorem pe_Text_9 : ax_okE mg_TB mg_T0 "MailGuard$Text" 9 (1, 1, 0) := by
  simp only [ax_okE]
  exact ⟨by decide, mg_t1 35 (by decide +kernel) rfl⟩
theorem pe_Text_15 : ax_okE mg_TB mg_T0 "MailGuard$Text" 15 (1, 1, 1) := by
  simp only [ax_okE]
  exact ⟨by decide, mg_t1 36 (by decide +kernel) rfl⟩
theorem pe_Text_29 : ax_okE mg_TB mg_T0 "MailGuard$Text" 29 (7, 16, 1) := by
  simp only [ax_okE]
  exact ⟨mg_t2 226 (by decide +kernel) rfl, mg_t2 2 (by decide +kernel) rfl, mg_t2 3 (by decide +kernel) rfl, mg_t1 2 (by decide +kernel) rfl, by decide +kernel, ⟨rfl, mg_t2 4 (by decide +kernel) rfl, by decide, by decide, by decide⟩⟩
theorem pe_Text_33 : ax_okE mg_TB mg_T0 "MailGuard$Text" 33 (7, 78, 1) := by
  simp only [ax_okE]
  exact ⟨mg_t3 174 (by decide +kernel) rfl, mg_t3 175 (by decide +kernel) rfl, mg_t3 176 (by decide +kernel) rfl, mg_t1 2 (by decide +kernel) rfl, by decide +kernel, ⟨rfl, mg_t3 177 (by decide +kernel) rfl, by decide, by decide, by decide⟩⟩
theorem pe_Text_37 : ax_okE mg_TB mg_T0 "MailGuard$Text" 37 (7, 31, 1) := by
  simp only [ax_okE]
  exact ⟨mg_t2 94 (by decide +kernel) rfl, mg_t2 62 (by decide +kernel) rfl, mg_t2 63 (by decide +kernel) rfl, mg_t1 2 (by decide +kernel) rfl, by decide +kernel, ⟨rfl, mg_t2 64 (by decide +kernel) rfl, by decide, by decide, by decide⟩⟩
theorem pe_Text_40 : ax_okE mg_TB mg_T0 "MailGuard$Text" 40 (7, 44, 3) := by
  simp only [ax_okE]
  exact ⟨mg_t3 178 (by decide +kernel) rfl, mg_t2 201 (by decide +kernel) rfl, mg_t2 202 (by decide +kernel) rfl, mg_t1 2 (by decide +kernel) rfl, by decide +kernel, ⟨rfl, mg_t2 203 (by decide +kernel) rfl, by decide, by decide, by decide⟩⟩
theorem pe_Text_44 : ax_okE mg_TB mg_T0 "MailGuard$Text" 44 (7, 38, 2) := by
  simp only [ax_okE]
  exact ⟨mg_t2 216 (by decide +kernel) rfl, mg_t2 96 (by decide +kernel) rfl, mg_t2 97 (by decide +kernel) rfl, mg_t1 2 (by decide +kernel) rfl, by decide +kernel, ⟨rfl, mg_t2 98 (by decide +kernel) rfl, by decide, by decide, by decide⟩⟩
theorem pe_Text_48 : ax_okE mg_TB mg_T0 "MailGuard$Text" 48 (6, 39, 1) := by
  simp only [ax_okE]
  exact ⟨mg_t2 99 (by decide +kernel) rfl, mg_t2 100 (by decide +kernel) rfl, mg_t1 2 (by decide +kernel) rfl, by decide +kernel, ⟨rfl, mg_t2 101 (by decide +kernel) rfl, by decide, by decide, by decide⟩⟩
theorem pe_Text_52 : ax_okE mg_TB mg_T0 "MailGuard$Text" 52 (7, 41, 3) := by
  simp only [ax_okE]
  exact ⟨mg_t2 106 (by decide +kernel) rfl, mg_t2 107 (by decide +kernel) rfl, mg_t2 108 (by decide +kernel) rfl, mg_t1 2 (by decide +kernel) rfl, by decide +kernel, ⟨rfl, mg_t2 109 (by decide +kernel) rfl, by decide, by decide, by decide⟩⟩
theorem pe_Text_56 : ax_okE mg_TB mg_T0 "MailGuard$Text" 56 (11, 18446744073709551615, 0) := by
  simp only [ax_okE]
  exact mg_t2 110 (by decide +kernel) rfl
theorem pe_Text (idx : Nat) : ax_okE mg_TB mg_T0 "MailGuard$Text" idx (pl_Text idx) := by
  unfold pl_Text
  split
  · exact pe_Text_3
  · exact pe_Text_9
  · exact pe_Text_15
  · exact pe_Text_29
  · exact pe_Text_33
  · exact pe_Text_37
  · exact pe_Text_40
  · exact pe_Text_44
  · exact pe_Text_48
  · exact pe_Text_52
  · exact pe_Text_56
  · exact trivial
theorem pe_Row_3 : ax_okE mg_TB mg_T0 "MailGuard$Row" 3 (9, 0, 0) := by
  simp only [ax_okE]
  exact ⟨mg_t1 57 (by decide +kernel) rfl, mg_t1 27 (by decide +kernel) rfl, mg_t1 28 (by decide +kernel) rfl⟩
theorem pe_Row_9 : ax_okE mg_TB mg_T0 "MailGuard$Row" 9 (4, 1, 2) := by
  simp only [ax_okE]
  exact ⟨rfl, mg_t1 58 (by decide +kernel) rfl, mg_t1 30 (by decide +kernel) rfl, mg_t1 2 (by decide +kernel) rfl⟩
theorem pe_Row_11 : ax_okE mg_TB mg_T0 "MailGuard$Row" 11 (8, 5, 1) := by
  simp only [ax_okE]
  exact ⟨mg_t1 59 (by decide +kernel) rfl, mg_t1 32 (by decide +kernel) rfl, rfl, rfl, mg_t1 2 (by decide +kernel) rfl, by decide +kernel, ⟨rfl, mg_t1 33 (by decide +kernel) rfl, by decide, by decide, by decide⟩⟩
theorem pe_Row_14 : ax_okE mg_TB mg_T0 "MailGuard$Row" 14 (1, 2, 1) := by
  simp only [ax_okE]
  exact ⟨by decide, mg_t1 63 (by decide +kernel) rfl⟩
theorem pe_Row_20 : ax_okE mg_TB mg_T0 "MailGuard$Row" 20 (1, 2, 2) := by
  simp only [ax_okE]
  exact ⟨by decide, mg_t1 65 (by decide +kernel) rfl⟩
theorem pe_Row_23 : ax_okE mg_TB mg_T0 "MailGuard$Row" 23 (7, 15, 0) := by
  simp only [ax_okE]
  exact ⟨mg_t2 197 (by decide +kernel) rfl, mg_t1 238 (by decide +kernel) rfl, mg_t1 239 (by decide +kernel) rfl, mg_t1 2 (by decide +kernel) rfl, by decide +kernel, ⟨rfl, mg_t2 0 (by decide +kernel) rfl, by decide, by decide, by decide⟩⟩
theorem pe_Row_27 : ax_okE mg_TB mg_T0 "MailGuard$Row" 27 (7, 37, 3) := by
  simp only [ax_okE]
  exact ⟨mg_t2 198 (by decide +kernel) rfl, mg_t2 91 (by decide +kernel) rfl, mg_t2 92 (by decide +kernel) rfl, mg_t1 2 (by decide +kernel) rfl, by decide +kernel, ⟨rfl, mg_t2 93 (by decide +kernel) rfl, by decide, by decide, by decide⟩⟩
theorem pe_Row_31 : ax_okE mg_TB mg_T0 "MailGuard$Row" 31 (1, 2, 0) := by
  simp only [ax_okE]
  exact ⟨by decide, mg_t1 60 (by decide +kernel) rfl⟩
theorem pe_Row_35 : ax_okE mg_TB mg_T0 "MailGuard$Row" 35 (7, 18, 0) := by
  simp only [ax_okE]
  exact ⟨mg_t2 199 (by decide +kernel) rfl, mg_t2 10 (by decide +kernel) rfl, mg_t2 11 (by decide +kernel) rfl, mg_t1 2 (by decide +kernel) rfl, by decide +kernel, ⟨rfl, mg_t2 12 (by decide +kernel) rfl, by decide, by decide, by decide⟩⟩
theorem pe_Row_38 : ax_okE mg_TB mg_T0 "MailGuard$Row" 38 (7, 44, 3) := by
  simp only [ax_okE]
  exact ⟨mg_t2 200 (by decide +kernel) rfl, mg_t2 201 (by decide +kernel) rfl, mg_t2 202 (by decide +kernel) rfl, mg_t1 2 (by decide +kernel) rfl, by decide +kernel, ⟨rfl, mg_t2 203 (by decide +kernel) rfl, by decide, by decide, by decide⟩⟩
theorem pe_Row_42 : ax_okE mg_TB mg_T0 "MailGuard$Row" 42 (7, 40, 2) := by
  simp only [ax_okE]
  exact ⟨mg_t2 204 (by decide +kernel) rfl, mg_t2 103 (by decide +kernel) rfl, mg_t2 104 (by decide +kernel) rfl, mg_t1 2 (by decide +kernel) rfl, by decide +kernel, ⟨rfl, mg_t2 105 (by decide +kernel) rfl, by decide, by decide, by decide⟩⟩
theorem pe_Row_46 : ax_okE mg_TB mg_T0 "MailGuard$Row" 46 (1, 2, 3) := by
  simp only [ax_okE]
  exact ⟨by decide, mg_t1 68 (by decide +kernel) rfl⟩
theorem pe_Row_48 : ax_okE mg_TB mg_T0 "MailGuard$Row" 48 (7, 54, 3) := by
  simp only [ax_okE]
  exact ⟨mg_t3 23 (by decide +kernel) rfl, mg_t3 14 (by decide +kernel) rfl, mg_t3 15 (by decide +kernel) rfl, mg_t1 2 (by decide +kernel) rfl, by decide +kernel, ⟨rfl, mg_t3 16 (by decide +kernel) rfl, by decide, by decide, by decide⟩⟩
theorem pe_Row (idx : Nat) : ax_okE mg_TB mg_T0 "MailGuard$Row" idx (pl_Row idx) := by
  unfold pl_Row
  split
  · exact pe_Row_3
  · exact pe_Row_9
  · exact pe_Row_11
  · exact pe_Row_14
  · exact pe_Row_20
  · exact pe_Row_23
  · exact pe_Row_27
  · exact pe_Row_31
  · exact pe_Row_35
  · exact pe_Row_38
  · exact pe_Row_42
  · exact pe_Row_46
  · exact pe_Row_48
  · exact trivial
theorem pe_Table_3 : ax_okE mg_TB mg_T0 "MailGuard$Table" 3 (9, 0, 0) := by
  simp only [ax_okE]
  exact ⟨mg_t1 48 (by decide +kernel) rfl, mg_t1 27 (by decide +kernel) rfl, mg_t1 28 (by decide +kernel) rfl⟩
theorem pe_Table_9 : ax_okE mg_TB mg_T0 "MailGuard$Table" 9 (4, 2, 4) := by
  simp only [ax_okE]
  exact ⟨rfl, mg_t1 49 (by decide +kernel) rfl, mg_t1 53 (by decide +kernel) rfl, mg_t1 4 (by decide +kernel) rfl⟩
theorem pe_Table_11 : ax_okE mg_TB mg_T0 "MailGuard$Table" 11 (1, 3, 0) := by
  simp only [ax_okE]
  exact ⟨by decide, mg_t1 79 (by decide +kernel) rfl⟩
theorem pe_Table_17 : ax_okE mg_TB mg_T0 "MailGuard$Table" 17 (4, 1, 2) := by
  simp only [ax_okE]
  exact ⟨rfl, mg_t1 51 (by decide +kernel) rfl, mg_t1 30 (by decide +kernel) rfl, mg_t1 2 (by decide +kernel) rfl⟩
theorem pe_Table_19 : ax_okE mg_TB mg_T0 "MailGuard$Table" 19 (8, 5, 1) := by
  simp only [ax_okE]
  exact ⟨mg_t1 52 (by decide +kernel) rfl, mg_t1 32 (by decide +kernel) rfl, rfl, rfl, mg_t1 2 (by decide +kernel) rfl, by decide +kernel, ⟨rfl, mg_t1 33 (by decide +kernel) rfl, by decide, by decide, by decide⟩⟩
theorem pe_Table_22 : ax_okE mg_TB mg_T0 "MailGuard$Table" 22 (1, 3, 2) := by
  simp only [ax_okE]
  exact ⟨by decide, mg_t1 81 (by decide +kernel) rfl⟩
theorem pe_Table_26 : ax_okE mg_TB mg_T0 "MailGuard$Table" 26 (18, 7, 0) := by
  simp only [ax_okE]
  exact ⟨mg_t1 54 (by decide +kernel) rfl, mg_t1 55 (by decide +kernel) rfl, rfl, rfl, mg_t1 4 (by decide +kernel) rfl, by decide +kernel, ⟨rfl, mg_t1 56 (by decide +kernel) rfl, by decide, by decide, by decide⟩⟩
theorem pe_Table_27 : ax_okE mg_TB mg_T0 "MailGuard$Table" 27 (1, 3, 1) := by
  simp only [ax_okE]
  exact ⟨by decide, mg_t1 80 (by decide +kernel) rfl⟩
theorem pe_Table_31 : ax_okE mg_TB mg_T0 "MailGuard$Table" 31 (7, 18, 0) := by
  simp only [ax_okE]
  exact ⟨mg_t2 238 (by decide +kernel) rfl, mg_t2 10 (by decide +kernel) rfl, mg_t2 11 (by decide +kernel) rfl, mg_t1 2 (by decide +kernel) rfl, by decide +kernel, ⟨rfl, mg_t2 12 (by decide +kernel) rfl, by decide, by decide, by decide⟩⟩
theorem pe_Table_34 : ax_okE mg_TB mg_T0 "MailGuard$Table" 34 (7, 43, 2) := by
  simp only [ax_okE]
  exact ⟨mg_t2 193 (by decide +kernel) rfl, mg_t2 194 (by decide +kernel) rfl, mg_t2 195 (by decide +kernel) rfl, mg_t1 4 (by decide +kernel) rfl, by decide +kernel, ⟨rfl, mg_t2 196 (by decide +kernel) rfl, by decide, by decide, by decide⟩⟩
theorem pe_Table_38 : ax_okE mg_TB mg_T0 "MailGuard$Table" 38 (7, 15, 0) := by
  simp only [ax_okE]
  exact ⟨mg_t3 11 (by decide +kernel) rfl, mg_t1 238 (by decide +kernel) rfl, mg_t1 239 (by decide +kernel) rfl, mg_t1 2 (by decide +kernel) rfl, by decide +kernel, ⟨rfl, mg_t2 0 (by decide +kernel) rfl, by decide, by decide, by decide⟩⟩
theorem pe_Table_42 : ax_okE mg_TB mg_T0 "MailGuard$Table" 42 (7, 44, 3) := by
  simp only [ax_okE]
  exact ⟨mg_t3 12 (by decide +kernel) rfl, mg_t2 201 (by decide +kernel) rfl, mg_t2 202 (by decide +kernel) rfl, mg_t1 2 (by decide +kernel) rfl, by decide +kernel, ⟨rfl, mg_t2 203 (by decide +kernel) rfl, by decide, by decide, by decide⟩⟩
theorem pe_Table_46 : ax_okE mg_TB mg_T0 "MailGuard$Table" 46 (2, 2, 1) := by
  simp only [ax_okE]
  exact ⟨by decide, mg_t1 64 (by decide +kernel) rfl⟩
theorem pe_Table_49 : ax_okE mg_TB mg_T0 "MailGuard$Table" 49 (7, 54, 3) := by
  simp only [ax_okE]
  exact ⟨mg_t3 13 (by decide +kernel) rfl, mg_t3 14 (by decide +kernel) rfl, mg_t3 15 (by decide +kernel) rfl, mg_t1 2 (by decide +kernel) rfl, by decide +kernel, ⟨rfl, mg_t3 16 (by decide +kernel) rfl, by decide, by decide, by decide⟩⟩
theorem pe_Table_53 : ax_okE mg_TB mg_T0 "MailGuard$Table" 53 (2, 2, 0) := by
  simp only [ax_okE]
  exact ⟨by decide, mg_t1 61 (by decide +kernel) rfl⟩
theorem pe_Table_56 : ax_okE mg_TB mg_T0 "MailGuard$Table" 56 (6, 89, 2) := by
  simp only [ax_okE]
  exact ⟨mg_t3 227 (by decide +kernel) rfl, mg_t3 228 (by decide +kernel) rfl, mg_t1 3 (by decide +kernel) rfl, by decide +kernel, ⟨rfl, mg_t3 229 (by decide +kernel) rfl, by decide, by decide, by decide⟩⟩
theorem pe_Table_66 : ax_okE mg_TB mg_T0 "MailGuard$Table" 66 (7, 52, 1) := by
  simp only [ax_okE]
  exact ⟨mg_t3 232 (by decide +kernel) rfl, mg_t3 4 (by decide +kernel) rfl, mg_t3 5 (by decide +kernel) rfl, mg_t1 2 (by decide +kernel) rfl, by decide +kernel, ⟨rfl, mg_t3 6 (by decide +kernel) rfl, by decide, by decide, by decide⟩⟩
theorem pe_Table_70 : ax_okE mg_TB mg_T0 "MailGuard$Table" 70 (7, 90, 1) := by
  simp only [ax_okE]
  exact ⟨mg_t3 233 (by decide +kernel) rfl, mg_t3 234 (by decide +kernel) rfl, mg_t3 235 (by decide +kernel) rfl, mg_t1 2 (by decide +kernel) rfl, by decide +kernel, ⟨rfl, mg_t3 236 (by decide +kernel) rfl, by decide, by decide, by decide⟩⟩
theorem pe_Table_73 : ax_okE mg_TB mg_T0 "MailGuard$Table" 73 (7, 31, 1) := by
  simp only [ax_okE]
  exact ⟨mg_t3 230 (by decide +kernel) rfl, mg_t2 62 (by decide +kernel) rfl, mg_t2 63 (by decide +kernel) rfl, mg_t1 2 (by decide +kernel) rfl, by decide +kernel, ⟨rfl, mg_t2 64 (by decide +kernel) rfl, by decide, by decide, by decide⟩⟩
theorem pe_Table (idx : Nat) : ax_okE mg_TB mg_T0 "MailGuard$Table" idx (pl_Table idx) := by
  unfold pl_Table
  split
  · exact pe_Table_3
  · exact pe_Table_9
  · exact pe_Table_11
  · exact pe_Table_17
  · exact pe_Table_19
  · exact pe_Table_22
  · exact pe_Table_26
  · exact pe_Table_27
  · exact pe_Table_31
  · exact pe_Table_34
  · exact pe_Table_38
  · exact pe_Table_42
  · exact pe_Table_46
  · exact pe_Table_49
  · exact pe_Table_53
  · exact pe_Table_56
  · exact pe_Table_66
  · exact pe_Table_70
  · exact pe_Table_73
  · exact trivial
theorem pe_Term_3 : ax_okE mg_TB mg_T0 "MailGuard$Term" 3 (9, 0, 0) := by
  simp only [ax_okE]
  exact ⟨mg_t1 111 (by decide +kernel) rfl, mg_t1 27 (by decide +kernel) rfl, mg_t1 28 (by decide +kernel) rfl⟩
theorem pe_Term_9 : ax_okE mg_TB mg_T0 "MailGuard$Term" 9 (1, 4, 0) := by
  simp only [ax_okE]
  exact ⟨by decide, mg_t1 112 (by decide +kernel) rfl⟩
theorem pe_Term_15 : ax_okE mg_TB mg_T0 "MailGuard$Term" 15 (1, 4, 2) := by
  simp only [ax_okE]
  exact ⟨by decide, mg_t1 116 (by decide +kernel) rfl⟩
theorem pe_Term_18 : ax_okE mg_TB mg_T0 "MailGuard$Term" 18 (1, 4, 3) := by
  simp only [ax_okE]
  exact ⟨by decide, mg_t1 118 (by decide +kernel) rfl⟩
theorem pe_Term_21 : ax_okE mg_TB mg_T0 "MailGuard$Term" 21 (6, 60, 3) := by
  simp only [ax_okE]
  exact ⟨mg_t3 92 (by decide +kernel) rfl, mg_t3 93 (by decide +kernel) rfl, mg_t1 7 (by decide +kernel) rfl, by decide +kernel, ⟨rfl, mg_t3 94 (by decide +kernel) rfl, by decide, by decide, by decide⟩⟩
theorem pe_Term_25 : ax_okE mg_TB mg_T0 "MailGuard$Term" 25 (7, 62, 4) := by
  simp only [ax_okE]
  exact ⟨mg_t3 100 (by decide +kernel) rfl, mg_t3 102 (by decide +kernel) rfl, mg_p0 3 (by decide +kernel) rfl, mg_t1 7 (by decide +kernel) rfl, by decide +kernel, ⟨rfl, mg_t3 103 (by decide +kernel) rfl, by decide, by decide, by decide⟩⟩
theorem pe_Term_29 : ax_okE mg_TB mg_T0 "MailGuard$Term" 29 (7, 66, 3) := by
  simp only [ax_okE]
  exact ⟨mg_t3 116 (by decide +kernel) rfl, mg_t3 118 (by decide +kernel) rfl, mg_p0 4 (by decide +kernel) rfl, mg_t1 7 (by decide +kernel) rfl, by decide +kernel, ⟨rfl, mg_t3 119 (by decide +kernel) rfl, by decide, by decide, by decide⟩⟩
theorem pe_Term_33 : ax_okE mg_TB mg_T0 "MailGuard$Term" 33 (7, 31, 1) := by
  simp only [ax_okE]
  exact ⟨mg_t3 95 (by decide +kernel) rfl, mg_t2 62 (by decide +kernel) rfl, mg_t2 63 (by decide +kernel) rfl, mg_t1 2 (by decide +kernel) rfl, by decide +kernel, ⟨rfl, mg_t2 64 (by decide +kernel) rfl, by decide, by decide, by decide⟩⟩
theorem pe_Term_39 : ax_okE mg_TB mg_T0 "MailGuard$Term" 39 (6, 61, 1) := by
  simp only [ax_okE]
  exact ⟨mg_t3 96 (by decide +kernel) rfl, mg_t3 97 (by decide +kernel) rfl, mg_t1 2 (by decide +kernel) rfl, by decide +kernel, ⟨rfl, mg_t3 98 (by decide +kernel) rfl, by decide, by decide, by decide⟩⟩
theorem pe_Term_43 : ax_okE mg_TB mg_T0 "MailGuard$Term" 43 (6, 39, 1) := by
  simp only [ax_okE]
  exact ⟨mg_t3 99 (by decide +kernel) rfl, mg_t2 100 (by decide +kernel) rfl, mg_t1 2 (by decide +kernel) rfl, by decide +kernel, ⟨rfl, mg_t2 101 (by decide +kernel) rfl, by decide, by decide, by decide⟩⟩
theorem pe_Term_48 : ax_okE mg_TB mg_T0 "MailGuard$Term" 48 (7, 57, 3) := by
  simp only [ax_okE]
  exact ⟨mg_t3 105 (by decide +kernel) rfl, mg_t3 42 (by decide +kernel) rfl, mg_t3 43 (by decide +kernel) rfl, mg_t1 2 (by decide +kernel) rfl, by decide +kernel, ⟨rfl, mg_t3 44 (by decide +kernel) rfl, by decide, by decide, by decide⟩⟩
theorem pe_Term_52 : ax_okE mg_TB mg_T0 "MailGuard$Term" 52 (7, 63, 0) := by
  simp only [ax_okE]
  exact ⟨mg_t3 106 (by decide +kernel) rfl, mg_t3 107 (by decide +kernel) rfl, mg_t3 108 (by decide +kernel) rfl, mg_t1 7 (by decide +kernel) rfl, by decide +kernel, ⟨rfl, mg_t3 109 (by decide +kernel) rfl, by decide, by decide, by decide⟩⟩
theorem pe_Term_56 : ax_okE mg_TB mg_T0 "MailGuard$Term" 56 (6, 64, 3) := by
  simp only [ax_okE]
  exact ⟨mg_t3 110 (by decide +kernel) rfl, mg_t3 111 (by decide +kernel) rfl, mg_t1 7 (by decide +kernel) rfl, by decide +kernel, ⟨rfl, mg_t3 112 (by decide +kernel) rfl, by decide, by decide, by decide⟩⟩
theorem pe_Term_59 : ax_okE mg_TB mg_T0 "MailGuard$Term" 59 (7, 67, 1) := by
  simp only [ax_okE]
  exact ⟨mg_t3 120 (by decide +kernel) rfl, mg_t3 122 (by decide +kernel) rfl, mg_p0 5 (by decide +kernel) rfl, mg_t1 7 (by decide +kernel) rfl, by decide +kernel, ⟨rfl, mg_t3 123 (by decide +kernel) rfl, by decide, by decide, by decide⟩⟩
theorem pe_Term_62 : ax_okE mg_TB mg_T0 "MailGuard$Term" 62 (7, 37, 3) := by
  simp only [ax_okE]
  exact ⟨mg_t3 124 (by decide +kernel) rfl, mg_t2 91 (by decide +kernel) rfl, mg_t2 92 (by decide +kernel) rfl, mg_t1 2 (by decide +kernel) rfl, by decide +kernel, ⟨rfl, mg_t2 93 (by decide +kernel) rfl, by decide, by decide, by decide⟩⟩
theorem pe_Term_66 : ax_okE mg_TB mg_T0 "MailGuard$Term" 66 (6, 68, 3) := by
  simp only [ax_okE]
  exact ⟨mg_t3 125 (by decide +kernel) rfl, mg_t3 126 (by decide +kernel) rfl, mg_t1 7 (by decide +kernel) rfl, by decide +kernel, ⟨rfl, mg_t3 127 (by decide +kernel) rfl, by decide, by decide, by decide⟩⟩
theorem pe_Term_69 : ax_okE mg_TB mg_T0 "MailGuard$Term" 69 (7, 41, 3) := by
  simp only [ax_okE]
  exact ⟨mg_t3 134 (by decide +kernel) rfl, mg_t2 107 (by decide +kernel) rfl, mg_t2 108 (by decide +kernel) rfl, mg_t1 2 (by decide +kernel) rfl, by decide +kernel, ⟨rfl, mg_t2 109 (by decide +kernel) rfl, by decide, by decide, by decide⟩⟩
theorem pe_Term_73 : ax_okE mg_TB mg_T0 "MailGuard$Term" 73 (1, 4, 4) := by
  simp only [ax_okE]
  exact ⟨by decide, mg_t1 120 (by decide +kernel) rfl⟩
theorem pe_Term_76 : ax_okE mg_TB mg_T0 "MailGuard$Term" 76 (7, 40, 2) := by
  simp only [ax_okE]
  exact ⟨mg_t3 135 (by decide +kernel) rfl, mg_t2 103 (by decide +kernel) rfl, mg_t2 104 (by decide +kernel) rfl, mg_t1 2 (by decide +kernel) rfl, by decide +kernel, ⟨rfl, mg_t2 105 (by decide +kernel) rfl, by decide, by decide, by decide⟩⟩
theorem pe_Term_80 : ax_okE mg_TB mg_T0 "MailGuard$Term" 80 (7, 69, 1) := by
  simp only [ax_okE]
  exact ⟨mg_t3 136 (by decide +kernel) rfl, mg_t3 138 (by decide +kernel) rfl, mg_p0 6 (by decide +kernel) rfl, mg_t1 7 (by decide +kernel) rfl, by decide +kernel, ⟨rfl, mg_t3 139 (by decide +kernel) rfl, by decide, by decide, by decide⟩⟩
theorem pe_Term_84 : ax_okE mg_TB mg_T0 "MailGuard$Term" 84 (1, 4, 5) := by
  simp only [ax_okE]
  exact ⟨by decide, mg_t1 122 (by decide +kernel) rfl⟩
theorem pe_Term_86 : ax_okE mg_TB mg_T0 "MailGuard$Term" 86 (11, 18446744073709551615, 0) := by
  simp only [ax_okE]
  exact mg_t3 140 (by decide +kernel) rfl
theorem pe_Term_88 : ax_okE mg_TB mg_T0 "MailGuard$Term" 88 (1, 4, 1) := by
  simp only [ax_okE]
  exact ⟨by decide, mg_t1 114 (by decide +kernel) rfl⟩
theorem pe_Term_103 : ax_okE mg_TB mg_T0 "MailGuard$Term" 103 (6, 65, 3) := by
  simp only [ax_okE]
  exact ⟨mg_t3 113 (by decide +kernel) rfl, mg_t3 114 (by decide +kernel) rfl, mg_t1 7 (by decide +kernel) rfl, by decide +kernel, ⟨rfl, mg_t3 115 (by decide +kernel) rfl, by decide, by decide, by decide⟩⟩
theorem pe_Term (idx : Nat) : ax_okE mg_TB mg_T0 "MailGuard$Term" idx (pl_Term idx) := by
  unfold pl_Term
  split
  · exact pe_Term_3
  · exact pe_Term_9
  · exact pe_Term_15
  · exact pe_Term_18
  · exact pe_Term_21
  · exact pe_Term_25
  · exact pe_Term_29
  · exact pe_Term_33
  · exact pe_Term_39
  · exact pe_Term_43
  · exact pe_Term_48
  · exact pe_Term_52
  · exact pe_Term_56
  · exact pe_Term_59
  · exact pe_Term_62
  · exact pe_Term_66
  · exact pe_Term_69
  · exact pe_Term_73
  · exact pe_Term_76
  · exact pe_Term_80
  · exact pe_Term_84
  · exact pe_Term_86
  · exact pe_Term_88
  · exact pe_Term_103
  · exact trivial
theorem pe_Level_3 : ax_okE mg_TB mg_T0 "MailGuard$Level" 3 (9, 0, 0) := by
  simp only [ax_okE]
  exact ⟨mg_t1 103 (by decide +kernel) rfl, mg_t1 27 (by decide +kernel) rfl, mg_t1 28 (by decide +kernel) rfl⟩
theorem pe_Level_9 : ax_okE mg_TB mg_T0 "MailGuard$Level" 9 (4, 1, 2) := by
  simp only [ax_okE]
  exact ⟨rfl, mg_t1 104 (by decide +kernel) rfl, mg_t1 30 (by decide +kernel) rfl, mg_t1 2 (by decide +kernel) rfl⟩
theorem pe_Level_11 : ax_okE mg_TB mg_T0 "MailGuard$Level" 11 (8, 5, 1) := by
  simp only [ax_okE]
  exact ⟨mg_t1 105 (by decide +kernel) rfl, mg_t1 32 (by decide +kernel) rfl, rfl, rfl, mg_t1 2 (by decide +kernel) rfl, by decide +kernel, ⟨rfl, mg_t1 33 (by decide +kernel) rfl, by decide, by decide, by decide⟩⟩
theorem pe_Level_14 : ax_okE mg_TB mg_T0 "MailGuard$Level" 14 (1, 5, 0) := by
  simp only [ax_okE]
  exact ⟨by decide, mg_t1 137 (by decide +kernel) rfl⟩
theorem pe_Level_20 : ax_okE mg_TB mg_T0 "MailGuard$Level" 20 (4, 4, 6) := by
  simp only [ax_okE]
  exact ⟨rfl, mg_t1 106 (by decide +kernel) rfl, mg_t1 107 (by decide +kernel) rfl, mg_t1 7 (by decide +kernel) rfl⟩
theorem pe_Level_22 : ax_okE mg_TB mg_T0 "MailGuard$Level" 22 (18, 10, 0) := by
  simp only [ax_okE]
  exact ⟨mg_t1 108 (by decide +kernel) rfl, mg_t1 109 (by decide +kernel) rfl, rfl, rfl, mg_t1 7 (by decide +kernel) rfl, by decide +kernel, ⟨rfl, mg_t1 110 (by decide +kernel) rfl, by decide, by decide, by decide⟩⟩
theorem pe_Level_23 : ax_okE mg_TB mg_T0 "MailGuard$Level" 23 (1, 5, 1) := by
  simp only [ax_okE]
  exact ⟨by decide, mg_t1 139 (by decide +kernel) rfl⟩
theorem pe_Level (idx : Nat) : ax_okE mg_TB mg_T0 "MailGuard$Level" idx (pl_Level idx) := by
  unfold pl_Level
  split
  · exact pe_Level_3
  · exact pe_Level_9
  · exact pe_Level_11
  · exact pe_Level_14
  · exact pe_Level_20
  · exact pe_Level_22
  · exact pe_Level_23
  · exact trivial
theorem pe_Checker_3 : ax_okE mg_TB mg_T0 "MailGuard$Checker" 3 (9, 0, 0) := by
  simp only [ax_okE]
  exact ⟨mg_t1 94 (by decide +kernel) rfl, mg_t1 27 (by decide +kernel) rfl, mg_t1 28 (by decide +kernel) rfl⟩
theorem pe_Checker_11 : ax_okE mg_TB mg_T0 "MailGuard$Checker" 11 (4, 5, 2) := by
  simp only [ax_okE]
  exact ⟨rfl, mg_t1 95 (by decide +kernel) rfl, mg_t1 99 (by decide +kernel) rfl, mg_t1 6 (by decide +kernel) rfl⟩
theorem pe_Checker_13 : ax_okE mg_TB mg_T0 "MailGuard$Checker" 13 (1, 6, 1) := by
  simp only [ax_okE]
  exact ⟨by decide, mg_t1 147 (by decide +kernel) rfl⟩
theorem pe_Checker_17 : ax_okE mg_TB mg_T0 "MailGuard$Checker" 17 (4, 1, 2) := by
  simp only [ax_okE]
  exact ⟨rfl, mg_t1 97 (by decide +kernel) rfl, mg_t1 30 (by decide +kernel) rfl, mg_t1 2 (by decide +kernel) rfl⟩
theorem pe_Checker_19 : ax_okE mg_TB mg_T0 "MailGuard$Checker" 19 (8, 5, 1) := by
  simp only [ax_okE]
  exact ⟨mg_t1 98 (by decide +kernel) rfl, mg_t1 32 (by decide +kernel) rfl, rfl, rfl, mg_t1 2 (by decide +kernel) rfl, by decide +kernel, ⟨rfl, mg_t1 33 (by decide +kernel) rfl, by decide, by decide, by decide⟩⟩
theorem pe_Checker_22 : ax_okE mg_TB mg_T0 "MailGuard$Checker" 22 (1, 6, 2) := by
  simp only [ax_okE]
  exact ⟨by decide, mg_t1 148 (by decide +kernel) rfl⟩
theorem pe_Checker_26 : ax_okE mg_TB mg_T0 "MailGuard$Checker" 26 (1, 6, 3) := by
  simp only [ax_okE]
  exact ⟨by decide, mg_t1 149 (by decide +kernel) rfl⟩
theorem pe_Checker_29 : ax_okE mg_TB mg_T0 "MailGuard$Checker" 29 (1, 6, 5) := by
  simp only [ax_okE]
  exact ⟨by decide, mg_t1 151 (by decide +kernel) rfl⟩
theorem pe_Checker_33 : ax_okE mg_TB mg_T0 "MailGuard$Checker" 33 (1, 6, 0) := by
  simp only [ax_okE]
  exact ⟨by decide, mg_t1 146 (by decide +kernel) rfl⟩
theorem pe_Checker_37 : ax_okE mg_TB mg_T0 "MailGuard$Checker" 37 (18, 9, 0) := by
  simp only [ax_okE]
  exact ⟨mg_t1 100 (by decide +kernel) rfl, mg_t1 101 (by decide +kernel) rfl, rfl, rfl, mg_t1 6 (by decide +kernel) rfl, by decide +kernel, ⟨rfl, mg_t1 102 (by decide +kernel) rfl, by decide, by decide, by decide⟩⟩
theorem pe_Checker_38 : ax_okE mg_TB mg_T0 "MailGuard$Checker" 38 (1, 6, 6) := by
  simp only [ax_okE]
  exact ⟨by decide, mg_t1 152 (by decide +kernel) rfl⟩
theorem pe_Checker_41 : ax_okE mg_TB mg_T0 "MailGuard$Checker" 41 (1, 6, 7) := by
  simp only [ax_okE]
  exact ⟨by decide, mg_t1 153 (by decide +kernel) rfl⟩
theorem pe_Checker_44 : ax_okE mg_TB mg_T0 "MailGuard$Checker" 44 (1, 6, 8) := by
  simp only [ax_okE]
  exact ⟨by decide, mg_t1 154 (by decide +kernel) rfl⟩
theorem pe_Checker_47 : ax_okE mg_TB mg_T0 "MailGuard$Checker" 47 (1, 6, 9) := by
  simp only [ax_okE]
  exact ⟨by decide, mg_t1 155 (by decide +kernel) rfl⟩
theorem pe_Checker_50 : ax_okE mg_TB mg_T0 "MailGuard$Checker" 50 (2, 5, 0) := by
  simp only [ax_okE]
  exact ⟨by decide, mg_t1 138 (by decide +kernel) rfl⟩
theorem pe_Checker_53 : ax_okE mg_TB mg_T0 "MailGuard$Checker" 53 (1, 6, 4) := by
  simp only [ax_okE]
  exact ⟨by decide, mg_t1 150 (by decide +kernel) rfl⟩
theorem pe_Checker_56 : ax_okE mg_TB mg_T0 "MailGuard$Checker" 56 (7, 18, 0) := by
  simp only [ax_okE]
  exact ⟨mg_t2 221 (by decide +kernel) rfl, mg_t2 10 (by decide +kernel) rfl, mg_t2 11 (by decide +kernel) rfl, mg_t1 2 (by decide +kernel) rfl, by decide +kernel, ⟨rfl, mg_t2 12 (by decide +kernel) rfl, by decide, by decide, by decide⟩⟩
theorem pe_Checker_59 : ax_okE mg_TB mg_T0 "MailGuard$Checker" 59 (7, 48, 1) := by
  simp only [ax_okE]
  exact ⟨mg_t2 222 (by decide +kernel) rfl, mg_t2 223 (by decide +kernel) rfl, mg_t2 224 (by decide +kernel) rfl, mg_t1 2 (by decide +kernel) rfl, by decide +kernel, ⟨rfl, mg_t2 225 (by decide +kernel) rfl, by decide, by decide, by decide⟩⟩
theorem pe_Checker_62 : ax_okE mg_TB mg_T0 "MailGuard$Checker" 62 (7, 16, 1) := by
  simp only [ax_okE]
  exact ⟨mg_t2 227 (by decide +kernel) rfl, mg_t2 2 (by decide +kernel) rfl, mg_t2 3 (by decide +kernel) rfl, mg_t1 2 (by decide +kernel) rfl, by decide +kernel, ⟨rfl, mg_t2 4 (by decide +kernel) rfl, by decide, by decide, by decide⟩⟩
theorem pe_Checker_66 : ax_okE mg_TB mg_T0 "MailGuard$Checker" 66 (7, 49, 0) := by
  simp only [ax_okE]
  exact ⟨mg_t2 228 (by decide +kernel) rfl, mg_t2 229 (by decide +kernel) rfl, mg_t2 230 (by decide +kernel) rfl, mg_t1 5 (by decide +kernel) rfl, by decide +kernel, ⟨rfl, mg_t2 231 (by decide +kernel) rfl, by decide, by decide, by decide⟩⟩
theorem pe_Checker_70 : ax_okE mg_TB mg_T0 "MailGuard$Checker" 70 (7, 15, 0) := by
  simp only [ax_okE]
  exact ⟨mg_t2 232 (by decide +kernel) rfl, mg_t1 238 (by decide +kernel) rfl, mg_t1 239 (by decide +kernel) rfl, mg_t1 2 (by decide +kernel) rfl, by decide +kernel, ⟨rfl, mg_t2 0 (by decide +kernel) rfl, by decide, by decide, by decide⟩⟩
theorem pe_Checker_74 : ax_okE mg_TB mg_T0 "MailGuard$Checker" 74 (7, 44, 3) := by
  simp only [ax_okE]
  exact ⟨mg_t2 233 (by decide +kernel) rfl, mg_t2 201 (by decide +kernel) rfl, mg_t2 202 (by decide +kernel) rfl, mg_t1 2 (by decide +kernel) rfl, by decide +kernel, ⟨rfl, mg_t2 203 (by decide +kernel) rfl, by decide, by decide, by decide⟩⟩
theorem pe_Checker_78 : ax_okE mg_TB mg_T0 "MailGuard$Checker" 78 (7, 50, 0) := by
  simp only [ax_okE]
  exact ⟨mg_t2 234 (by decide +kernel) rfl, mg_t2 235 (by decide +kernel) rfl, mg_t2 236 (by decide +kernel) rfl, mg_t1 3 (by decide +kernel) rfl, by decide +kernel, ⟨rfl, mg_t2 237 (by decide +kernel) rfl, by decide, by decide, by decide⟩⟩
theorem pe_Checker_83 : ax_okE mg_TB mg_T0 "MailGuard$Checker" 83 (7, 52, 1) := by
  simp only [ax_okE]
  exact ⟨mg_t3 3 (by decide +kernel) rfl, mg_t3 4 (by decide +kernel) rfl, mg_t3 5 (by decide +kernel) rfl, mg_t1 2 (by decide +kernel) rfl, by decide +kernel, ⟨rfl, mg_t3 6 (by decide +kernel) rfl, by decide, by decide, by decide⟩⟩
theorem pe_Checker_87 : ax_okE mg_TB mg_T0 "MailGuard$Checker" 87 (7, 53, 2) := by
  simp only [ax_okE]
  exact ⟨mg_t3 7 (by decide +kernel) rfl, mg_t3 8 (by decide +kernel) rfl, mg_t3 9 (by decide +kernel) rfl, mg_t1 3 (by decide +kernel) rfl, by decide +kernel, ⟨rfl, mg_t3 10 (by decide +kernel) rfl, by decide, by decide, by decide⟩⟩
theorem pe_Checker_91 : ax_okE mg_TB mg_T0 "MailGuard$Checker" 91 (7, 33, 0) := by
  simp only [ax_okE]
  exact ⟨mg_t3 17 (by decide +kernel) rfl, mg_t2 70 (by decide +kernel) rfl, mg_t2 71 (by decide +kernel) rfl, mg_t1 3 (by decide +kernel) rfl, by decide +kernel, ⟨rfl, mg_t2 72 (by decide +kernel) rfl, by decide, by decide, by decide⟩⟩
theorem pe_Checker_94 : ax_okE mg_TB mg_T0 "MailGuard$Checker" 94 (7, 34, 1) := by
  simp only [ax_okE]
  exact ⟨mg_t3 18 (by decide +kernel) rfl, mg_t2 74 (by decide +kernel) rfl, mg_t2 75 (by decide +kernel) rfl, mg_t1 3 (by decide +kernel) rfl, by decide +kernel, ⟨rfl, mg_t2 76 (by decide +kernel) rfl, by decide, by decide, by decide⟩⟩
theorem pe_Checker_98 : ax_okE mg_TB mg_T0 "MailGuard$Checker" 98 (7, 55, 2) := by
  simp only [ax_okE]
  exact ⟨mg_t3 19 (by decide +kernel) rfl, mg_t3 20 (by decide +kernel) rfl, mg_t3 21 (by decide +kernel) rfl, mg_t1 4 (by decide +kernel) rfl, by decide +kernel, ⟨rfl, mg_t3 22 (by decide +kernel) rfl, by decide, by decide, by decide⟩⟩
theorem pe_Checker_104 : ax_okE mg_TB mg_T0 "MailGuard$Checker" 104 (2, 2, 2) := by
  simp only [ax_okE]
  exact ⟨by decide, mg_t1 67 (by decide +kernel) rfl⟩
theorem pe_Checker_107 : ax_okE mg_TB mg_T0 "MailGuard$Checker" 107 (6, 56, 1) := by
  simp only [ax_okE]
  exact ⟨mg_t3 24 (by decide +kernel) rfl, mg_t3 25 (by decide +kernel) rfl, mg_t1 5 (by decide +kernel) rfl, by decide +kernel, ⟨rfl, mg_t3 26 (by decide +kernel) rfl, by decide, by decide, by decide⟩⟩
theorem pe_Checker_111 : ax_okE mg_TB mg_T0 "MailGuard$Checker" 111 (2, 5, 1) := by
  simp only [ax_okE]
  exact ⟨by decide, mg_t1 140 (by decide +kernel) rfl⟩
theorem pe_Checker_115 : ax_okE mg_TB mg_T0 "MailGuard$Checker" 115 (6, 58, 2) := by
  simp only [ax_okE]
  exact ⟨mg_t3 85 (by decide +kernel) rfl, mg_t3 86 (by decide +kernel) rfl, mg_t1 5 (by decide +kernel) rfl, by decide +kernel, ⟨rfl, mg_t3 87 (by decide +kernel) rfl, by decide, by decide, by decide⟩⟩
theorem pe_Checker_119 : ax_okE mg_TB mg_T0 "MailGuard$Checker" 119 (7, 70, 2) := by
  simp only [ax_okE]
  exact ⟨mg_t3 141 (by decide +kernel) rfl, mg_t3 143 (by decide +kernel) rfl, mg_p0 7 (by decide +kernel) rfl, mg_t1 5 (by decide +kernel) rfl, by decide +kernel, ⟨rfl, mg_t3 144 (by decide +kernel) rfl, by decide, by decide, by decide⟩⟩
theorem pe_Checker_135 : ax_okE mg_TB mg_T0 "MailGuard$Checker" 135 (7, 57, 3) := by
  simp only [ax_okE]
  exact ⟨mg_t3 41 (by decide +kernel) rfl, mg_t3 42 (by decide +kernel) rfl, mg_t3 43 (by decide +kernel) rfl, mg_t1 2 (by decide +kernel) rfl, by decide +kernel, ⟨rfl, mg_t3 44 (by decide +kernel) rfl, by decide, by decide, by decide⟩⟩
theorem pe_Checker_139 : ax_okE mg_TB mg_T0 "MailGuard$Checker" 139 (7, 31, 1) := by
  simp only [ax_okE]
  exact ⟨mg_t3 84 (by decide +kernel) rfl, mg_t2 62 (by decide +kernel) rfl, mg_t2 63 (by decide +kernel) rfl, mg_t1 2 (by decide +kernel) rfl, by decide +kernel, ⟨rfl, mg_t2 64 (by decide +kernel) rfl, by decide, by decide, by decide⟩⟩
theorem pe_Checker_142 : ax_okE mg_TB mg_T0 "MailGuard$Checker" 142 (7, 59, 3) := by
  simp only [ax_okE]
  exact ⟨mg_t3 88 (by decide +kernel) rfl, mg_t3 89 (by decide +kernel) rfl, mg_t3 90 (by decide +kernel) rfl, mg_t1 7 (by decide +kernel) rfl, by decide +kernel, ⟨rfl, mg_t3 91 (by decide +kernel) rfl, by decide, by decide, by decide⟩⟩
theorem pe_Checker_148 : ax_okE mg_TB mg_T0 "MailGuard$Checker" 148 (2, 4, 0) := by
  simp only [ax_okE]
  exact ⟨by decide, mg_t1 113 (by decide +kernel) rfl⟩
theorem pe_Checker_151 : ax_okE mg_TB mg_T0 "MailGuard$Checker" 151 (7, 71, 0) := by
  simp only [ax_okE]
  exact ⟨mg_t3 145 (by decide +kernel) rfl, mg_t3 146 (by decide +kernel) rfl, mg_t3 147 (by decide +kernel) rfl, mg_t1 7 (by decide +kernel) rfl, by decide +kernel, ⟨rfl, mg_t3 148 (by decide +kernel) rfl, by decide, by decide, by decide⟩⟩
theorem pe_Checker_155 : ax_okE mg_TB mg_T0 "MailGuard$Checker" 155 (7, 72, 3) := by
  simp only [ax_okE]
  exact ⟨mg_t3 149 (by decide +kernel) rfl, mg_t3 151 (by decide +kernel) rfl, mg_p0 8 (by decide +kernel) rfl, mg_t1 5 (by decide +kernel) rfl, by decide +kernel, ⟨rfl, mg_t3 152 (by decide +kernel) rfl, by decide, by decide, by decide⟩⟩
theorem pe_Checker_159 : ax_okE mg_TB mg_T0 "MailGuard$Checker" 159 (2, 4, 1) := by
  simp only [ax_okE]
  exact ⟨by decide, mg_t1 115 (by decide +kernel) rfl⟩
theorem pe_Checker_160 : ax_okE mg_TB mg_T0 "MailGuard$Checker" 160 (2, 4, 2) := by
  simp only [ax_okE]
  exact ⟨by decide, mg_t1 117 (by decide +kernel) rfl⟩
theorem pe_Checker_163 : ax_okE mg_TB mg_T0 "MailGuard$Checker" 163 (2, 4, 3) := by
  simp only [ax_okE]
  exact ⟨by decide, mg_t1 119 (by decide +kernel) rfl⟩
theorem pe_Checker_166 : ax_okE mg_TB mg_T0 "MailGuard$Checker" 166 (7, 84, 4) := by
  simp only [ax_okE]
  exact ⟨mg_t3 203 (by decide +kernel) rfl, mg_t3 205 (by decide +kernel) rfl, mg_p1 0 (by decide +kernel) rfl, mg_t1 5 (by decide +kernel) rfl, by decide +kernel, ⟨rfl, mg_t3 206 (by decide +kernel) rfl, by decide, by decide, by decide⟩⟩
theorem pe_Checker_170 : ax_okE mg_TB mg_T0 "MailGuard$Checker" 170 (7, 74, 0) := by
  simp only [ax_okE]
  exact ⟨mg_t3 156 (by decide +kernel) rfl, mg_t3 158 (by decide +kernel) rfl, mg_p0 9 (by decide +kernel) rfl, mg_t1 5 (by decide +kernel) rfl, by decide +kernel, ⟨rfl, mg_t3 159 (by decide +kernel) rfl, by decide, by decide, by decide⟩⟩
theorem pe_Checker_173 : ax_okE mg_TB mg_T0 "MailGuard$Checker" 173 (7, 75, 4) := by
  simp only [ax_okE]
  exact ⟨mg_t3 161 (by decide +kernel) rfl, mg_t3 163 (by decide +kernel) rfl, mg_p0 10 (by decide +kernel) rfl, mg_t1 5 (by decide +kernel) rfl, by decide +kernel, ⟨rfl, mg_t3 164 (by decide +kernel) rfl, by decide, by decide, by decide⟩⟩
theorem pe_Checker_177 : ax_okE mg_TB mg_T0 "MailGuard$Checker" 177 (7, 79, 1) := by
  simp only [ax_okE]
  exact ⟨mg_t3 182 (by decide +kernel) rfl, mg_t3 184 (by decide +kernel) rfl, mg_p0 12 (by decide +kernel) rfl, mg_t1 5 (by decide +kernel) rfl, by decide +kernel, ⟨rfl, mg_t3 185 (by decide +kernel) rfl, by decide, by decide, by decide⟩⟩
theorem pe_Checker_180 : ax_okE mg_TB mg_T0 "MailGuard$Checker" 180 (2, 4, 5) := by
  simp only [ax_okE]
  exact ⟨by decide, mg_t1 123 (by decide +kernel) rfl⟩
theorem pe_Checker_181 : ax_okE mg_TB mg_T0 "MailGuard$Checker" 181 (2, 4, 4) := by
  simp only [ax_okE]
  exact ⟨by decide, mg_t1 121 (by decide +kernel) rfl⟩
theorem pe_Checker_184 : ax_okE mg_TB mg_T0 "MailGuard$Checker" 184 (6, 73, 3) := by
  simp only [ax_okE]
  exact ⟨mg_t3 153 (by decide +kernel) rfl, mg_t3 154 (by decide +kernel) rfl, mg_t1 5 (by decide +kernel) rfl, by decide +kernel, ⟨rfl, mg_t3 155 (by decide +kernel) rfl, by decide, by decide, by decide⟩⟩
theorem pe_Checker_188 : ax_okE mg_TB mg_T0 "MailGuard$Checker" 188 (7, 63, 0) := by
  simp only [ax_okE]
  exact ⟨mg_t3 160 (by decide +kernel) rfl, mg_t3 107 (by decide +kernel) rfl, mg_t3 108 (by decide +kernel) rfl, mg_t1 7 (by decide +kernel) rfl, by decide +kernel, ⟨rfl, mg_t3 109 (by decide +kernel) rfl, by decide, by decide, by decide⟩⟩
theorem pe_Checker_191 : ax_okE mg_TB mg_T0 "MailGuard$Checker" 191 (6, 80, 1) := by
  simp only [ax_okE]
  exact ⟨mg_t3 188 (by decide +kernel) rfl, mg_t3 189 (by decide +kernel) rfl, mg_t1 5 (by decide +kernel) rfl, by decide +kernel, ⟨rfl, mg_t3 190 (by decide +kernel) rfl, by decide, by decide, by decide⟩⟩
theorem pe_Checker_194 : ax_okE mg_TB mg_T0 "MailGuard$Checker" 194 (7, 46, 0) := by
  simp only [ax_okE]
  exact ⟨mg_t3 186 (by decide +kernel) rfl, mg_t2 213 (by decide +kernel) rfl, mg_t2 214 (by decide +kernel) rfl, mg_t1 2 (by decide +kernel) rfl, by decide +kernel, ⟨rfl, mg_t2 215 (by decide +kernel) rfl, by decide, by decide, by decide⟩⟩
theorem pe_Checker_197 : ax_okE mg_TB mg_T0 "MailGuard$Checker" 197 (7, 81, 2) := by
  simp only [ax_okE]
  exact ⟨mg_t3 191 (by decide +kernel) rfl, mg_t3 193 (by decide +kernel) rfl, mg_p0 13 (by decide +kernel) rfl, mg_t1 5 (by decide +kernel) rfl, by decide +kernel, ⟨rfl, mg_t3 194 (by decide +kernel) rfl, by decide, by decide, by decide⟩⟩
theorem pe_Checker_200 : ax_okE mg_TB mg_T0 "MailGuard$Checker" 200 (7, 83, 2) := by
  simp only [ax_okE]
  exact ⟨mg_t3 199 (by decide +kernel) rfl, mg_t3 201 (by decide +kernel) rfl, mg_p0 15 (by decide +kernel) rfl, mg_t1 5 (by decide +kernel) rfl, by decide +kernel, ⟨rfl, mg_t3 202 (by decide +kernel) rfl, by decide, by decide, by decide⟩⟩
theorem pe_Checker_203 : ax_okE mg_TB mg_T0 "MailGuard$Checker" 203 (7, 82, 1) := by
  simp only [ax_okE]
  exact ⟨mg_t3 195 (by decide +kernel) rfl, mg_t3 197 (by decide +kernel) rfl, mg_p0 14 (by decide +kernel) rfl, mg_t1 5 (by decide +kernel) rfl, by decide +kernel, ⟨rfl, mg_t3 198 (by decide +kernel) rfl, by decide, by decide, by decide⟩⟩
theorem pe_Checker_206 : ax_okE mg_TB mg_T0 "MailGuard$Checker" 206 (7, 51, 1) := by
  simp only [ax_okE]
  exact ⟨mg_t3 187 (by decide +kernel) rfl, mg_t3 1 (by decide +kernel) rfl, mg_p0 2 (by decide +kernel) rfl, mg_t1 5 (by decide +kernel) rfl, by decide +kernel, ⟨rfl, mg_t3 2 (by decide +kernel) rfl, by decide, by decide, by decide⟩⟩
theorem pe_Checker_209 : ax_okE mg_TB mg_T0 "MailGuard$Checker" 209 (2, 2, 3) := by
  simp only [ax_okE]
  exact ⟨by decide, mg_t1 69 (by decide +kernel) rfl⟩
theorem pe_Checker_210 : ax_okE mg_TB mg_T0 "MailGuard$Checker" 210 (6, 65, 3) := by
  simp only [ax_okE]
  exact ⟨mg_t3 165 (by decide +kernel) rfl, mg_t3 114 (by decide +kernel) rfl, mg_t1 7 (by decide +kernel) rfl, by decide +kernel, ⟨rfl, mg_t3 115 (by decide +kernel) rfl, by decide, by decide, by decide⟩⟩
theorem pe_Checker_214 : ax_okE mg_TB mg_T0 "MailGuard$Checker" 214 (7, 76, 4) := by
  simp only [ax_okE]
  exact ⟨mg_t3 166 (by decide +kernel) rfl, mg_t3 168 (by decide +kernel) rfl, mg_p0 11 (by decide +kernel) rfl, mg_t1 5 (by decide +kernel) rfl, by decide +kernel, ⟨rfl, mg_t3 169 (by decide +kernel) rfl, by decide, by decide, by decide⟩⟩
theorem pe_Checker_220 : ax_okE mg_TB mg_T0 "MailGuard$Checker" 220 (7, 77, 2) := by
  simp only [ax_okE]
  exact ⟨mg_t3 170 (by decide +kernel) rfl, mg_t3 171 (by decide +kernel) rfl, mg_t3 172 (by decide +kernel) rfl, mg_t1 2 (by decide +kernel) rfl, by decide +kernel, ⟨rfl, mg_t3 173 (by decide +kernel) rfl, by decide, by decide, by decide⟩⟩
theorem pe_Checker (idx : Nat) : ax_okE mg_TB mg_T0 "MailGuard$Checker" idx (pl_Checker idx) := by
  unfold pl_Checker
  split
  · exact pe_Checker_3
  · exact pe_Checker_11
  · exact pe_Checker_13
  · exact pe_Checker_17
  · exact pe_Checker_19
  · exact pe_Checker_22
  · exact pe_Checker_26
  · exact pe_Checker_29
  · exact pe_Checker_33
  · exact pe_Checker_37
  · exact pe_Checker_38
  · exact pe_Checker_41
  · exact pe_Checker_44
  · exact pe_Checker_47
  · exact pe_Checker_50
  · exact pe_Checker_53
  · exact pe_Checker_56
  · exact pe_Checker_59
  · exact pe_Checker_62
  · exact pe_Checker_66
  · exact pe_Checker_70
  · exact pe_Checker_74
  · exact pe_Checker_78
  · exact pe_Checker_83
  · exact pe_Checker_87
  · exact pe_Checker_91
  · exact pe_Checker_94
  · exact pe_Checker_98
  · exact pe_Checker_104
  · exact pe_Checker_107
  · exact pe_Checker_111
  · exact pe_Checker_115
  · exact pe_Checker_119
  · exact pe_Checker_135
  · exact pe_Checker_139
  · exact pe_Checker_142
  · exact pe_Checker_148
  · exact pe_Checker_151
  · exact pe_Checker_155
  · exact pe_Checker_159
  · exact pe_Checker_160
  · exact pe_Checker_163
  · exact pe_Checker_166
  · exact pe_Checker_170
  · exact pe_Checker_173
  · exact pe_Checker_177
  · exact pe_Checker_180
  · exact pe_Checker_181
  · exact pe_Checker_184
  · exact pe_Checker_188
  · exact pe_Checker_191
  · exact pe_Checker_194
  · exact pe_Checker_197
  · exact pe_Checker_200
  · exact pe_Checker_203
  · exact pe_Checker_206
  · exact pe_Checker_209
  · exact pe_Checker_210
  · exact pe_Checker_214
  · exact pe_Checker_220
  · exact trivial
theorem pe_Policy_3 : ax_okE mg_TB mg_T0 "MailGuard$Policy" 3 (9, 0, 0) := by
  simp only [ax_okE]
  exact ⟨mg_t1 188 (by decide +kernel) rfl, mg_t1 27 (by decide +kernel) rfl, mg_t1 28 (by decide +kernel) rfl⟩
theorem pe_Policy_9 : ax_okE mg_TB mg_T0 "MailGuard$Policy" 9 (1, 7, 0) := by
  simp only [ax_okE]
  exact ⟨by decide, mg_t1 189 (by decide +kernel) rfl⟩
theorem pe_Policy_15 : ax_okE mg_TB mg_T0 "MailGuard$Policy" 15 (1, 7, 1) := by
  simp only [ax_okE]
  exact ⟨by decide, mg_t1 190 (by decide +kernel) rfl⟩
theorem pe_Policy_18 : ax_okE mg_TB mg_T0 "MailGuard$Policy" 18 (1, 7, 2) := by
  simp only [ax_okE]
  exact ⟨by decide, mg_t1 191 (by decide +kernel) rfl⟩
theorem pe_Policy_21 : ax_okE mg_TB mg_T0 "MailGuard$Policy" 21 (1, 7, 3) := by
  simp only [ax_okE]
  exact ⟨by decide, mg_t1 192 (by decide +kernel) rfl⟩
theorem pe_Policy_32 : ax_okE mg_TB mg_T0 "MailGuard$Policy" 32 (7, 15, 0) := by
  simp only [ax_okE]
  exact ⟨mg_t4 19 (by decide +kernel) rfl, mg_t1 238 (by decide +kernel) rfl, mg_t1 239 (by decide +kernel) rfl, mg_t1 2 (by decide +kernel) rfl, by decide +kernel, ⟨rfl, mg_t2 0 (by decide +kernel) rfl, by decide, by decide, by decide⟩⟩
theorem pe_Policy_43 : ax_okE mg_TB mg_T0 "MailGuard$Policy" 43 (7, 57, 3) := by
  simp only [ax_okE]
  exact ⟨mg_t4 21 (by decide +kernel) rfl, mg_t3 42 (by decide +kernel) rfl, mg_t3 43 (by decide +kernel) rfl, mg_t1 2 (by decide +kernel) rfl, by decide +kernel, ⟨rfl, mg_t3 44 (by decide +kernel) rfl, by decide, by decide, by decide⟩⟩
theorem pe_Policy_47 : ax_okE mg_TB mg_T0 "MailGuard$Policy" 47 (7, 31, 1) := by
  simp only [ax_okE]
  exact ⟨mg_t4 22 (by decide +kernel) rfl, mg_t2 62 (by decide +kernel) rfl, mg_t2 63 (by decide +kernel) rfl, mg_t1 2 (by decide +kernel) rfl, by decide +kernel, ⟨rfl, mg_t2 64 (by decide +kernel) rfl, by decide, by decide, by decide⟩⟩
theorem pe_Policy_51 : ax_okE mg_TB mg_T0 "MailGuard$Policy" 51 (7, 94, 2) := by
  simp only [ax_okE]
  exact ⟨mg_t4 23 (by decide +kernel) rfl, mg_t4 24 (by decide +kernel) rfl, mg_t4 25 (by decide +kernel) rfl, mg_t1 2 (by decide +kernel) rfl, by decide +kernel, ⟨rfl, mg_t4 26 (by decide +kernel) rfl, by decide, by decide, by decide⟩⟩
theorem pe_Policy_54 : ax_okE mg_TB mg_T0 "MailGuard$Policy" 54 (7, 95, 2) := by
  simp only [ax_okE]
  exact ⟨mg_t4 27 (by decide +kernel) rfl, mg_t4 28 (by decide +kernel) rfl, mg_t4 29 (by decide +kernel) rfl, mg_t1 2 (by decide +kernel) rfl, by decide +kernel, ⟨rfl, mg_t4 30 (by decide +kernel) rfl, by decide, by decide, by decide⟩⟩
theorem pe_Policy_57 : ax_okE mg_TB mg_T0 "MailGuard$Policy" 57 (7, 96, 3) := by
  simp only [ax_okE]
  exact ⟨mg_t4 31 (by decide +kernel) rfl, mg_t4 33 (by decide +kernel) rfl, mg_p1 2 (by decide +kernel) rfl, mg_t1 9 (by decide +kernel) rfl, by decide +kernel, ⟨rfl, mg_t4 34 (by decide +kernel) rfl, by decide, by decide, by decide⟩⟩
theorem pe_Policy_61 : ax_okE mg_TB mg_T0 "MailGuard$Policy" 61 (6, 61, 1) := by
  simp only [ax_okE]
  exact ⟨mg_t4 35 (by decide +kernel) rfl, mg_t3 97 (by decide +kernel) rfl, mg_t1 2 (by decide +kernel) rfl, by decide +kernel, ⟨rfl, mg_t3 98 (by decide +kernel) rfl, by decide, by decide, by decide⟩⟩
theorem pe_Policy_65 : ax_okE mg_TB mg_T0 "MailGuard$Policy" 65 (7, 37, 3) := by
  simp only [ax_okE]
  exact ⟨mg_t4 36 (by decide +kernel) rfl, mg_t2 91 (by decide +kernel) rfl, mg_t2 92 (by decide +kernel) rfl, mg_t1 2 (by decide +kernel) rfl, by decide +kernel, ⟨rfl, mg_t2 93 (by decide +kernel) rfl, by decide, by decide, by decide⟩⟩
theorem pe_Policy_71 : ax_okE mg_TB mg_T0 "MailGuard$Policy" 71 (6, 97, 3) := by
  simp only [ax_okE]
  exact ⟨mg_t4 38 (by decide +kernel) rfl, mg_t4 39 (by decide +kernel) rfl, mg_t1 9 (by decide +kernel) rfl, by decide +kernel, ⟨rfl, mg_t4 40 (by decide +kernel) rfl, by decide, by decide, by decide⟩⟩
theorem pe_Policy_79 : ax_okE mg_TB mg_T0 "MailGuard$Policy" 79 (6, 98, 3) := by
  simp only [ax_okE]
  exact ⟨mg_t4 46 (by decide +kernel) rfl, mg_t4 47 (by decide +kernel) rfl, mg_t1 9 (by decide +kernel) rfl, by decide +kernel, ⟨rfl, mg_t4 48 (by decide +kernel) rfl, by decide, by decide, by decide⟩⟩
theorem pe_Policy_84 : ax_okE mg_TB mg_T0 "MailGuard$Policy" 84 (7, 41, 3) := by
  simp only [ax_okE]
  exact ⟨mg_t4 52 (by decide +kernel) rfl, mg_t2 107 (by decide +kernel) rfl, mg_t2 108 (by decide +kernel) rfl, mg_t1 2 (by decide +kernel) rfl, by decide +kernel, ⟨rfl, mg_t2 109 (by decide +kernel) rfl, by decide, by decide, by decide⟩⟩
theorem pe_Policy (idx : Nat) : ax_okE mg_TB mg_T0 "MailGuard$Policy" idx (pl_Policy idx) := by
  unfold pl_Policy
  split
  · exact pe_Policy_3
  · exact pe_Policy_9
  · exact pe_Policy_15
  · exact pe_Policy_18
  · exact pe_Policy_21
  · exact pe_Policy_32
  · exact pe_Policy_43
  · exact pe_Policy_47
  · exact pe_Policy_51
  · exact pe_Policy_54
  · exact pe_Policy_57
  · exact pe_Policy_61
  · exact pe_Policy_65
  · exact pe_Policy_71
  · exact pe_Policy_79
  · exact pe_Policy_84
  · exact trivial
theorem pe_Judge_3 : ax_okE mg_TB mg_T0 "MailGuard$Judge" 3 (9, 0, 0) := by
  simp only [ax_okE]
  exact ⟨mg_t1 182 (by decide +kernel) rfl, mg_t1 27 (by decide +kernel) rfl, mg_t1 28 (by decide +kernel) rfl⟩
theorem pe_Judge_9 : ax_okE mg_TB mg_T0 "MailGuard$Judge" 9 (4, 7, 4) := by
  simp only [ax_okE]
  exact ⟨rfl, mg_t1 183 (by decide +kernel) rfl, mg_t1 184 (by decide +kernel) rfl, mg_t1 9 (by decide +kernel) rfl⟩
theorem pe_Judge_11 : ax_okE mg_TB mg_T0 "MailGuard$Judge" 11 (18, 12, 0) := by
  simp only [ax_okE]
  exact ⟨mg_t1 185 (by decide +kernel) rfl, mg_t1 186 (by decide +kernel) rfl, rfl, rfl, mg_t1 9 (by decide +kernel) rfl, by decide +kernel, ⟨rfl, mg_t1 187 (by decide +kernel) rfl, by decide, by decide, by decide⟩⟩
theorem pe_Judge_12 : ax_okE mg_TB mg_T0 "MailGuard$Judge" 12 (1, 8, 2) := by
  simp only [ax_okE]
  exact ⟨by decide, mg_t1 206 (by decide +kernel) rfl⟩
theorem pe_Judge_18 : ax_okE mg_TB mg_T0 "MailGuard$Judge" 18 (4, 1, 2) := by
  simp only [ax_okE]
  exact ⟨rfl, mg_t1 202 (by decide +kernel) rfl, mg_t1 30 (by decide +kernel) rfl, mg_t1 2 (by decide +kernel) rfl⟩
theorem pe_Judge_20 : ax_okE mg_TB mg_T0 "MailGuard$Judge" 20 (8, 5, 1) := by
  simp only [ax_okE]
  exact ⟨mg_t1 203 (by decide +kernel) rfl, mg_t1 32 (by decide +kernel) rfl, rfl, rfl, mg_t1 2 (by decide +kernel) rfl, by decide +kernel, ⟨rfl, mg_t1 33 (by decide +kernel) rfl, by decide, by decide, by decide⟩⟩
theorem pe_Judge_23 : ax_okE mg_TB mg_T0 "MailGuard$Judge" 23 (1, 8, 3) := by
  simp only [ax_okE]
  exact ⟨by decide, mg_t1 207 (by decide +kernel) rfl⟩
theorem pe_Judge_27 : ax_okE mg_TB mg_T0 "MailGuard$Judge" 27 (1, 8, 0) := by
  simp only [ax_okE]
  exact ⟨by decide, mg_t1 204 (by decide +kernel) rfl⟩
theorem pe_Judge_31 : ax_okE mg_TB mg_T0 "MailGuard$Judge" 31 (1, 8, 1) := by
  simp only [ax_okE]
  exact ⟨by decide, mg_t1 205 (by decide +kernel) rfl⟩
theorem pe_Judge_35 : ax_okE mg_TB mg_T0 "MailGuard$Judge" 35 (7, 88, 1) := by
  simp only [ax_okE]
  exact ⟨mg_t3 223 (by decide +kernel) rfl, mg_t3 224 (by decide +kernel) rfl, mg_t3 225 (by decide +kernel) rfl, mg_t1 3 (by decide +kernel) rfl, by decide +kernel, ⟨rfl, mg_t3 226 (by decide +kernel) rfl, by decide, by decide, by decide⟩⟩
theorem pe_Judge_41 : ax_okE mg_TB mg_T0 "MailGuard$Judge" 41 (7, 91, 2) := by
  simp only [ax_okE]
  exact ⟨mg_t3 237 (by decide +kernel) rfl, mg_t3 239 (by decide +kernel) rfl, mg_p1 1 (by decide +kernel) rfl, mg_t1 8 (by decide +kernel) rfl, by decide +kernel, ⟨rfl, mg_t4 0 (by decide +kernel) rfl, by decide, by decide, by decide⟩⟩
theorem pe_Judge_45 : ax_okE mg_TB mg_T0 "MailGuard$Judge" 45 (7, 99, 2) := by
  simp only [ax_okE]
  exact ⟨mg_t4 53 (by decide +kernel) rfl, mg_t4 55 (by decide +kernel) rfl, mg_p1 3 (by decide +kernel) rfl, mg_t1 8 (by decide +kernel) rfl, by decide +kernel, ⟨rfl, mg_t4 56 (by decide +kernel) rfl, by decide, by decide, by decide⟩⟩
theorem pe_Judge_49 : ax_okE mg_TB mg_T0 "MailGuard$Judge" 49 (7, 101, 0) := by
  simp only [ax_okE]
  exact ⟨mg_t4 64 (by decide +kernel) rfl, mg_t4 65 (by decide +kernel) rfl, mg_t4 66 (by decide +kernel) rfl, mg_t1 9 (by decide +kernel) rfl, by decide +kernel, ⟨rfl, mg_t4 67 (by decide +kernel) rfl, by decide, by decide, by decide⟩⟩
theorem pe_Judge_53 : ax_okE mg_TB mg_T0 "MailGuard$Judge" 53 (7, 102, 0) := by
  simp only [ax_okE]
  exact ⟨mg_t4 68 (by decide +kernel) rfl, mg_t4 69 (by decide +kernel) rfl, mg_t4 70 (by decide +kernel) rfl, mg_t1 9 (by decide +kernel) rfl, by decide +kernel, ⟨rfl, mg_t4 71 (by decide +kernel) rfl, by decide, by decide, by decide⟩⟩
theorem pe_Judge_56 : ax_okE mg_TB mg_T0 "MailGuard$Judge" 56 (7, 103, 0) := by
  simp only [ax_okE]
  exact ⟨mg_t4 72 (by decide +kernel) rfl, mg_t4 73 (by decide +kernel) rfl, mg_t4 74 (by decide +kernel) rfl, mg_t1 9 (by decide +kernel) rfl, by decide +kernel, ⟨rfl, mg_t4 75 (by decide +kernel) rfl, by decide, by decide, by decide⟩⟩
theorem pe_Judge_59 : ax_okE mg_TB mg_T0 "MailGuard$Judge" 59 (7, 18, 0) := by
  simp only [ax_okE]
  exact ⟨mg_t4 1 (by decide +kernel) rfl, mg_t2 10 (by decide +kernel) rfl, mg_t2 11 (by decide +kernel) rfl, mg_t1 2 (by decide +kernel) rfl, by decide +kernel, ⟨rfl, mg_t2 12 (by decide +kernel) rfl, by decide, by decide, by decide⟩⟩
theorem pe_Judge_64 : ax_okE mg_TB mg_T0 "MailGuard$Judge" 64 (7, 92, 1) := by
  simp only [ax_okE]
  exact ⟨mg_t4 3 (by decide +kernel) rfl, mg_t4 4 (by decide +kernel) rfl, mg_t4 5 (by decide +kernel) rfl, mg_t1 2 (by decide +kernel) rfl, by decide +kernel, ⟨rfl, mg_t4 6 (by decide +kernel) rfl, by decide, by decide, by decide⟩⟩
theorem pe_Judge_68 : ax_okE mg_TB mg_T0 "MailGuard$Judge" 68 (7, 15, 0) := by
  simp only [ax_okE]
  exact ⟨mg_t4 7 (by decide +kernel) rfl, mg_t1 238 (by decide +kernel) rfl, mg_t1 239 (by decide +kernel) rfl, mg_t1 2 (by decide +kernel) rfl, by decide +kernel, ⟨rfl, mg_t2 0 (by decide +kernel) rfl, by decide, by decide, by decide⟩⟩
theorem pe_Judge_71 : ax_okE mg_TB mg_T0 "MailGuard$Judge" 71 (7, 44, 3) := by
  simp only [ax_okE]
  exact ⟨mg_t4 8 (by decide +kernel) rfl, mg_t2 201 (by decide +kernel) rfl, mg_t2 202 (by decide +kernel) rfl, mg_t1 2 (by decide +kernel) rfl, by decide +kernel, ⟨rfl, mg_t2 203 (by decide +kernel) rfl, by decide, by decide, by decide⟩⟩
theorem pe_Judge_75 : ax_okE mg_TB mg_T0 "MailGuard$Judge" 75 (7, 53, 2) := by
  simp only [ax_okE]
  exact ⟨mg_t4 9 (by decide +kernel) rfl, mg_t3 8 (by decide +kernel) rfl, mg_t3 9 (by decide +kernel) rfl, mg_t1 3 (by decide +kernel) rfl, by decide +kernel, ⟨rfl, mg_t3 10 (by decide +kernel) rfl, by decide, by decide, by decide⟩⟩
theorem pe_Judge_78 : ax_okE mg_TB mg_T0 "MailGuard$Judge" 78 (7, 33, 0) := by
  simp only [ax_okE]
  exact ⟨mg_t4 10 (by decide +kernel) rfl, mg_t2 70 (by decide +kernel) rfl, mg_t2 71 (by decide +kernel) rfl, mg_t1 3 (by decide +kernel) rfl, by decide +kernel, ⟨rfl, mg_t2 72 (by decide +kernel) rfl, by decide, by decide, by decide⟩⟩
theorem pe_Judge_81 : ax_okE mg_TB mg_T0 "MailGuard$Judge" 81 (7, 34, 1) := by
  simp only [ax_okE]
  exact ⟨mg_t4 11 (by decide +kernel) rfl, mg_t2 74 (by decide +kernel) rfl, mg_t2 75 (by decide +kernel) rfl, mg_t1 3 (by decide +kernel) rfl, by decide +kernel, ⟨rfl, mg_t2 76 (by decide +kernel) rfl, by decide, by decide, by decide⟩⟩
theorem pe_Judge_85 : ax_okE mg_TB mg_T0 "MailGuard$Judge" 85 (7, 55, 2) := by
  simp only [ax_okE]
  exact ⟨mg_t4 12 (by decide +kernel) rfl, mg_t3 20 (by decide +kernel) rfl, mg_t3 21 (by decide +kernel) rfl, mg_t1 4 (by decide +kernel) rfl, by decide +kernel, ⟨rfl, mg_t3 22 (by decide +kernel) rfl, by decide, by decide, by decide⟩⟩
theorem pe_Judge_91 : ax_okE mg_TB mg_T0 "MailGuard$Judge" 91 (2, 2, 2) := by
  simp only [ax_okE]
  exact ⟨by decide, mg_t1 66 (by decide +kernel) rfl⟩
theorem pe_Judge_94 : ax_okE mg_TB mg_T0 "MailGuard$Judge" 94 (7, 93, 1) := by
  simp only [ax_okE]
  exact ⟨mg_t4 13 (by decide +kernel) rfl, mg_t4 14 (by decide +kernel) rfl, mg_t4 15 (by decide +kernel) rfl, mg_t1 9 (by decide +kernel) rfl, by decide +kernel, ⟨rfl, mg_t4 16 (by decide +kernel) rfl, by decide, by decide, by decide⟩⟩
theorem pe_Judge_98 : ax_okE mg_TB mg_T0 "MailGuard$Judge" 98 (7, 24, 0) := by
  simp only [ax_okE]
  exact ⟨mg_t4 57 (by decide +kernel) rfl, mg_t2 34 (by decide +kernel) rfl, mg_t2 35 (by decide +kernel) rfl, mg_t1 5 (by decide +kernel) rfl, by decide +kernel, ⟨rfl, mg_t2 36 (by decide +kernel) rfl, by decide, by decide, by decide⟩⟩
theorem pe_Judge_103 : ax_okE mg_TB mg_T0 "MailGuard$Judge" 103 (7, 49, 0) := by
  simp only [ax_okE]
  exact ⟨mg_t4 58 (by decide +kernel) rfl, mg_t2 229 (by decide +kernel) rfl, mg_t2 230 (by decide +kernel) rfl, mg_t1 5 (by decide +kernel) rfl, by decide +kernel, ⟨rfl, mg_t2 231 (by decide +kernel) rfl, by decide, by decide, by decide⟩⟩
theorem pe_Judge_107 : ax_okE mg_TB mg_T0 "MailGuard$Judge" 107 (7, 100, 0) := by
  simp only [ax_okE]
  exact ⟨mg_t4 59 (by decide +kernel) rfl, mg_t4 60 (by decide +kernel) rfl, mg_t4 61 (by decide +kernel) rfl, mg_t1 9 (by decide +kernel) rfl, by decide +kernel, ⟨rfl, mg_t4 62 (by decide +kernel) rfl, by decide, by decide, by decide⟩⟩
theorem pe_Judge_111 : ax_okE mg_TB mg_T0 "MailGuard$Judge" 111 (7, 54, 3) := by
  simp only [ax_okE]
  exact ⟨mg_t4 63 (by decide +kernel) rfl, mg_t3 14 (by decide +kernel) rfl, mg_t3 15 (by decide +kernel) rfl, mg_t1 2 (by decide +kernel) rfl, by decide +kernel, ⟨rfl, mg_t3 16 (by decide +kernel) rfl, by decide, by decide, by decide⟩⟩
theorem pe_Judge (idx : Nat) : ax_okE mg_TB mg_T0 "MailGuard$Judge" idx (pl_Judge idx) := by
  unfold pl_Judge
  split
  · exact pe_Judge_3
  · exact pe_Judge_9
  · exact pe_Judge_11
  · exact pe_Judge_12
  · exact pe_Judge_18
  · exact pe_Judge_20
  · exact pe_Judge_23
  · exact pe_Judge_27
  · exact pe_Judge_31
  · exact pe_Judge_35
  · exact pe_Judge_41
  · exact pe_Judge_45
  · exact pe_Judge_49
  · exact pe_Judge_53
  · exact pe_Judge_56
  · exact pe_Judge_59
  · exact pe_Judge_64
  · exact pe_Judge_68
  · exact pe_Judge_71
  · exact pe_Judge_75
  · exact pe_Judge_78
  · exact pe_Judge_81
  · exact pe_Judge_85
  · exact pe_Judge_91
  · exact pe_Judge_94
  · exact pe_Judge_98
  · exact pe_Judge_103
  · exact pe_Judge_107
  · exact pe_Judge_111
  · exact trivial
theorem pe_Model_1 : ax_okE mg_TB mg_T0 "MailGuardModel" 1 (9, 0, 0) := by
  simp only [ax_okE]
  exact ⟨mg_t4 81 (by decide +kernel) rfl, mg_t1 27 (by decide +kernel) rfl, mg_t1 28 (by decide +kernel) rfl⟩
theorem pe_Model_7 : ax_okE mg_TB mg_T0 "MailGuardModel" 7 (1, 9, 2) := by
  simp only [ax_okE]
  exact ⟨by decide, mg_t4 84 (by decide +kernel) rfl⟩
theorem pe_Model_13 : ax_okE mg_TB mg_T0 "MailGuardModel" 13 (1, 9, 4) := by
  simp only [ax_okE]
  exact ⟨by decide, mg_t4 86 (by decide +kernel) rfl⟩
theorem pe_Model_16 : ax_okE mg_TB mg_T0 "MailGuardModel" 16 (1, 9, 5) := by
  simp only [ax_okE]
  exact ⟨by decide, mg_t4 87 (by decide +kernel) rfl⟩
theorem pe_Model_19 : ax_okE mg_TB mg_T0 "MailGuardModel" 19 (1, 9, 6) := by
  simp only [ax_okE]
  exact ⟨by decide, mg_t4 88 (by decide +kernel) rfl⟩
theorem pe_Model_22 : ax_okE mg_TB mg_T0 "MailGuardModel" 22 (1, 9, 7) := by
  simp only [ax_okE]
  exact ⟨by decide, mg_t4 89 (by decide +kernel) rfl⟩
theorem pe_Model_25 : ax_okE mg_TB mg_T0 "MailGuardModel" 25 (1, 9, 8) := by
  simp only [ax_okE]
  exact ⟨by decide, mg_t4 90 (by decide +kernel) rfl⟩
theorem pe_Model_28 : ax_okE mg_TB mg_T0 "MailGuardModel" 28 (1, 9, 11) := by
  simp only [ax_okE]
  exact ⟨by decide, mg_t4 93 (by decide +kernel) rfl⟩
theorem pe_Model_31 : ax_okE mg_TB mg_T0 "MailGuardModel" 31 (1, 9, 13) := by
  simp only [ax_okE]
  exact ⟨by decide, mg_t4 95 (by decide +kernel) rfl⟩
theorem pe_Model_34 : ax_okE mg_TB mg_T0 "MailGuardModel" 34 (1, 9, 16) := by
  simp only [ax_okE]
  exact ⟨by decide, mg_t4 98 (by decide +kernel) rfl⟩
theorem pe_Model_37 : ax_okE mg_TB mg_T0 "MailGuardModel" 37 (1, 9, 18) := by
  simp only [ax_okE]
  exact ⟨by decide, mg_t4 100 (by decide +kernel) rfl⟩
theorem pe_Model_40 : ax_okE mg_TB mg_T0 "MailGuardModel" 40 (1, 9, 20) := by
  simp only [ax_okE]
  exact ⟨by decide, mg_t4 102 (by decide +kernel) rfl⟩
theorem pe_Model_43 : ax_okE mg_TB mg_T0 "MailGuardModel" 43 (1, 9, 21) := by
  simp only [ax_okE]
  exact ⟨by decide, mg_t4 103 (by decide +kernel) rfl⟩
theorem pe_Model_46 : ax_okE mg_TB mg_T0 "MailGuardModel" 46 (1, 9, 24) := by
  simp only [ax_okE]
  exact ⟨by decide, mg_t4 106 (by decide +kernel) rfl⟩
theorem pe_Model_49 : ax_okE mg_TB mg_T0 "MailGuardModel" 49 (1, 9, 25) := by
  simp only [ax_okE]
  exact ⟨by decide, mg_t4 107 (by decide +kernel) rfl⟩
theorem pe_Model_52 : ax_okE mg_TB mg_T0 "MailGuardModel" 52 (1, 9, 26) := by
  simp only [ax_okE]
  exact ⟨by decide, mg_t4 108 (by decide +kernel) rfl⟩
theorem pe_Model_55 : ax_okE mg_TB mg_T0 "MailGuardModel" 55 (1, 9, 27) := by
  simp only [ax_okE]
  exact ⟨by decide, mg_t4 109 (by decide +kernel) rfl⟩
theorem pe_Model_58 : ax_okE mg_TB mg_T0 "MailGuardModel" 58 (1, 9, 28) := by
  simp only [ax_okE]
  exact ⟨by decide, mg_t4 110 (by decide +kernel) rfl⟩
theorem pe_Model_61 : ax_okE mg_TB mg_T0 "MailGuardModel" 61 (1, 9, 29) := by
  simp only [ax_okE]
  exact ⟨by decide, mg_t4 111 (by decide +kernel) rfl⟩
theorem pe_Model_64 : ax_okE mg_TB mg_T0 "MailGuardModel" 64 (1, 9, 30) := by
  simp only [ax_okE]
  exact ⟨by decide, mg_t4 112 (by decide +kernel) rfl⟩
theorem pe_Model_67 : ax_okE mg_TB mg_T0 "MailGuardModel" 67 (1, 9, 31) := by
  simp only [ax_okE]
  exact ⟨by decide, mg_t4 113 (by decide +kernel) rfl⟩
theorem pe_Model_70 : ax_okE mg_TB mg_T0 "MailGuardModel" 70 (1, 9, 32) := by
  simp only [ax_okE]
  exact ⟨by decide, mg_t4 114 (by decide +kernel) rfl⟩
theorem pe_Model_73 : ax_okE mg_TB mg_T0 "MailGuardModel" 73 (1, 9, 42) := by
  simp only [ax_okE]
  exact ⟨by decide, mg_t4 124 (by decide +kernel) rfl⟩
theorem pe_Model_76 : ax_okE mg_TB mg_T0 "MailGuardModel" 76 (1, 9, 47) := by
  simp only [ax_okE]
  exact ⟨by decide, mg_t4 129 (by decide +kernel) rfl⟩
theorem pe_Model_79 : ax_okE mg_TB mg_T0 "MailGuardModel" 79 (1, 9, 48) := by
  simp only [ax_okE]
  exact ⟨by decide, mg_t4 130 (by decide +kernel) rfl⟩
theorem pe_Model_82 : ax_okE mg_TB mg_T0 "MailGuardModel" 82 (1, 9, 0) := by
  simp only [ax_okE]
  exact ⟨by decide, mg_t4 82 (by decide +kernel) rfl⟩
theorem pe_Model_86 : ax_okE mg_TB mg_T0 "MailGuardModel" 86 (1, 9, 1) := by
  simp only [ax_okE]
  exact ⟨by decide, mg_t4 83 (by decide +kernel) rfl⟩
theorem pe_Model_89 : ax_okE mg_TB mg_T0 "MailGuardModel" 89 (6, 111, 1) := by
  simp only [ax_okE]
  exact ⟨mg_t5 14 (by decide +kernel) rfl, mg_t5 15 (by decide +kernel) rfl, mg_t1 10 (by decide +kernel) rfl, by decide +kernel, ⟨rfl, mg_t5 16 (by decide +kernel) rfl, by decide, by decide, by decide⟩⟩
theorem pe_Model_93 : ax_okE mg_TB mg_T0 "MailGuardModel" 93 (6, 112, 1) := by
  simp only [ax_okE]
  exact ⟨mg_t5 17 (by decide +kernel) rfl, mg_t5 18 (by decide +kernel) rfl, mg_t1 10 (by decide +kernel) rfl, by decide +kernel, ⟨rfl, mg_t5 19 (by decide +kernel) rfl, by decide, by decide, by decide⟩⟩
theorem pe_Model_96 : ax_okE mg_TB mg_T0 "MailGuardModel" 96 (1, 9, 9) := by
  simp only [ax_okE]
  exact ⟨by decide, mg_t4 91 (by decide +kernel) rfl⟩
theorem pe_Model_99 : ax_okE mg_TB mg_T0 "MailGuardModel" 99 (7, 114, 4) := by
  simp only [ax_okE]
  exact ⟨mg_t5 24 (by decide +kernel) rfl, mg_t5 26 (by decide +kernel) rfl, mg_p1 5 (by decide +kernel) rfl, mg_t1 10 (by decide +kernel) rfl, by decide +kernel, ⟨rfl, mg_t5 27 (by decide +kernel) rfl, by decide, by decide, by decide⟩⟩
theorem pe_Model_103 : ax_okE mg_TB mg_T0 "MailGuardModel" 103 (6, 110, 3) := by
  simp only [ax_okE]
  exact ⟨mg_t5 11 (by decide +kernel) rfl, mg_t5 12 (by decide +kernel) rfl, mg_t1 10 (by decide +kernel) rfl, by decide +kernel, ⟨rfl, mg_t5 13 (by decide +kernel) rfl, by decide, by decide, by decide⟩⟩
theorem pe_Model_107 : ax_okE mg_TB mg_T0 "MailGuardModel" 107 (7, 113, 3) := by
  simp only [ax_okE]
  exact ⟨mg_t5 20 (by decide +kernel) rfl, mg_t5 22 (by decide +kernel) rfl, mg_p1 4 (by decide +kernel) rfl, mg_t1 10 (by decide +kernel) rfl, by decide +kernel, ⟨rfl, mg_t5 23 (by decide +kernel) rfl, by decide, by decide, by decide⟩⟩
theorem pe_Model_111 : ax_okE mg_TB mg_T0 "MailGuardModel" 111 (1, 9, 3) := by
  simp only [ax_okE]
  exact ⟨by decide, mg_t4 85 (by decide +kernel) rfl⟩
theorem pe_Model_114 : ax_okE mg_TB mg_T0 "MailGuardModel" 114 (1, 9, 10) := by
  simp only [ax_okE]
  exact ⟨by decide, mg_t4 92 (by decide +kernel) rfl⟩
theorem pe_Model_117 : ax_okE mg_TB mg_T0 "MailGuardModel" 117 (1, 9, 14) := by
  simp only [ax_okE]
  exact ⟨by decide, mg_t4 96 (by decide +kernel) rfl⟩
theorem pe_Model_121 : ax_okE mg_TB mg_T0 "MailGuardModel" 121 (1, 9, 12) := by
  simp only [ax_okE]
  exact ⟨by decide, mg_t4 94 (by decide +kernel) rfl⟩
theorem pe_Model_124 : ax_okE mg_TB mg_T0 "MailGuardModel" 124 (1, 9, 15) := by
  simp only [ax_okE]
  exact ⟨by decide, mg_t4 97 (by decide +kernel) rfl⟩
theorem pe_Model_127 : ax_okE mg_TB mg_T0 "MailGuardModel" 127 (7, 122, 1) := by
  simp only [ax_okE]
  exact ⟨mg_t5 56 (by decide +kernel) rfl, mg_t5 58 (by decide +kernel) rfl, mg_p1 11 (by decide +kernel) rfl, mg_t1 10 (by decide +kernel) rfl, by decide +kernel, ⟨rfl, mg_t5 59 (by decide +kernel) rfl, by decide, by decide, by decide⟩⟩
theorem pe_Model_130 : ax_okE mg_TB mg_T0 "MailGuardModel" 130 (7, 131, 3) := by
  simp only [ax_okE]
  exact ⟨mg_t5 92 (by decide +kernel) rfl, mg_t5 94 (by decide +kernel) rfl, mg_p2 4 (by decide +kernel) rfl, mg_t1 10 (by decide +kernel) rfl, by decide +kernel, ⟨rfl, mg_t5 95 (by decide +kernel) rfl, by decide, by decide, by decide⟩⟩
theorem pe_Model_134 : ax_okE mg_TB mg_T0 "MailGuardModel" 134 (1, 9, 17) := by
  simp only [ax_okE]
  exact ⟨by decide, mg_t4 99 (by decide +kernel) rfl⟩
theorem pe_Model_137 : ax_okE mg_TB mg_T0 "MailGuardModel" 137 (1, 9, 22) := by
  simp only [ax_okE]
  exact ⟨by decide, mg_t4 104 (by decide +kernel) rfl⟩
theorem pe_Model_140 : ax_okE mg_TB mg_T0 "MailGuardModel" 140 (1, 9, 23) := by
  simp only [ax_okE]
  exact ⟨by decide, mg_t4 105 (by decide +kernel) rfl⟩
theorem pe_Model_143 : ax_okE mg_TB mg_T0 "MailGuardModel" 143 (1, 9, 35) := by
  simp only [ax_okE]
  exact ⟨by decide, mg_t4 117 (by decide +kernel) rfl⟩
theorem pe_Model_146 : ax_okE mg_TB mg_T0 "MailGuardModel" 146 (7, 144, 1) := by
  simp only [ax_okE]
  exact ⟨mg_t5 141 (by decide +kernel) rfl, mg_t5 143 (by decide +kernel) rfl, mg_p2 14 (by decide +kernel) rfl, mg_t1 10 (by decide +kernel) rfl, by decide +kernel, ⟨rfl, mg_t5 144 (by decide +kernel) rfl, by decide, by decide, by decide⟩⟩
theorem pe_Model_150 : ax_okE mg_TB mg_T0 "MailGuardModel" 150 (1, 9, 41) := by
  simp only [ax_okE]
  exact ⟨by decide, mg_t4 123 (by decide +kernel) rfl⟩
theorem pe_Model_153 : ax_okE mg_TB mg_T0 "MailGuardModel" 153 (1, 9, 19) := by
  simp only [ax_okE]
  exact ⟨by decide, mg_t4 101 (by decide +kernel) rfl⟩
theorem pe_Model_156 : ax_okE mg_TB mg_T0 "MailGuardModel" 156 (7, 142, 1) := by
  simp only [ax_okE]
  exact ⟨mg_t5 133 (by decide +kernel) rfl, mg_t5 135 (by decide +kernel) rfl, mg_p2 12 (by decide +kernel) rfl, mg_t1 10 (by decide +kernel) rfl, by decide +kernel, ⟨rfl, mg_t5 136 (by decide +kernel) rfl, by decide, by decide, by decide⟩⟩
theorem pe_Model_159 : ax_okE mg_TB mg_T0 "MailGuardModel" 159 (7, 143, 1) := by
  simp only [ax_okE]
  exact ⟨mg_t5 137 (by decide +kernel) rfl, mg_t5 139 (by decide +kernel) rfl, mg_p2 13 (by decide +kernel) rfl, mg_t1 10 (by decide +kernel) rfl, by decide +kernel, ⟨rfl, mg_t5 140 (by decide +kernel) rfl, by decide, by decide, by decide⟩⟩
theorem pe_Model_162 : ax_okE mg_TB mg_T0 "MailGuardModel" 162 (7, 145, 2) := by
  simp only [ax_okE]
  exact ⟨mg_t5 145 (by decide +kernel) rfl, mg_t5 147 (by decide +kernel) rfl, mg_p2 15 (by decide +kernel) rfl, mg_t1 10 (by decide +kernel) rfl, by decide +kernel, ⟨rfl, mg_t5 148 (by decide +kernel) rfl, by decide, by decide, by decide⟩⟩
theorem pe_Model_166 : ax_okE mg_TB mg_T0 "MailGuardModel" 166 (7, 125, 2) := by
  simp only [ax_okE]
  exact ⟨mg_t5 68 (by decide +kernel) rfl, mg_t5 70 (by decide +kernel) rfl, mg_p1 14 (by decide +kernel) rfl, mg_t1 10 (by decide +kernel) rfl, by decide +kernel, ⟨rfl, mg_t5 71 (by decide +kernel) rfl, by decide, by decide, by decide⟩⟩
theorem pe_Model_170 : ax_okE mg_TB mg_T0 "MailGuardModel" 170 (7, 124, 5) := by
  simp only [ax_okE]
  exact ⟨mg_t5 64 (by decide +kernel) rfl, mg_t5 66 (by decide +kernel) rfl, mg_p1 13 (by decide +kernel) rfl, mg_t1 10 (by decide +kernel) rfl, by decide +kernel, ⟨rfl, mg_t5 67 (by decide +kernel) rfl, by decide, by decide, by decide⟩⟩
theorem pe_Model_174 : ax_okE mg_TB mg_T0 "MailGuardModel" 174 (7, 134, 3) := by
  simp only [ax_okE]
  exact ⟨mg_t5 103 (by decide +kernel) rfl, mg_t5 105 (by decide +kernel) rfl, mg_p2 6 (by decide +kernel) rfl, mg_t1 10 (by decide +kernel) rfl, by decide +kernel, ⟨rfl, mg_t5 106 (by decide +kernel) rfl, by decide, by decide, by decide⟩⟩
theorem pe_Model_177 : ax_okE mg_TB mg_T0 "MailGuardModel" 177 (7, 130, 4) := by
  simp only [ax_okE]
  exact ⟨mg_t5 88 (by decide +kernel) rfl, mg_t5 90 (by decide +kernel) rfl, mg_p2 3 (by decide +kernel) rfl, mg_t1 10 (by decide +kernel) rfl, by decide +kernel, ⟨rfl, mg_t5 91 (by decide +kernel) rfl, by decide, by decide, by decide⟩⟩
theorem pe_Model_181 : ax_okE mg_TB mg_T0 "MailGuardModel" 181 (7, 135, 3) := by
  simp only [ax_okE]
  exact ⟨mg_t5 107 (by decide +kernel) rfl, mg_t5 109 (by decide +kernel) rfl, mg_p2 7 (by decide +kernel) rfl, mg_t1 10 (by decide +kernel) rfl, by decide +kernel, ⟨rfl, mg_t5 110 (by decide +kernel) rfl, by decide, by decide, by decide⟩⟩
theorem pe_Model_184 : ax_okE mg_TB mg_T0 "MailGuardModel" 184 (7, 127, 2) := by
  simp only [ax_okE]
  exact ⟨mg_t5 76 (by decide +kernel) rfl, mg_t5 78 (by decide +kernel) rfl, mg_p2 0 (by decide +kernel) rfl, mg_t1 10 (by decide +kernel) rfl, by decide +kernel, ⟨rfl, mg_t5 79 (by decide +kernel) rfl, by decide, by decide, by decide⟩⟩
theorem pe_Model_187 : ax_okE mg_TB mg_T0 "MailGuardModel" 187 (7, 128, 3) := by
  simp only [ax_okE]
  exact ⟨mg_t5 80 (by decide +kernel) rfl, mg_t5 82 (by decide +kernel) rfl, mg_p2 1 (by decide +kernel) rfl, mg_t1 10 (by decide +kernel) rfl, by decide +kernel, ⟨rfl, mg_t5 83 (by decide +kernel) rfl, by decide, by decide, by decide⟩⟩
theorem pe_Model_190 : ax_okE mg_TB mg_T0 "MailGuardModel" 190 (7, 129, 3) := by
  simp only [ax_okE]
  exact ⟨mg_t5 84 (by decide +kernel) rfl, mg_t5 86 (by decide +kernel) rfl, mg_p2 2 (by decide +kernel) rfl, mg_t1 10 (by decide +kernel) rfl, by decide +kernel, ⟨rfl, mg_t5 87 (by decide +kernel) rfl, by decide, by decide, by decide⟩⟩
theorem pe_Model_194 : ax_okE mg_TB mg_T0 "MailGuardModel" 194 (6, 132, 1) := by
  simp only [ax_okE]
  exact ⟨mg_t5 96 (by decide +kernel) rfl, mg_t5 97 (by decide +kernel) rfl, mg_t1 10 (by decide +kernel) rfl, by decide +kernel, ⟨rfl, mg_t5 98 (by decide +kernel) rfl, by decide, by decide, by decide⟩⟩
theorem pe_Model_197 : ax_okE mg_TB mg_T0 "MailGuardModel" 197 (7, 133, 3) := by
  simp only [ax_okE]
  exact ⟨mg_t5 99 (by decide +kernel) rfl, mg_t5 101 (by decide +kernel) rfl, mg_p2 5 (by decide +kernel) rfl, mg_t1 10 (by decide +kernel) rfl, by decide +kernel, ⟨rfl, mg_t5 102 (by decide +kernel) rfl, by decide, by decide, by decide⟩⟩
theorem pe_Model_200 : ax_okE mg_TB mg_T0 "MailGuardModel" 200 (1, 9, 36) := by
  simp only [ax_okE]
  exact ⟨by decide, mg_t4 118 (by decide +kernel) rfl⟩
theorem pe_Model_203 : ax_okE mg_TB mg_T0 "MailGuardModel" 203 (1, 9, 40) := by
  simp only [ax_okE]
  exact ⟨by decide, mg_t4 122 (by decide +kernel) rfl⟩
theorem pe_Model_206 : ax_okE mg_TB mg_T0 "MailGuardModel" 206 (7, 118, 1) := by
  simp only [ax_okE]
  exact ⟨mg_t5 40 (by decide +kernel) rfl, mg_t5 42 (by decide +kernel) rfl, mg_p1 7 (by decide +kernel) rfl, mg_t1 10 (by decide +kernel) rfl, by decide +kernel, ⟨rfl, mg_t5 43 (by decide +kernel) rfl, by decide, by decide, by decide⟩⟩
theorem pe_Model_209 : ax_okE mg_TB mg_T0 "MailGuardModel" 209 (7, 120, 1) := by
  simp only [ax_okE]
  exact ⟨mg_t5 48 (by decide +kernel) rfl, mg_t5 50 (by decide +kernel) rfl, mg_p1 9 (by decide +kernel) rfl, mg_t1 10 (by decide +kernel) rfl, by decide +kernel, ⟨rfl, mg_t5 51 (by decide +kernel) rfl, by decide, by decide, by decide⟩⟩
theorem pe_Model_212 : ax_okE mg_TB mg_T0 "MailGuardModel" 212 (7, 121, 1) := by
  simp only [ax_okE]
  exact ⟨mg_t5 52 (by decide +kernel) rfl, mg_t5 54 (by decide +kernel) rfl, mg_p1 10 (by decide +kernel) rfl, mg_t1 10 (by decide +kernel) rfl, by decide +kernel, ⟨rfl, mg_t5 55 (by decide +kernel) rfl, by decide, by decide, by decide⟩⟩
theorem pe_Model_215 : ax_okE mg_TB mg_T0 "MailGuardModel" 215 (7, 119, 1) := by
  simp only [ax_okE]
  exact ⟨mg_t5 44 (by decide +kernel) rfl, mg_t5 46 (by decide +kernel) rfl, mg_p1 8 (by decide +kernel) rfl, mg_t1 10 (by decide +kernel) rfl, by decide +kernel, ⟨rfl, mg_t5 47 (by decide +kernel) rfl, by decide, by decide, by decide⟩⟩
theorem pe_Model_218 : ax_okE mg_TB mg_T0 "MailGuardModel" 218 (7, 123, 1) := by
  simp only [ax_okE]
  exact ⟨mg_t5 60 (by decide +kernel) rfl, mg_t5 62 (by decide +kernel) rfl, mg_p1 12 (by decide +kernel) rfl, mg_t1 10 (by decide +kernel) rfl, by decide +kernel, ⟨rfl, mg_t5 63 (by decide +kernel) rfl, by decide, by decide, by decide⟩⟩
theorem pe_Model_221 : ax_okE mg_TB mg_T0 "MailGuardModel" 221 (7, 126, 1) := by
  simp only [ax_okE]
  exact ⟨mg_t5 72 (by decide +kernel) rfl, mg_t5 74 (by decide +kernel) rfl, mg_p1 15 (by decide +kernel) rfl, mg_t1 10 (by decide +kernel) rfl, by decide +kernel, ⟨rfl, mg_t5 75 (by decide +kernel) rfl, by decide, by decide, by decide⟩⟩
theorem pe_Model_224 : ax_okE mg_TB mg_T0 "MailGuardModel" 224 (1, 9, 39) := by
  simp only [ax_okE]
  exact ⟨by decide, mg_t4 121 (by decide +kernel) rfl⟩
theorem pe_Model_227 : ax_okE mg_TB mg_T0 "MailGuardModel" 227 (1, 9, 37) := by
  simp only [ax_okE]
  exact ⟨by decide, mg_t4 119 (by decide +kernel) rfl⟩
theorem pe_Model_230 : ax_okE mg_TB mg_T0 "MailGuardModel" 230 (7, 148, 0) := by
  simp only [ax_okE]
  exact ⟨mg_t5 157 (by decide +kernel) rfl, mg_t5 159 (by decide +kernel) rfl, mg_p3 2 (by decide +kernel) rfl, mg_t1 10 (by decide +kernel) rfl, by decide +kernel, ⟨rfl, mg_t5 160 (by decide +kernel) rfl, by decide, by decide, by decide⟩⟩
theorem pe_Model_234 : ax_okE mg_TB mg_T0 "MailGuardModel" 234 (6, 139, 3) := by
  simp only [ax_okE]
  exact ⟨mg_t5 122 (by decide +kernel) rfl, mg_t5 123 (by decide +kernel) rfl, mg_t1 10 (by decide +kernel) rfl, by decide +kernel, ⟨rfl, mg_t5 124 (by decide +kernel) rfl, by decide, by decide, by decide⟩⟩
theorem pe_Model_237 : ax_okE mg_TB mg_T0 "MailGuardModel" 237 (1, 9, 38) := by
  simp only [ax_okE]
  exact ⟨by decide, mg_t4 120 (by decide +kernel) rfl⟩
theorem pe_Model_240 : ax_okE mg_TB mg_T0 "MailGuardModel" 240 (7, 149, 1) := by
  simp only [ax_okE]
  exact ⟨mg_t5 161 (by decide +kernel) rfl, mg_t5 163 (by decide +kernel) rfl, mg_p3 3 (by decide +kernel) rfl, mg_t1 10 (by decide +kernel) rfl, by decide +kernel, ⟨rfl, mg_t5 164 (by decide +kernel) rfl, by decide, by decide, by decide⟩⟩
theorem pe_Model_243 : ax_okE mg_TB mg_T0 "MailGuardModel" 243 (7, 150, 0) := by
  simp only [ax_okE]
  exact ⟨mg_t5 165 (by decide +kernel) rfl, mg_t5 167 (by decide +kernel) rfl, mg_p3 4 (by decide +kernel) rfl, mg_t1 10 (by decide +kernel) rfl, by decide +kernel, ⟨rfl, mg_t5 168 (by decide +kernel) rfl, by decide, by decide, by decide⟩⟩
theorem pe_Model_246 : ax_okE mg_TB mg_T0 "MailGuardModel" 246 (7, 151, 1) := by
  simp only [ax_okE]
  exact ⟨mg_t5 169 (by decide +kernel) rfl, mg_t5 171 (by decide +kernel) rfl, mg_p3 5 (by decide +kernel) rfl, mg_t1 10 (by decide +kernel) rfl, by decide +kernel, ⟨rfl, mg_t5 172 (by decide +kernel) rfl, by decide, by decide, by decide⟩⟩
theorem pe_Model_250 : ax_okE mg_TB mg_T0 "MailGuardModel" 250 (7, 152, 0) := by
  simp only [ax_okE]
  exact ⟨mg_t5 173 (by decide +kernel) rfl, mg_t5 175 (by decide +kernel) rfl, mg_p3 6 (by decide +kernel) rfl, mg_t1 10 (by decide +kernel) rfl, by decide +kernel, ⟨rfl, mg_t5 176 (by decide +kernel) rfl, by decide, by decide, by decide⟩⟩
theorem pe_Model_253 : ax_okE mg_TB mg_T0 "MailGuardModel" 253 (7, 140, 0) := by
  simp only [ax_okE]
  exact ⟨mg_t5 125 (by decide +kernel) rfl, mg_t5 127 (by decide +kernel) rfl, mg_p2 10 (by decide +kernel) rfl, mg_t1 10 (by decide +kernel) rfl, by decide +kernel, ⟨rfl, mg_t5 128 (by decide +kernel) rfl, by decide, by decide, by decide⟩⟩
theorem pe_Model_257 : ax_okE mg_TB mg_T0 "MailGuardModel" 257 (7, 141, 3) := by
  simp only [ax_okE]
  exact ⟨mg_t5 129 (by decide +kernel) rfl, mg_t5 131 (by decide +kernel) rfl, mg_p2 11 (by decide +kernel) rfl, mg_t1 10 (by decide +kernel) rfl, by decide +kernel, ⟨rfl, mg_t5 132 (by decide +kernel) rfl, by decide, by decide, by decide⟩⟩
theorem pe_Model_260 : ax_okE mg_TB mg_T0 "MailGuardModel" 260 (7, 146, 0) := by
  simp only [ax_okE]
  exact ⟨mg_t5 149 (by decide +kernel) rfl, mg_t5 151 (by decide +kernel) rfl, mg_p3 0 (by decide +kernel) rfl, mg_t1 10 (by decide +kernel) rfl, by decide +kernel, ⟨rfl, mg_t5 152 (by decide +kernel) rfl, by decide, by decide, by decide⟩⟩
theorem pe_Model_263 : ax_okE mg_TB mg_T0 "MailGuardModel" 263 (1, 9, 33) := by
  simp only [ax_okE]
  exact ⟨by decide, mg_t4 115 (by decide +kernel) rfl⟩
theorem pe_Model_266 : ax_okE mg_TB mg_T0 "MailGuardModel" 266 (7, 117, 2) := by
  simp only [ax_okE]
  exact ⟨mg_t5 36 (by decide +kernel) rfl, mg_t5 38 (by decide +kernel) rfl, mg_p1 6 (by decide +kernel) rfl, mg_t1 10 (by decide +kernel) rfl, by decide +kernel, ⟨rfl, mg_t5 39 (by decide +kernel) rfl, by decide, by decide, by decide⟩⟩
theorem pe_Model_270 : ax_okE mg_TB mg_T0 "MailGuardModel" 270 (7, 147, 1) := by
  simp only [ax_okE]
  exact ⟨mg_t5 153 (by decide +kernel) rfl, mg_t5 155 (by decide +kernel) rfl, mg_p3 1 (by decide +kernel) rfl, mg_t1 10 (by decide +kernel) rfl, by decide +kernel, ⟨rfl, mg_t5 156 (by decide +kernel) rfl, by decide, by decide, by decide⟩⟩
theorem pe_Model_273 : ax_okE mg_TB mg_T0 "MailGuardModel" 273 (6, 137, 1) := by
  simp only [ax_okE]
  exact ⟨mg_t5 115 (by decide +kernel) rfl, mg_t5 116 (by decide +kernel) rfl, mg_t1 10 (by decide +kernel) rfl, by decide +kernel, ⟨rfl, mg_t5 117 (by decide +kernel) rfl, by decide, by decide, by decide⟩⟩
theorem pe_Model_276 : ax_okE mg_TB mg_T0 "MailGuardModel" 276 (7, 138, 4) := by
  simp only [ax_okE]
  exact ⟨mg_t5 118 (by decide +kernel) rfl, mg_t5 120 (by decide +kernel) rfl, mg_p2 9 (by decide +kernel) rfl, mg_t1 10 (by decide +kernel) rfl, by decide +kernel, ⟨rfl, mg_t5 121 (by decide +kernel) rfl, by decide, by decide, by decide⟩⟩
theorem pe_Model_280 : ax_okE mg_TB mg_T0 "MailGuardModel" 280 (1, 9, 34) := by
  simp only [ax_okE]
  exact ⟨by decide, mg_t4 116 (by decide +kernel) rfl⟩
theorem pe_Model_283 : ax_okE mg_TB mg_T0 "MailGuardModel" 283 (7, 136, 0) := by
  simp only [ax_okE]
  exact ⟨mg_t5 111 (by decide +kernel) rfl, mg_t5 113 (by decide +kernel) rfl, mg_p2 8 (by decide +kernel) rfl, mg_t1 10 (by decide +kernel) rfl, by decide +kernel, ⟨rfl, mg_t5 114 (by decide +kernel) rfl, by decide, by decide, by decide⟩⟩
theorem pe_Model_286 : ax_okE mg_TB mg_T0 "MailGuardModel" 286 (1, 9, 43) := by
  simp only [ax_okE]
  exact ⟨by decide, mg_t4 125 (by decide +kernel) rfl⟩
theorem pe_Model_289 : ax_okE mg_TB mg_T0 "MailGuardModel" 289 (7, 161, 3) := by
  simp only [ax_okE]
  exact ⟨mg_t5 209 (by decide +kernel) rfl, mg_t5 211 (by decide +kernel) rfl, mg_p3 12 (by decide +kernel) rfl, mg_t1 10 (by decide +kernel) rfl, by decide +kernel, ⟨rfl, mg_t5 212 (by decide +kernel) rfl, by decide, by decide, by decide⟩⟩
theorem pe_Model_292 : ax_okE mg_TB mg_T0 "MailGuardModel" 292 (1, 9, 44) := by
  simp only [ax_okE]
  exact ⟨by decide, mg_t4 126 (by decide +kernel) rfl⟩
theorem pe_Model_295 : ax_okE mg_TB mg_T0 "MailGuardModel" 295 (1, 9, 45) := by
  simp only [ax_okE]
  exact ⟨by decide, mg_t4 127 (by decide +kernel) rfl⟩
theorem pe_Model_298 : ax_okE mg_TB mg_T0 "MailGuardModel" 298 (1, 9, 46) := by
  simp only [ax_okE]
  exact ⟨by decide, mg_t4 128 (by decide +kernel) rfl⟩
theorem pe_Model_301 : ax_okE mg_TB mg_T0 "MailGuardModel" 301 (7, 159, 2) := by
  simp only [ax_okE]
  exact ⟨mg_t5 201 (by decide +kernel) rfl, mg_t5 203 (by decide +kernel) rfl, mg_p3 10 (by decide +kernel) rfl, mg_t1 10 (by decide +kernel) rfl, by decide +kernel, ⟨rfl, mg_t5 204 (by decide +kernel) rfl, by decide, by decide, by decide⟩⟩
theorem pe_Model_304 : ax_okE mg_TB mg_T0 "MailGuardModel" 304 (7, 160, 4) := by
  simp only [ax_okE]
  exact ⟨mg_t5 205 (by decide +kernel) rfl, mg_t5 207 (by decide +kernel) rfl, mg_p3 11 (by decide +kernel) rfl, mg_t1 10 (by decide +kernel) rfl, by decide +kernel, ⟨rfl, mg_t5 208 (by decide +kernel) rfl, by decide, by decide, by decide⟩⟩
theorem pe_Model_308 : ax_okE mg_TB mg_T0 "MailGuardModel" 308 (7, 158, 1) := by
  simp only [ax_okE]
  exact ⟨mg_t5 197 (by decide +kernel) rfl, mg_t5 199 (by decide +kernel) rfl, mg_p3 9 (by decide +kernel) rfl, mg_t1 10 (by decide +kernel) rfl, by decide +kernel, ⟨rfl, mg_t5 200 (by decide +kernel) rfl, by decide, by decide, by decide⟩⟩
theorem pe_Model_311 : ax_okE mg_TB mg_T0 "MailGuardModel" 311 (7, 156, 2) := by
  simp only [ax_okE]
  exact ⟨mg_t5 189 (by decide +kernel) rfl, mg_t5 191 (by decide +kernel) rfl, mg_p3 7 (by decide +kernel) rfl, mg_t1 10 (by decide +kernel) rfl, by decide +kernel, ⟨rfl, mg_t5 192 (by decide +kernel) rfl, by decide, by decide, by decide⟩⟩
theorem pe_Model_315 : ax_okE mg_TB mg_T0 "MailGuardModel" 315 (7, 157, 3) := by
  simp only [ax_okE]
  exact ⟨mg_t5 193 (by decide +kernel) rfl, mg_t5 195 (by decide +kernel) rfl, mg_p3 8 (by decide +kernel) rfl, mg_t1 10 (by decide +kernel) rfl, by decide +kernel, ⟨rfl, mg_t5 196 (by decide +kernel) rfl, by decide, by decide, by decide⟩⟩
theorem pe_Model_318 : ax_okE mg_TB mg_T0 "MailGuardModel" 318 (6, 162, 6) := by
  simp only [ax_okE]
  exact ⟨mg_t5 213 (by decide +kernel) rfl, mg_t5 214 (by decide +kernel) rfl, mg_t1 10 (by decide +kernel) rfl, by decide +kernel, ⟨rfl, mg_t5 215 (by decide +kernel) rfl, by decide, by decide, by decide⟩⟩
theorem pe_Model (idx : Nat) : ax_okE mg_TB mg_T0 "MailGuardModel" idx (pl_Model idx) := by
  unfold pl_Model
  split
  · exact pe_Model_1
  · exact pe_Model_7
  · exact pe_Model_13
  · exact pe_Model_16
  · exact pe_Model_19
  · exact pe_Model_22
  · exact pe_Model_25
  · exact pe_Model_28
  · exact pe_Model_31
  · exact pe_Model_34
  · exact pe_Model_37
  · exact pe_Model_40
  · exact pe_Model_43
  · exact pe_Model_46
  · exact pe_Model_49
  · exact pe_Model_52
  · exact pe_Model_55
  · exact pe_Model_58
  · exact pe_Model_61
  · exact pe_Model_64
  · exact pe_Model_67
  · exact pe_Model_70
  · exact pe_Model_73
  · exact pe_Model_76
  · exact pe_Model_79
  · exact pe_Model_82
  · exact pe_Model_86
  · exact pe_Model_89
  · exact pe_Model_93
  · exact pe_Model_96
  · exact pe_Model_99
  · exact pe_Model_103
  · exact pe_Model_107
  · exact pe_Model_111
  · exact pe_Model_114
  · exact pe_Model_117
  · exact pe_Model_121
  · exact pe_Model_124
  · exact pe_Model_127
  · exact pe_Model_130
  · exact pe_Model_134
  · exact pe_Model_137
  · exact pe_Model_140
  · exact pe_Model_143
  · exact pe_Model_146
  · exact pe_Model_150
  · exact pe_Model_153
  · exact pe_Model_156
  · exact pe_Model_159
  · exact pe_Model_162
  · exact pe_Model_166
  · exact pe_Model_170
  · exact pe_Model_174
  · exact pe_Model_177
  · exact pe_Model_181
  · exact pe_Model_184
  · exact pe_Model_187
  · exact pe_Model_190
  · exact pe_Model_194
  · exact pe_Model_197
  · exact pe_Model_200
  · exact pe_Model_203
  · exact pe_Model_206
  · exact pe_Model_209
  · exact pe_Model_212
  · exact pe_Model_215
  · exact pe_Model_218
  · exact pe_Model_221
  · exact pe_Model_224
  · exact pe_Model_227
  · exact pe_Model_230
  · exact pe_Model_234
  · exact pe_Model_237
  · exact pe_Model_240
  · exact pe_Model_243
  · exact pe_Model_246
  · exact pe_Model_250
  · exact pe_Model_253
  · exact pe_Model_257
  · exact pe_Model_260
  · exact pe_Model_263
  · exact pe_Model_266
  · exact pe_Model_270
  · exact pe_Model_273
  · exact pe_Model_276
  · exact pe_Model_280
  · exact pe_Model_283
  · exact pe_Model_286
  · exact pe_Model_289
  · exact pe_Model_292
  · exact pe_Model_295
  · exact pe_Model_298
  · exact pe_Model_301
  · exact pe_Model_304
  · exact pe_Model_308
  · exact pe_Model_311
  · exact pe_Model_315
  · exact pe_Model_318
  · exact trivial
theorem pe_Law_7 : ax_okE mg_TB mg_T0 "MailGuardLaw" 7 (7, 35, 1) := by
  simp only [ax_okE]
  exact ⟨mg_t2 82 (by decide +kernel) rfl, mg_t2 83 (by decide +kernel) rfl, mg_t2 84 (by decide +kernel) rfl, mg_t1 1 (by decide +kernel) rfl, by decide +kernel, ⟨rfl, mg_t2 85 (by decide +kernel) rfl, by decide, by decide, by decide⟩⟩
theorem pe_Law_8 : ax_okE mg_TB mg_T0 "MailGuardLaw" 8 (4, 0, 4) := by
  simp only [ax_okE]
  exact ⟨rfl, mg_t1 21 (by decide +kernel) rfl, mg_t1 22 (by decide +kernel) rfl, mg_t1 1 (by decide +kernel) rfl⟩
theorem pe_Law_13 : ax_okE mg_TB mg_T0 "MailGuardLaw" 13 (12, 1, 0) := by
  simp only [ax_okE]
  exact mg_t2 80 (by decide +kernel) rfl
theorem pe_Law_15 : ax_okE mg_TB mg_T0 "MailGuardLaw" 15 (12, 2, 0) := by
  simp only [ax_okE]
  exact mg_t2 81 (by decide +kernel) rfl
theorem pe_Law_17 : ax_okE mg_TB mg_T0 "MailGuardLaw" 17 (7, 45, 1) := by
  simp only [ax_okE]
  exact ⟨mg_t2 208 (by decide +kernel) rfl, mg_t2 209 (by decide +kernel) rfl, mg_t2 210 (by decide +kernel) rfl, mg_t1 1 (by decide +kernel) rfl, by decide +kernel, ⟨rfl, mg_t2 211 (by decide +kernel) rfl, by decide, by decide, by decide⟩⟩
theorem pe_Law_20 : ax_okE mg_TB mg_T0 "MailGuardLaw" 20 (7, 86, 1) := by
  simp only [ax_okE]
  exact ⟨mg_t3 215 (by decide +kernel) rfl, mg_t3 216 (by decide +kernel) rfl, mg_t3 217 (by decide +kernel) rfl, mg_t1 1 (by decide +kernel) rfl, by decide +kernel, ⟨rfl, mg_t3 218 (by decide +kernel) rfl, by decide, by decide, by decide⟩⟩
theorem pe_Law_23 : ax_okE mg_TB mg_T0 "MailGuardLaw" 23 (8, 4, 0) := by
  simp only [ax_okE]
  exact ⟨mg_t1 23 (by decide +kernel) rfl, mg_t1 24 (by decide +kernel) rfl, rfl, rfl, mg_t1 1 (by decide +kernel) rfl, by decide +kernel, ⟨rfl, mg_t1 25 (by decide +kernel) rfl, by decide, by decide, by decide⟩⟩
theorem pe_Law_24 : ax_okE mg_TB mg_T0 "MailGuardLaw" 24 (4, 9, 49) := by
  simp only [ax_okE]
  exact ⟨rfl, mg_t4 76 (by decide +kernel) rfl, mg_t4 77 (by decide +kernel) rfl, mg_t1 10 (by decide +kernel) rfl⟩
theorem pe_Law_26 : ax_okE mg_TB mg_T0 "MailGuardLaw" 26 (8, 104, 0) := by
  simp only [ax_okE]
  exact ⟨mg_t4 78 (by decide +kernel) rfl, mg_t4 79 (by decide +kernel) rfl, rfl, rfl, mg_t1 10 (by decide +kernel) rfl, by decide +kernel, ⟨rfl, mg_t4 80 (by decide +kernel) rfl, by decide, by decide, by decide⟩⟩
theorem pe_Law_27 : ax_okE mg_TB mg_T0 "MailGuardLaw" 27 (11, 4294967295, 0) := by
  simp only [ax_okE]
  exact mg_t5 220 (by decide +kernel) rfl
theorem pe_Law_29 : ax_okE mg_TB mg_T0 "MailGuardLaw" 29 (7, 13, 1) := by
  simp only [ax_okE]
  exact ⟨mg_t1 230 (by decide +kernel) rfl, mg_t1 231 (by decide +kernel) rfl, mg_t1 232 (by decide +kernel) rfl, mg_t1 1 (by decide +kernel) rfl, by decide +kernel, ⟨rfl, mg_t1 233 (by decide +kernel) rfl, by decide, by decide, by decide⟩⟩
theorem pe_Law_33 : ax_okE mg_TB mg_T0 "MailGuardLaw" 33 (7, 106, 1) := by
  simp only [ax_okE]
  exact ⟨mg_t4 235 (by decide +kernel) rfl, mg_t4 236 (by decide +kernel) rfl, mg_t4 237 (by decide +kernel) rfl, mg_t1 10 (by decide +kernel) rfl, by decide +kernel, ⟨rfl, mg_t4 238 (by decide +kernel) rfl, by decide, by decide, by decide⟩⟩
theorem pe_Law_34 : ax_okE mg_TB mg_T0 "MailGuardLaw" 34 (7, 17, 0) := by
  simp only [ax_okE]
  exact ⟨mg_t2 5 (by decide +kernel) rfl, mg_t2 6 (by decide +kernel) rfl, mg_t2 7 (by decide +kernel) rfl, mg_t1 1 (by decide +kernel) rfl, by decide +kernel, ⟨rfl, mg_t2 8 (by decide +kernel) rfl, by decide, by decide, by decide⟩⟩
theorem pe_Law_37 : ax_okE mg_TB mg_T0 "MailGuardLaw" 37 (7, 107, 0) := by
  simp only [ax_okE]
  exact ⟨mg_t4 239 (by decide +kernel) rfl, mg_t5 0 (by decide +kernel) rfl, mg_t5 1 (by decide +kernel) rfl, mg_t1 10 (by decide +kernel) rfl, by decide +kernel, ⟨rfl, mg_t5 2 (by decide +kernel) rfl, by decide, by decide, by decide⟩⟩
theorem pe_Law_38 : ax_okE mg_TB mg_T0 "MailGuardLaw" 38 (7, 19, 0) := by
  simp only [ax_okE]
  exact ⟨mg_t2 13 (by decide +kernel) rfl, mg_t2 14 (by decide +kernel) rfl, mg_t2 15 (by decide +kernel) rfl, mg_t1 1 (by decide +kernel) rfl, by decide +kernel, ⟨rfl, mg_t2 16 (by decide +kernel) rfl, by decide, by decide, by decide⟩⟩
theorem pe_Law_42 : ax_okE mg_TB mg_T0 "MailGuardLaw" 42 (7, 108, 0) := by
  simp only [ax_okE]
  exact ⟨mg_t5 3 (by decide +kernel) rfl, mg_t5 4 (by decide +kernel) rfl, mg_t5 5 (by decide +kernel) rfl, mg_t1 10 (by decide +kernel) rfl, by decide +kernel, ⟨rfl, mg_t5 6 (by decide +kernel) rfl, by decide, by decide, by decide⟩⟩
theorem pe_Law_43 : ax_okE mg_TB mg_T0 "MailGuardLaw" 43 (26, 1, 3) := by
  simp only [ax_okE]
  exact ⟨mg_t2 77 (by decide +kernel) rfl, mg_t2 78 (by decide +kernel) rfl, mg_t1 0 (by decide +kernel) rfl, by decide +kernel, ⟨by decide, mg_t2 79 (by decide +kernel) rfl, by decide, by decide, by decide⟩⟩
theorem pe_Law_48 : ax_okE mg_TB mg_T0 "MailGuardLaw" 48 (7, 109, 1) := by
  simp only [ax_okE]
  exact ⟨mg_t5 7 (by decide +kernel) rfl, mg_t5 8 (by decide +kernel) rfl, mg_t5 9 (by decide +kernel) rfl, mg_t1 10 (by decide +kernel) rfl, by decide +kernel, ⟨rfl, mg_t5 10 (by decide +kernel) rfl, by decide, by decide, by decide⟩⟩
theorem pe_Law_49 : ax_okE mg_TB mg_T0 "MailGuardLaw" 49 (7, 105, 0) := by
  simp only [ax_okE]
  exact ⟨mg_t4 231 (by decide +kernel) rfl, mg_t4 232 (by decide +kernel) rfl, mg_t4 233 (by decide +kernel) rfl, mg_t1 10 (by decide +kernel) rfl, by decide +kernel, ⟨rfl, mg_t4 234 (by decide +kernel) rfl, by decide, by decide, by decide⟩⟩
theorem pe_Law_52 : ax_okE mg_TB mg_T0 "MailGuardLaw" 52 (7, 20, 1) := by
  simp only [ax_okE]
  exact ⟨mg_t2 17 (by decide +kernel) rfl, mg_t2 18 (by decide +kernel) rfl, mg_t2 19 (by decide +kernel) rfl, mg_t1 1 (by decide +kernel) rfl, by decide +kernel, ⟨rfl, mg_t2 20 (by decide +kernel) rfl, by decide, by decide, by decide⟩⟩
theorem pe_Law_56 : ax_okE mg_TB mg_T0 "MailGuardLaw" 56 (7, 115, 1) := by
  simp only [ax_okE]
  exact ⟨mg_t5 28 (by decide +kernel) rfl, mg_t5 29 (by decide +kernel) rfl, mg_t5 30 (by decide +kernel) rfl, mg_t1 10 (by decide +kernel) rfl, by decide +kernel, ⟨rfl, mg_t5 31 (by decide +kernel) rfl, by decide, by decide, by decide⟩⟩
theorem pe_Law_57 : ax_okE mg_TB mg_T0 "MailGuardLaw" 57 (26, 2, 3) := by
  simp only [ax_okE]
  exact ⟨mg_t2 205 (by decide +kernel) rfl, mg_t2 206 (by decide +kernel) rfl, mg_t1 0 (by decide +kernel) rfl, by decide +kernel, ⟨by decide, mg_t2 207 (by decide +kernel) rfl, by decide, by decide, by decide⟩⟩
theorem pe_Law_59 : ax_okE mg_TB mg_T0 "MailGuardLaw" 59 (7, 116, 1) := by
  simp only [ax_okE]
  exact ⟨mg_t5 32 (by decide +kernel) rfl, mg_t5 33 (by decide +kernel) rfl, mg_t5 34 (by decide +kernel) rfl, mg_t1 10 (by decide +kernel) rfl, by decide +kernel, ⟨rfl, mg_t5 35 (by decide +kernel) rfl, by decide, by decide, by decide⟩⟩
theorem pe_Law_60 : ax_okE mg_TB mg_T0 "MailGuardLaw" 60 (7, 22, 1) := by
  simp only [ax_okE]
  exact ⟨mg_t2 25 (by decide +kernel) rfl, mg_t2 26 (by decide +kernel) rfl, mg_t2 27 (by decide +kernel) rfl, mg_t1 1 (by decide +kernel) rfl, by decide +kernel, ⟨rfl, mg_t2 28 (by decide +kernel) rfl, by decide, by decide, by decide⟩⟩
theorem pe_Law_63 : ax_okE mg_TB mg_T0 "MailGuardLaw" 63 (7, 153, 1) := by
  simp only [ax_okE]
  exact ⟨mg_t5 177 (by decide +kernel) rfl, mg_t5 178 (by decide +kernel) rfl, mg_t5 179 (by decide +kernel) rfl, mg_t1 10 (by decide +kernel) rfl, by decide +kernel, ⟨rfl, mg_t5 180 (by decide +kernel) rfl, by decide, by decide, by decide⟩⟩
theorem pe_Law_64 : ax_okE mg_TB mg_T0 "MailGuardLaw" 64 (7, 29, 1) := by
  simp only [ax_okE]
  exact ⟨mg_t2 53 (by decide +kernel) rfl, mg_t2 54 (by decide +kernel) rfl, mg_t2 55 (by decide +kernel) rfl, mg_t1 1 (by decide +kernel) rfl, by decide +kernel, ⟨rfl, mg_t2 56 (by decide +kernel) rfl, by decide, by decide, by decide⟩⟩
theorem pe_Law_67 : ax_okE mg_TB mg_T0 "MailGuardLaw" 67 (7, 154, 1) := by
  simp only [ax_okE]
  exact ⟨mg_t5 181 (by decide +kernel) rfl, mg_t5 182 (by decide +kernel) rfl, mg_t5 183 (by decide +kernel) rfl, mg_t1 10 (by decide +kernel) rfl, by decide +kernel, ⟨rfl, mg_t5 184 (by decide +kernel) rfl, by decide, by decide, by decide⟩⟩
theorem pe_Law_68 : ax_okE mg_TB mg_T0 "MailGuardLaw" 68 (26, 3, 3) := by
  simp only [ax_okE]
  exact ⟨mg_t3 212 (by decide +kernel) rfl, mg_t3 213 (by decide +kernel) rfl, mg_t1 0 (by decide +kernel) rfl, by decide +kernel, ⟨by decide, mg_t3 214 (by decide +kernel) rfl, by decide, by decide, by decide⟩⟩
theorem pe_Law_70 : ax_okE mg_TB mg_T0 "MailGuardLaw" 70 (7, 155, 1) := by
  simp only [ax_okE]
  exact ⟨mg_t5 185 (by decide +kernel) rfl, mg_t5 186 (by decide +kernel) rfl, mg_t5 187 (by decide +kernel) rfl, mg_t1 10 (by decide +kernel) rfl, by decide +kernel, ⟨rfl, mg_t5 188 (by decide +kernel) rfl, by decide, by decide, by decide⟩⟩
theorem pe_Law_71 : ax_okE mg_TB mg_T0 "MailGuardLaw" 71 (7, 32, 1) := by
  simp only [ax_okE]
  exact ⟨mg_t2 65 (by decide +kernel) rfl, mg_t2 66 (by decide +kernel) rfl, mg_t2 67 (by decide +kernel) rfl, mg_t1 1 (by decide +kernel) rfl, by decide +kernel, ⟨rfl, mg_t2 68 (by decide +kernel) rfl, by decide, by decide, by decide⟩⟩
theorem pe_Law_74 : ax_okE mg_TB mg_T0 "MailGuardLaw" 74 (7, 163, 1) := by
  simp only [ax_okE]
  exact ⟨mg_t5 216 (by decide +kernel) rfl, mg_t5 217 (by decide +kernel) rfl, mg_t5 218 (by decide +kernel) rfl, mg_t1 10 (by decide +kernel) rfl, by decide +kernel, ⟨rfl, mg_t5 219 (by decide +kernel) rfl, by decide, by decide, by decide⟩⟩
theorem pe_Law (idx : Nat) : ax_okE mg_TB mg_T0 "MailGuardLaw" idx (pl_Law idx) := by
  unfold pl_Law
  split
  · exact pe_Law_7
  · exact pe_Law_8
  · exact pe_Law_13
  · exact pe_Law_15
  · exact pe_Law_17
  · exact pe_Law_20
  · exact pe_Law_23
  · exact pe_Law_24
  · exact pe_Law_26
  · exact pe_Law_27
  · exact pe_Law_29
  · exact pe_Law_33
  · exact pe_Law_34
  · exact pe_Law_37
  · exact pe_Law_38
  · exact pe_Law_42
  · exact pe_Law_43
  · exact pe_Law_48
  · exact pe_Law_49
  · exact pe_Law_52
  · exact pe_Law_56
  · exact pe_Law_57
  · exact pe_Law_59
  · exact pe_Law_60
  · exact pe_Law_63
  · exact pe_Law_64
  · exact pe_Law_67
  · exact pe_Law_68
  · exact pe_Law_70
  · exact pe_Law_71
  · exact pe_Law_74
  · exact trivial
end
section
theorem mg_exc1 : ∀ w ∈ Bundle.ownAtoms0 "MailGuard" 64 (ax_en 1) ax_up2, w ∈ mg_TB ∨ w ∈ ax_zs := by decide +kernel
theorem mg_exc2 : ∀ w ∈ Bundle.ownAtoms0 "MailGuard" 70 (ax_en 2) ax_up2, w ∈ mg_TB ∨ w ∈ ax_zs := by decide +kernel
theorem pe_Guard_62 : ax_okE mg_TB mg_T0 "MailGuard" 62 (10, 1, 64) := by
  simp only [ax_okE]
  exact ⟨mg_t2 112 (by decide +kernel) rfl, mg_t2 113 (by decide +kernel) rfl, mg_t1 14 (by decide +kernel) rfl, by decide +kernel, mg_exc1⟩
theorem pe_Guard_68 : ax_okE mg_TB mg_T0 "MailGuard" 68 (10, 2, 70) := by
  simp only [ax_okE]
  exact ⟨mg_t2 174 (by decide +kernel) rfl, mg_t2 175 (by decide +kernel) rfl, mg_t1 15 (by decide +kernel) rfl, by decide +kernel, mg_exc2⟩
theorem pe_Guard (idx : Nat) : ax_okE mg_TB mg_T0 "MailGuard" idx (pl_Guard idx) := by
  unfold pl_Guard
  split
  · exact pe_Guard_3
  · exact pe_Guard_9
  · exact pe_Guard_11
  · exact pe_Guard_14
  · exact pe_Guard_18
  · exact pe_Guard_20
  · exact pe_Guard_21
  · exact pe_Guard_25
  · exact pe_Guard_27
  · exact pe_Guard_30
  · exact pe_Guard_34
  · exact pe_Guard_36
  · exact pe_Guard_39
  · exact pe_Guard_43
  · exact pe_Guard_47
  · exact pe_Guard_51
  · exact pe_Guard_55
  · exact pe_Guard_58
  · exact pe_Guard_62
  · exact pe_Guard_65
  · exact pe_Guard_68
  · exact pe_Guard_71
  · exact pe_Guard_75
  · exact pe_Guard_78
  · exact pe_Guard_82
  · exact pe_Guard_85
  · exact pe_Guard_89
  · exact pe_Guard_92
  · exact pe_Guard_95
  · exact pe_Guard_98
  · exact pe_Guard_101
  · exact pe_Guard_104
  · exact pe_Guard_107
  · exact pe_Guard_110
  · exact pe_Guard_114
  · exact pe_Guard_118
  · exact pe_Guard_122
  · exact pe_Guard_125
  · exact pe_Guard_131
  · exact pe_Guard_135
  · exact pe_Guard_138
  · exact pe_Guard_142
  · exact trivial
theorem pe_none (C : String) (idx : Nat) : ax_okE mg_TB mg_T0 C idx (pl_none idx) := trivial
theorem mg_getD {α : Type} {P : α → Prop} {l : List α} {d : α} (h : ∀ x ∈ l, P x) (hd : P d) (i : Nat) : P (l.getD i d) := by
  rw [List.getD_eq_getElem?_getD]
  cases hx : l[i]? with
  | none => exact hd
  | some x => exact h x (List.mem_of_getElem? hx)
end
section
def mg_P (q : mg_e) : Prop := ∀ idx, ax_okE mg_TB mg_T0 q.1.1.cls idx (q.2.1 idx)
theorem mg_P0 : ∀ q ∈ mg_ms0, mg_P q := List.forall_mem_cons.mpr ⟨fun idx => pe_Law idx, List.forall_mem_cons.mpr ⟨fun idx => pe_Law idx, List.forall_mem_cons.mpr ⟨fun idx => pe_Law idx, List.forall_mem_cons.mpr ⟨fun idx => pe_Law idx, List.forall_mem_cons.mpr ⟨fun idx => pe_Guard idx, List.forall_mem_cons.mpr ⟨fun idx => pe_Text idx, List.forall_mem_cons.mpr ⟨fun idx => pe_Table idx, List.forall_mem_cons.mpr ⟨fun idx => pe_Row idx, List.forall_mem_cons.mpr ⟨fun idx => pe_Checker idx, List.forall_mem_cons.mpr ⟨fun idx => pe_Level idx, List.forall_mem_cons.mpr ⟨fun idx => pe_Term idx, List.forall_mem_cons.mpr ⟨fun idx => pe_Judge idx, List.forall_mem_cons.mpr ⟨fun idx => pe_Policy idx, List.forall_mem_cons.mpr ⟨fun idx => pe_Guard idx, List.forall_mem_cons.mpr ⟨fun idx => pe_Guard idx, List.forall_mem_cons.mpr ⟨fun idx => pe_Text idx, List.forall_mem_cons.mpr ⟨fun idx => pe_Text idx, List.forall_mem_cons.mpr ⟨fun idx => pe_Guard idx, List.forall_mem_cons.mpr ⟨fun idx => pe_Text idx, List.forall_mem_cons.mpr ⟨fun idx => pe_Guard idx, fun _ h => absurd h List.not_mem_nil⟩⟩⟩⟩⟩⟩⟩⟩⟩⟩⟩⟩⟩⟩⟩⟩⟩⟩⟩⟩
theorem mg_P1 : ∀ q ∈ mg_ms1, mg_P q := List.forall_mem_cons.mpr ⟨fun idx => pe_Guard idx, List.forall_mem_cons.mpr ⟨fun idx => pe_Table idx, List.forall_mem_cons.mpr ⟨fun idx => pe_Guard idx, List.forall_mem_cons.mpr ⟨fun idx => pe_Checker idx, List.forall_mem_cons.mpr ⟨fun idx => pe_Checker idx, List.forall_mem_cons.mpr ⟨fun idx => pe_Checker idx, List.forall_mem_cons.mpr ⟨fun idx => pe_Checker idx, List.forall_mem_cons.mpr ⟨fun idx => pe_Checker idx, List.forall_mem_cons.mpr ⟨fun idx => pe_Checker idx, List.forall_mem_cons.mpr ⟨fun idx => pe_Guard idx, List.forall_mem_cons.mpr ⟨fun idx => pe_Table idx, List.forall_mem_cons.mpr ⟨fun idx => pe_Text idx, List.forall_mem_cons.mpr ⟨fun idx => pe_Guard idx, List.forall_mem_cons.mpr ⟨fun idx => pe_Table idx, List.forall_mem_cons.mpr ⟨fun idx => pe_Table idx, List.forall_mem_cons.mpr ⟨fun idx => pe_Guard idx, List.forall_mem_cons.mpr ⟨fun idx => pe_Guard idx, List.forall_mem_cons.mpr ⟨fun idx => pe_Text idx, List.forall_mem_cons.mpr ⟨fun idx => pe_Text idx, List.forall_mem_cons.mpr ⟨fun idx => pe_Text idx, fun _ h => absurd h List.not_mem_nil⟩⟩⟩⟩⟩⟩⟩⟩⟩⟩⟩⟩⟩⟩⟩⟩⟩⟩⟩⟩
theorem mg_P2 : ∀ q ∈ mg_ms2, mg_P q := List.forall_mem_cons.mpr ⟨fun idx => pe_Text idx, List.forall_mem_cons.mpr ⟨fun idx => pe_Text idx, List.forall_mem_cons.mpr ⟨fun idx => pe_Table idx, List.forall_mem_cons.mpr ⟨fun idx => pe_Row idx, List.forall_mem_cons.mpr ⟨fun idx => pe_Text idx, List.forall_mem_cons.mpr ⟨fun idx => pe_Guard idx, List.forall_mem_cons.mpr ⟨fun idx => pe_Text idx, List.forall_mem_cons.mpr ⟨fun idx => pe_Checker idx, List.forall_mem_cons.mpr ⟨fun idx => pe_Text idx, List.forall_mem_cons.mpr ⟨fun idx => pe_Checker idx, List.forall_mem_cons.mpr ⟨fun idx => pe_Table idx, List.forall_mem_cons.mpr ⟨fun idx => pe_Checker idx, List.forall_mem_cons.mpr ⟨fun idx => pe_Text idx, List.forall_mem_cons.mpr ⟨fun idx => pe_Table idx, List.forall_mem_cons.mpr ⟨fun idx => pe_Text idx, List.forall_mem_cons.mpr ⟨fun idx => pe_Row idx, List.forall_mem_cons.mpr ⟨fun idx => pe_Checker idx, List.forall_mem_cons.mpr ⟨fun idx => pe_Text idx, List.forall_mem_cons.mpr ⟨fun idx => pe_Checker idx, List.forall_mem_cons.mpr ⟨fun idx => pe_Term idx, fun _ h => absurd h List.not_mem_nil⟩⟩⟩⟩⟩⟩⟩⟩⟩⟩⟩⟩⟩⟩⟩⟩⟩⟩⟩⟩
theorem mg_P3 : ∀ q ∈ mg_ms3, mg_P q := List.forall_mem_cons.mpr ⟨fun idx => pe_Term idx, List.forall_mem_cons.mpr ⟨fun idx => pe_Text idx, List.forall_mem_cons.mpr ⟨fun idx => pe_Term idx, List.forall_mem_cons.mpr ⟨fun idx => pe_Term idx, List.forall_mem_cons.mpr ⟨fun idx => pe_Term idx, List.forall_mem_cons.mpr ⟨fun idx => pe_Term idx, List.forall_mem_cons.mpr ⟨fun idx => pe_Term idx, List.forall_mem_cons.mpr ⟨fun idx => pe_Term idx, List.forall_mem_cons.mpr ⟨fun idx => pe_Term idx, List.forall_mem_cons.mpr ⟨fun idx => pe_Term idx, List.forall_mem_cons.mpr ⟨fun idx => pe_Checker idx, List.forall_mem_cons.mpr ⟨fun idx => pe_Term idx, List.forall_mem_cons.mpr ⟨fun idx => pe_Checker idx, List.forall_mem_cons.mpr ⟨fun idx => pe_Checker idx, List.forall_mem_cons.mpr ⟨fun idx => pe_Checker idx, List.forall_mem_cons.mpr ⟨fun idx => pe_Checker idx, List.forall_mem_cons.mpr ⟨fun idx => pe_Checker idx, List.forall_mem_cons.mpr ⟨fun idx => pe_Text idx, List.forall_mem_cons.mpr ⟨fun idx => pe_Text idx, List.forall_mem_cons.mpr ⟨fun idx => pe_Checker idx, fun _ h => absurd h List.not_mem_nil⟩⟩⟩⟩⟩⟩⟩⟩⟩⟩⟩⟩⟩⟩⟩⟩⟩⟩⟩⟩
theorem mg_P4 : ∀ q ∈ mg_ms4, mg_P q := List.forall_mem_cons.mpr ⟨fun idx => pe_Checker idx, List.forall_mem_cons.mpr ⟨fun idx => pe_Checker idx, List.forall_mem_cons.mpr ⟨fun idx => pe_Checker idx, List.forall_mem_cons.mpr ⟨fun idx => pe_Checker idx, List.forall_mem_cons.mpr ⟨fun idx => pe_Checker idx, List.forall_mem_cons.mpr ⟨fun idx => pe_Checker idx, List.forall_mem_cons.mpr ⟨fun idx => pe_Guard idx, List.forall_mem_cons.mpr ⟨fun idx => pe_Judge idx, List.forall_mem_cons.mpr ⟨fun idx => pe_Table idx, List.forall_mem_cons.mpr ⟨fun idx => pe_Table idx, List.forall_mem_cons.mpr ⟨fun idx => pe_Text idx, List.forall_mem_cons.mpr ⟨fun idx => pe_Judge idx, List.forall_mem_cons.mpr ⟨fun idx => pe_Text idx, List.forall_mem_cons.mpr ⟨fun idx => pe_Policy idx, List.forall_mem_cons.mpr ⟨fun idx => pe_Text idx, List.forall_mem_cons.mpr ⟨fun idx => pe_Text idx, List.forall_mem_cons.mpr ⟨fun idx => pe_Policy idx, List.forall_mem_cons.mpr ⟨fun idx => pe_Policy idx, List.forall_mem_cons.mpr ⟨fun idx => pe_Policy idx, List.forall_mem_cons.mpr ⟨fun idx => pe_Judge idx, fun _ h => absurd h List.not_mem_nil⟩⟩⟩⟩⟩⟩⟩⟩⟩⟩⟩⟩⟩⟩⟩⟩⟩⟩⟩⟩
theorem mg_P5 : ∀ q ∈ mg_ms5, mg_P q := List.forall_mem_cons.mpr ⟨fun idx => pe_Policy idx, List.forall_mem_cons.mpr ⟨fun idx => pe_Policy idx, List.forall_mem_cons.mpr ⟨fun idx => pe_Policy idx, List.forall_mem_cons.mpr ⟨fun idx => pe_Policy idx, List.forall_mem_cons.mpr ⟨fun idx => pe_Model idx, List.forall_mem_cons.mpr ⟨fun idx => pe_Model idx, List.forall_mem_cons.mpr ⟨fun idx => pe_Model idx, List.forall_mem_cons.mpr ⟨fun idx => pe_Model idx, List.forall_mem_cons.mpr ⟨fun idx => pe_Model idx, List.forall_mem_cons.mpr ⟨fun idx => pe_Model idx, List.forall_mem_cons.mpr ⟨fun idx => pe_Model idx, List.forall_mem_cons.mpr ⟨fun idx => pe_Model idx, List.forall_mem_cons.mpr ⟨fun idx => pe_Model idx, List.forall_mem_cons.mpr ⟨fun idx => pe_Model idx, List.forall_mem_cons.mpr ⟨fun idx => pe_Model idx, List.forall_mem_cons.mpr ⟨fun idx => pe_Model idx, List.forall_mem_cons.mpr ⟨fun idx => pe_Model idx, List.forall_mem_cons.mpr ⟨fun idx => pe_Model idx, List.forall_mem_cons.mpr ⟨fun idx => pe_Model idx, List.forall_mem_cons.mpr ⟨fun idx => pe_Model idx, fun _ h => absurd h List.not_mem_nil⟩⟩⟩⟩⟩⟩⟩⟩⟩⟩⟩⟩⟩⟩⟩⟩⟩⟩⟩⟩
theorem mg_P6 : ∀ q ∈ mg_ms6, mg_P q := List.forall_mem_cons.mpr ⟨fun idx => pe_Model idx, List.forall_mem_cons.mpr ⟨fun idx => pe_Model idx, List.forall_mem_cons.mpr ⟨fun idx => pe_Model idx, List.forall_mem_cons.mpr ⟨fun idx => pe_Model idx, List.forall_mem_cons.mpr ⟨fun idx => pe_Model idx, List.forall_mem_cons.mpr ⟨fun idx => pe_Model idx, List.forall_mem_cons.mpr ⟨fun idx => pe_Model idx, List.forall_mem_cons.mpr ⟨fun idx => pe_Model idx, List.forall_mem_cons.mpr ⟨fun idx => pe_Model idx, List.forall_mem_cons.mpr ⟨fun idx => pe_Model idx, List.forall_mem_cons.mpr ⟨fun idx => pe_Model idx, List.forall_mem_cons.mpr ⟨fun idx => pe_Model idx, List.forall_mem_cons.mpr ⟨fun idx => pe_Model idx, List.forall_mem_cons.mpr ⟨fun idx => pe_Model idx, List.forall_mem_cons.mpr ⟨fun idx => pe_Model idx, List.forall_mem_cons.mpr ⟨fun idx => pe_Model idx, List.forall_mem_cons.mpr ⟨fun idx => pe_Model idx, List.forall_mem_cons.mpr ⟨fun idx => pe_Model idx, List.forall_mem_cons.mpr ⟨fun idx => pe_Model idx, List.forall_mem_cons.mpr ⟨fun idx => pe_Model idx, fun _ h => absurd h List.not_mem_nil⟩⟩⟩⟩⟩⟩⟩⟩⟩⟩⟩⟩⟩⟩⟩⟩⟩⟩⟩⟩
theorem mg_P7 : ∀ q ∈ mg_ms7, mg_P q := List.forall_mem_cons.mpr ⟨fun idx => pe_Model idx, List.forall_mem_cons.mpr ⟨fun idx => pe_Model idx, List.forall_mem_cons.mpr ⟨fun idx => pe_Model idx, List.forall_mem_cons.mpr ⟨fun idx => pe_Model idx, List.forall_mem_cons.mpr ⟨fun idx => pe_Model idx, List.forall_mem_cons.mpr ⟨fun idx => pe_Model idx, List.forall_mem_cons.mpr ⟨fun idx => pe_Model idx, List.forall_mem_cons.mpr ⟨fun idx => pe_Model idx, List.forall_mem_cons.mpr ⟨fun idx => pe_Model idx, List.forall_mem_cons.mpr ⟨fun idx => pe_Model idx, List.forall_mem_cons.mpr ⟨fun idx => pe_Model idx, List.forall_mem_cons.mpr ⟨fun idx => pe_Model idx, List.forall_mem_cons.mpr ⟨fun idx => pe_Model idx, List.forall_mem_cons.mpr ⟨fun idx => pe_Model idx, List.forall_mem_cons.mpr ⟨fun idx => pe_Model idx, List.forall_mem_cons.mpr ⟨fun idx => pe_Model idx, List.forall_mem_cons.mpr ⟨fun idx => pe_Model idx, List.forall_mem_cons.mpr ⟨fun idx => pe_Model idx, List.forall_mem_cons.mpr ⟨fun idx => pe_Model idx, List.forall_mem_cons.mpr ⟨fun idx => pe_Model idx, fun _ h => absurd h List.not_mem_nil⟩⟩⟩⟩⟩⟩⟩⟩⟩⟩⟩⟩⟩⟩⟩⟩⟩⟩⟩⟩
theorem mg_P8 : ∀ q ∈ mg_ms8, mg_P q := List.forall_mem_cons.mpr ⟨fun idx => pe_Model idx, List.forall_mem_cons.mpr ⟨fun idx => pe_Model idx, List.forall_mem_cons.mpr ⟨fun idx => pe_Model idx, List.forall_mem_cons.mpr ⟨fun idx => pe_Model idx, fun _ h => absurd h List.not_mem_nil⟩⟩⟩⟩
theorem mg_Pd : mg_P mg_m0 := fun idx => pe_Law idx
theorem mg_Pm (mi : Nat) : mg_P (mg_m mi) := by
  unfold mg_m
  split
  · exact mg_getD mg_P0 mg_Pd _
  · exact mg_getD mg_P1 mg_Pd _
  · exact mg_getD mg_P2 mg_Pd _
  · exact mg_getD mg_P3 mg_Pd _
  · exact mg_getD mg_P4 mg_Pd _
  · exact mg_getD mg_P5 mg_Pd _
  · exact mg_getD mg_P6 mg_Pd _
  · exact mg_getD mg_P7 mg_Pd _
  · exact mg_getD mg_P8 mg_Pd _
  · exact mg_Pd
theorem mg_okP : ax_okP mg_TB mg_T0 := fun mi idx => mg_Pm mi idx
theorem mg_C0 : ∀ w ∈ u_ws "MailGuard" F_Guard 4, w ∈ mg_TB := by
  show ∀ w ∈ [.laysFinal "MailGuard" "MailGuard" "text" "LMailGuard$Text;", .laysFinal "MailGuard" "MailGuard" "table" "LMailGuard$Table;", .laysFinal "MailGuard" "MailGuard" "checker" "LMailGuard$Checker;", .laysFinal "MailGuard" "MailGuard" "judge" "LMailGuard$Judge;"], w ∈ mg_TB
  exact List.forall_mem_cons.mpr ⟨mg_t1 221 (by decide +kernel) rfl, List.forall_mem_cons.mpr ⟨mg_t1 223 (by decide +kernel) rfl, List.forall_mem_cons.mpr ⟨mg_t1 225 (by decide +kernel) rfl, List.forall_mem_cons.mpr ⟨mg_t1 227 (by decide +kernel) rfl, fun _ h => absurd h List.not_mem_nil⟩⟩⟩⟩
theorem mg_C1 : ∀ w ∈ u_ws "MailGuard$Text" F_Text 2, w ∈ mg_TB := by
  show ∀ w ∈ [.laysFinal "MailGuard$Text" "MailGuard$Text" "chars" "[C", .lays "MailGuard$Text" "MailGuard$Text" "size" "I"], w ∈ mg_TB
  exact List.forall_mem_cons.mpr ⟨mg_t1 37 (by decide +kernel) rfl, List.forall_mem_cons.mpr ⟨mg_t1 39 (by decide +kernel) rfl, fun _ h => absurd h List.not_mem_nil⟩⟩
theorem mg_C2 : ∀ w ∈ u_ws "MailGuard$Row" F_Row 4, w ∈ mg_TB := by
  show ∀ w ∈ [.lays "MailGuard$Row" "MailGuard$Row" "kind" "I", .laysFinal "MailGuard$Row" "MailGuard$Row" "name" "LMailGuard$Text;", .laysFinal "MailGuard$Row" "MailGuard$Row" "data" "LMailGuard$Text;", .lays "MailGuard$Row" "MailGuard$Row" "address" "I"], w ∈ mg_TB
  exact List.forall_mem_cons.mpr ⟨mg_t1 70 (by decide +kernel) rfl, List.forall_mem_cons.mpr ⟨mg_t1 72 (by decide +kernel) rfl, List.forall_mem_cons.mpr ⟨mg_t1 74 (by decide +kernel) rfl, List.forall_mem_cons.mpr ⟨mg_t1 76 (by decide +kernel) rfl, fun _ h => absurd h List.not_mem_nil⟩⟩⟩⟩
theorem mg_C3 : ∀ w ∈ u_ws "MailGuard$Table" F_Table 3, w ∈ mg_TB := by
  show ∀ w ∈ [.laysFinal "MailGuard$Table" "MailGuard$Table" "rows" "[LMailGuard$Row;", .lays "MailGuard$Table" "MailGuard$Table" "count" "I", .laysFinal "MailGuard$Table" "MailGuard$Table" "lastAsked" "LMailGuard$Text;"], w ∈ mg_TB
  exact List.forall_mem_cons.mpr ⟨mg_t1 82 (by decide +kernel) rfl, List.forall_mem_cons.mpr ⟨mg_t1 84 (by decide +kernel) rfl, List.forall_mem_cons.mpr ⟨mg_t1 86 (by decide +kernel) rfl, fun _ h => absurd h List.not_mem_nil⟩⟩⟩
theorem mg_C4 : ∀ w ∈ u_ws "MailGuard$Term" F_Term 6, w ∈ mg_TB := by
  show ∀ w ∈ [.lays "MailGuard$Term" "MailGuard$Term" "kind" "I", .lays "MailGuard$Term" "MailGuard$Term" "result" "I", .lays "MailGuard$Term" "MailGuard$Term" "targetFrom" "I", .lays "MailGuard$Term" "MailGuard$Term" "targetTo" "I", .lays "MailGuard$Term" "MailGuard$Term" "bits" "I", .lays "MailGuard$Term" "MailGuard$Term" "address" "I"], w ∈ mg_TB
  exact List.forall_mem_cons.mpr ⟨mg_t1 124 (by decide +kernel) rfl, List.forall_mem_cons.mpr ⟨mg_t1 126 (by decide +kernel) rfl, List.forall_mem_cons.mpr ⟨mg_t1 128 (by decide +kernel) rfl, List.forall_mem_cons.mpr ⟨mg_t1 130 (by decide +kernel) rfl, List.forall_mem_cons.mpr ⟨mg_t1 132 (by decide +kernel) rfl, List.forall_mem_cons.mpr ⟨mg_t1 134 (by decide +kernel) rfl, fun _ h => absurd h List.not_mem_nil⟩⟩⟩⟩⟩⟩
theorem mg_C5 : ∀ w ∈ u_ws "MailGuard$Level" F_Level 2, w ∈ mg_TB := by
  show ∀ w ∈ [.laysFinal "MailGuard$Level" "MailGuard$Level" "domain" "LMailGuard$Text;", .laysFinal "MailGuard$Level" "MailGuard$Level" "term" "LMailGuard$Term;"], w ∈ mg_TB
  exact List.forall_mem_cons.mpr ⟨mg_t1 141 (by decide +kernel) rfl, List.forall_mem_cons.mpr ⟨mg_t1 143 (by decide +kernel) rfl, fun _ h => absurd h List.not_mem_nil⟩⟩
theorem mg_C6 : ∀ w ∈ u_ws "MailGuard$Checker" F_Checker 10, w ∈ mg_TB := by
  show ∀ w ∈ [.laysFinal "MailGuard$Checker" "MailGuard$Checker" "table" "LMailGuard$Table;", .laysFinal "MailGuard$Checker" "MailGuard$Checker" "levels" "[LMailGuard$Level;", .laysFinal "MailGuard$Checker" "MailGuard$Checker" "expanded" "LMailGuard$Text;", .laysFinal "MailGuard$Checker" "MailGuard$Checker" "written" "LMailGuard$Text;", .lays "MailGuard$Checker" "MailGuard$Checker" "address" "I", .lays "MailGuard$Checker" "MailGuard$Checker" "result" "I", .lays "MailGuard$Checker" "MailGuard$Checker" "lookups" "I", .lays "MailGuard$Checker" "MailGuard$Checker" "voids" "I", .lays "MailGuard$Checker" "MailGuard$Checker" "matched" "I", .lays "MailGuard$Checker" "MailGuard$Checker" "checks" "I"], w ∈ mg_TB
  exact List.forall_mem_cons.mpr ⟨mg_t1 156 (by decide +kernel) rfl, List.forall_mem_cons.mpr ⟨mg_t1 158 (by decide +kernel) rfl, List.forall_mem_cons.mpr ⟨mg_t1 160 (by decide +kernel) rfl, List.forall_mem_cons.mpr ⟨mg_t1 162 (by decide +kernel) rfl, List.forall_mem_cons.mpr ⟨mg_t1 164 (by decide +kernel) rfl, List.forall_mem_cons.mpr ⟨mg_t1 166 (by decide +kernel) rfl, List.forall_mem_cons.mpr ⟨mg_t1 168 (by decide +kernel) rfl, List.forall_mem_cons.mpr ⟨mg_t1 170 (by decide +kernel) rfl, List.forall_mem_cons.mpr ⟨mg_t1 172 (by decide +kernel) rfl, List.forall_mem_cons.mpr ⟨mg_t1 174 (by decide +kernel) rfl, fun _ h => absurd h List.not_mem_nil⟩⟩⟩⟩⟩⟩⟩⟩⟩⟩
theorem mg_C7 : ∀ w ∈ u_ws "MailGuard$Policy" F_Policy 4, w ∈ mg_TB := by
  show ∀ w ∈ [.lays "MailGuard$Policy" "MailGuard$Policy" "action" "I", .lays "MailGuard$Policy" "MailGuard$Policy" "actionBelow" "I", .lays "MailGuard$Policy" "MailGuard$Policy" "alignment" "I", .lays "MailGuard$Policy" "MailGuard$Policy" "percent" "I"], w ∈ mg_TB
  exact List.forall_mem_cons.mpr ⟨mg_t1 193 (by decide +kernel) rfl, List.forall_mem_cons.mpr ⟨mg_t1 195 (by decide +kernel) rfl, List.forall_mem_cons.mpr ⟨mg_t1 197 (by decide +kernel) rfl, List.forall_mem_cons.mpr ⟨mg_t1 199 (by decide +kernel) rfl, fun _ h => absurd h List.not_mem_nil⟩⟩⟩⟩
theorem mg_C8 : ∀ w ∈ u_ws "MailGuard$Judge" F_Judge 4, w ∈ mg_TB := by
  show ∀ w ∈ [.laysFinal "MailGuard$Judge" "MailGuard$Judge" "table" "LMailGuard$Table;", .laysFinal "MailGuard$Judge" "MailGuard$Judge" "checker" "LMailGuard$Checker;", .laysFinal "MailGuard$Judge" "MailGuard$Judge" "found" "LMailGuard$Policy;", .laysFinal "MailGuard$Judge" "MailGuard$Judge" "policyName" "LMailGuard$Text;"], w ∈ mg_TB
  exact List.forall_mem_cons.mpr ⟨mg_t1 208 (by decide +kernel) rfl, List.forall_mem_cons.mpr ⟨mg_t1 210 (by decide +kernel) rfl, List.forall_mem_cons.mpr ⟨mg_t1 212 (by decide +kernel) rfl, List.forall_mem_cons.mpr ⟨mg_t1 214 (by decide +kernel) rfl, fun _ h => absurd h List.not_mem_nil⟩⟩⟩⟩
theorem mg_C9 : ∀ w ∈ u_ws "MailGuardModel" F_Model 49, w ∈ mg_TB := by
  show ∀ w ∈ [.lays "MailGuardModel" "MailGuardModel" "thrown" "I", .lays "MailGuardModel" "MailGuardModel" "length" "I", .lays "MailGuardModel" "MailGuardModel" "text" "[I", .lays "MailGuardModel" "MailGuardModel" "rows" "I", .lays "MailGuardModel" "MailGuardModel" "typeOf" "[I", .lays "MailGuardModel" "MailGuardModel" "row" "[I", .lays "MailGuardModel" "MailGuardModel" "size" "[I", .lays "MailGuardModel" "MailGuardModel" "nameSize" "[I", .lays "MailGuardModel" "MailGuardModel" "addressOf" "[I", .lays "MailGuardModel" "MailGuardModel" "read" "I", .lays "MailGuardModel" "MailGuardModel" "nameLength" "I", .lays "MailGuardModel" "MailGuardModel" "name" "[I", .lays "MailGuardModel" "MailGuardModel" "askedLength" "I", .lays "MailGuardModel" "MailGuardModel" "asked" "[I", .lays "MailGuardModel" "MailGuardModel" "asks" "Z", .lays "MailGuardModel" "MailGuardModel" "hits" "I", .lays "MailGuardModel" "MailGuardModel" "hit" "[I", .lays "MailGuardModel" "MailGuardModel" "long1" "I", .lays "MailGuardModel" "MailGuardModel" "big" "[I", .lays "MailGuardModel" "MailGuardModel" "parts" "I", .lays "MailGuardModel" "MailGuardModel" "partFrom" "[I", .lays "MailGuardModel" "MailGuardModel" "source" "[I", .lays "MailGuardModel" "MailGuardModel" "sourceSize" "I", .lays "MailGuardModel" "MailGuardModel" "deep" "I", .lays "MailGuardModel" "MailGuardModel" "domain" "[I", .lays "MailGuardModel" "MailGuardModel" "domainSize" "[I", .lays "MailGuardModel" "MailGuardModel" "record" "[I", .lays "MailGuardModel" "MailGuardModel" "place" "[I", .lays "MailGuardModel" "MailGuardModel" "redirect" "[I", .lays "MailGuardModel" "MailGuardModel" "redirectEnd" "[I", .lays "MailGuardModel" "MailGuardModel" "begun" "[I", .lays "MailGuardModel" "MailGuardModel" "sign" "[I", .lays "MailGuardModel" "MailGuardModel" "mechanisms" "[I", .lays "MailGuardModel" "MailGuardModel" "current" "I", .lays "MailGuardModel" "MailGuardModel" "checked" "Z", .lays "MailGuardModel" "MailGuardModel" "address" "I", .lays "MailGuardModel" "MailGuardModel" "result" "I", .lays "MailGuardModel" "MailGuardModel" "lookups" "I", .lays "MailGuardModel" "MailGuardModel" "voids" "I", .lays "MailGuardModel" "MailGuardModel" "matched" "I", .lays "MailGuardModel" "MailGuardModel" "checks" "I", .lays "MailGuardModel" "MailGuardModel" "firstSize" "I", .lays "MailGuardModel" "MailGuardModel" "firstDomain" "[I", .lays "MailGuardModel" "MailGuardModel" "policyP" "I", .lays "MailGuardModel" "MailGuardModel" "policySp" "I", .lays "MailGuardModel" "MailGuardModel" "policyStrict" "I", .lays "MailGuardModel" "MailGuardModel" "policyPct" "I", .lays "MailGuardModel" "MailGuardModel" "left" "[I", .lays "MailGuardModel" "MailGuardModel" "right" "[I"], w ∈ mg_TB
  exact List.forall_mem_cons.mpr ⟨mg_t4 131 (by decide +kernel) rfl, List.forall_mem_cons.mpr ⟨mg_t4 133 (by decide +kernel) rfl, List.forall_mem_cons.mpr ⟨mg_t4 135 (by decide +kernel) rfl, List.forall_mem_cons.mpr ⟨mg_t4 137 (by decide +kernel) rfl, List.forall_mem_cons.mpr ⟨mg_t4 139 (by decide +kernel) rfl, List.forall_mem_cons.mpr ⟨mg_t4 141 (by decide +kernel) rfl, List.forall_mem_cons.mpr ⟨mg_t4 143 (by decide +kernel) rfl, List.forall_mem_cons.mpr ⟨mg_t4 145 (by decide +kernel) rfl, List.forall_mem_cons.mpr ⟨mg_t4 147 (by decide +kernel) rfl, List.forall_mem_cons.mpr ⟨mg_t4 149 (by decide +kernel) rfl, List.forall_mem_cons.mpr ⟨mg_t4 151 (by decide +kernel) rfl, List.forall_mem_cons.mpr ⟨mg_t4 153 (by decide +kernel) rfl, List.forall_mem_cons.mpr ⟨mg_t4 155 (by decide +kernel) rfl, List.forall_mem_cons.mpr ⟨mg_t4 157 (by decide +kernel) rfl, List.forall_mem_cons.mpr ⟨mg_t4 159 (by decide +kernel) rfl, List.forall_mem_cons.mpr ⟨mg_t4 161 (by decide +kernel) rfl, List.forall_mem_cons.mpr ⟨mg_t4 163 (by decide +kernel) rfl, List.forall_mem_cons.mpr ⟨mg_t4 165 (by decide +kernel) rfl, List.forall_mem_cons.mpr ⟨mg_t4 167 (by decide +kernel) rfl, List.forall_mem_cons.mpr ⟨mg_t4 169 (by decide +kernel) rfl, List.forall_mem_cons.mpr ⟨mg_t4 171 (by decide +kernel) rfl, List.forall_mem_cons.mpr ⟨mg_t4 173 (by decide +kernel) rfl, List.forall_mem_cons.mpr ⟨mg_t4 175 (by decide +kernel) rfl, List.forall_mem_cons.mpr ⟨mg_t4 177 (by decide +kernel) rfl, List.forall_mem_cons.mpr ⟨mg_t4 179 (by decide +kernel) rfl, List.forall_mem_cons.mpr ⟨mg_t4 181 (by decide +kernel) rfl, List.forall_mem_cons.mpr ⟨mg_t4 183 (by decide +kernel) rfl, List.forall_mem_cons.mpr ⟨mg_t4 185 (by decide +kernel) rfl, List.forall_mem_cons.mpr ⟨mg_t4 187 (by decide +kernel) rfl, List.forall_mem_cons.mpr ⟨mg_t4 189 (by decide +kernel) rfl, List.forall_mem_cons.mpr ⟨mg_t4 191 (by decide +kernel) rfl, List.forall_mem_cons.mpr ⟨mg_t4 193 (by decide +kernel) rfl, List.forall_mem_cons.mpr ⟨mg_t4 195 (by decide +kernel) rfl, List.forall_mem_cons.mpr ⟨mg_t4 197 (by decide +kernel) rfl, List.forall_mem_cons.mpr ⟨mg_t4 199 (by decide +kernel) rfl, List.forall_mem_cons.mpr ⟨mg_t4 201 (by decide +kernel) rfl, List.forall_mem_cons.mpr ⟨mg_t4 203 (by decide +kernel) rfl, List.forall_mem_cons.mpr ⟨mg_t4 205 (by decide +kernel) rfl, List.forall_mem_cons.mpr ⟨mg_t4 207 (by decide +kernel) rfl, List.forall_mem_cons.mpr ⟨mg_t4 209 (by decide +kernel) rfl, List.forall_mem_cons.mpr ⟨mg_t4 211 (by decide +kernel) rfl, List.forall_mem_cons.mpr ⟨mg_t4 213 (by decide +kernel) rfl, List.forall_mem_cons.mpr ⟨mg_t4 215 (by decide +kernel) rfl, List.forall_mem_cons.mpr ⟨mg_t4 217 (by decide +kernel) rfl, List.forall_mem_cons.mpr ⟨mg_t4 219 (by decide +kernel) rfl, List.forall_mem_cons.mpr ⟨mg_t4 221 (by decide +kernel) rfl, List.forall_mem_cons.mpr ⟨mg_t4 223 (by decide +kernel) rfl, List.forall_mem_cons.mpr ⟨mg_t4 225 (by decide +kernel) rfl, List.forall_mem_cons.mpr ⟨mg_t4 227 (by decide +kernel) rfl, fun _ h => absurd h List.not_mem_nil⟩⟩⟩⟩⟩⟩⟩⟩⟩⟩⟩⟩⟩⟩⟩⟩⟩⟩⟩⟩⟩⟩⟩⟩⟩⟩⟩⟩⟩⟩⟩⟩⟩⟩⟩⟩⟩⟩⟩⟩⟩⟩⟩⟩⟩⟩⟩⟩⟩
theorem mg_okC : ax_okC mg_TB mg_T0 := by
  intro ci q hq
  have hq : mg_cl[ci]? = some q := hq
  have hlt : ci < 10 := (List.getElem?_eq_some_iff.mp hq).1
  match ci, hlt, hq with
  | 0, _, hq => cases hq; exact ⟨mg_C0, by show ∀ k, k < 4 → parseFieldDescriptor (F_Guard k).2.2.1 = some (t_Guard k); decide +kernel, by show ∀ a, a < 4 → ∀ b, b < 4 → a ≠ b → (F_Guard a).2.1 ≠ (F_Guard b).2.1; decide +kernel⟩
  | 1, _, hq => cases hq; exact ⟨mg_C1, by show ∀ k, k < 2 → parseFieldDescriptor (F_Text k).2.2.1 = some (t_Text k); decide +kernel, by show ∀ a, a < 2 → ∀ b, b < 2 → a ≠ b → (F_Text a).2.1 ≠ (F_Text b).2.1; decide +kernel⟩
  | 2, _, hq => cases hq; exact ⟨mg_C2, by show ∀ k, k < 4 → parseFieldDescriptor (F_Row k).2.2.1 = some (t_Row k); decide +kernel, by show ∀ a, a < 4 → ∀ b, b < 4 → a ≠ b → (F_Row a).2.1 ≠ (F_Row b).2.1; decide +kernel⟩
  | 3, _, hq => cases hq; exact ⟨mg_C3, by show ∀ k, k < 3 → parseFieldDescriptor (F_Table k).2.2.1 = some (t_Table k); decide +kernel, by show ∀ a, a < 3 → ∀ b, b < 3 → a ≠ b → (F_Table a).2.1 ≠ (F_Table b).2.1; decide +kernel⟩
  | 4, _, hq => cases hq; exact ⟨mg_C4, by show ∀ k, k < 6 → parseFieldDescriptor (F_Term k).2.2.1 = some (t_Term k); decide +kernel, by show ∀ a, a < 6 → ∀ b, b < 6 → a ≠ b → (F_Term a).2.1 ≠ (F_Term b).2.1; decide +kernel⟩
  | 5, _, hq => cases hq; exact ⟨mg_C5, by show ∀ k, k < 2 → parseFieldDescriptor (F_Level k).2.2.1 = some (t_Level k); decide +kernel, by show ∀ a, a < 2 → ∀ b, b < 2 → a ≠ b → (F_Level a).2.1 ≠ (F_Level b).2.1; decide +kernel⟩
  | 6, _, hq => cases hq; exact ⟨mg_C6, by show ∀ k, k < 10 → parseFieldDescriptor (F_Checker k).2.2.1 = some (t_Checker k); decide +kernel, by show ∀ a, a < 10 → ∀ b, b < 10 → a ≠ b → (F_Checker a).2.1 ≠ (F_Checker b).2.1; decide +kernel⟩
  | 7, _, hq => cases hq; exact ⟨mg_C7, by show ∀ k, k < 4 → parseFieldDescriptor (F_Policy k).2.2.1 = some (t_Policy k); decide +kernel, by show ∀ a, a < 4 → ∀ b, b < 4 → a ≠ b → (F_Policy a).2.1 ≠ (F_Policy b).2.1; decide +kernel⟩
  | 8, _, hq => cases hq; exact ⟨mg_C8, by show ∀ k, k < 4 → parseFieldDescriptor (F_Judge k).2.2.1 = some (t_Judge k); decide +kernel, by show ∀ a, a < 4 → ∀ b, b < 4 → a ≠ b → (F_Judge a).2.1 ≠ (F_Judge b).2.1; decide +kernel⟩
  | 9, _, hq => cases hq; exact ⟨mg_C9, by show ∀ k, k < 49 → parseFieldDescriptor (F_Model k).2.2.1 = some (t_Model k); decide +kernel, by show ∀ a, a < 49 → ∀ b, b < 49 → a ≠ b → (F_Model a).2.1 ≠ (F_Model b).2.1; decide +kernel⟩
theorem mg_okA : ax_okA mg_TB mg_T0 := by
  show ∀ ty ∈ mg_ty, _
  refine List.forall_mem_cons.mpr ⟨mg_t4 230 (by decide +kernel) rfl, List.forall_mem_cons.mpr ⟨mg_t1 42 (by decide +kernel) rfl, List.forall_mem_cons.mpr ⟨mg_t5 221 (by decide +kernel) rfl, List.forall_mem_cons.mpr ⟨mg_t1 50 (by decide +kernel) rfl, List.forall_mem_cons.mpr ⟨mg_t1 96 (by decide +kernel) rfl, fun _ h => absurd h List.not_mem_nil⟩⟩⟩⟩⟩
theorem mg_okN : ∀ mi, plainName (ax_nm mg_T0 mi).cls = true := by
  have h : ∀ q : mg_e, q ∈ mg_ms0 ++ mg_ms1 ++ mg_ms2 ++ mg_ms3 ++ mg_ms4 ++ mg_ms5 ++ mg_ms6 ++ mg_ms7 ++ mg_ms8 → plainName q.1.1.cls = true := by
    intro q hq
    have : (mg_ms0 ++ mg_ms1 ++ mg_ms2 ++ mg_ms3 ++ mg_ms4 ++ mg_ms5 ++ mg_ms6 ++ mg_ms7 ++ mg_ms8).all (fun q => plainName q.1.1.cls) = true := by decide +kernel
    exact List.all_eq_true.mp this q hq
  have hd : plainName mg_m0.1.1.cls = true := by decide +kernel
  intro mi
  show plainName (mg_m mi).1.1.cls = true
  unfold mg_m
  split
  · exact mg_getD (P := fun q : mg_e => plainName q.1.1.cls = true) (fun q hq => h q (by simp [hq])) hd _
  · exact mg_getD (P := fun q : mg_e => plainName q.1.1.cls = true) (fun q hq => h q (by simp [hq])) hd _
  · exact mg_getD (P := fun q : mg_e => plainName q.1.1.cls = true) (fun q hq => h q (by simp [hq])) hd _
  · exact mg_getD (P := fun q : mg_e => plainName q.1.1.cls = true) (fun q hq => h q (by simp [hq])) hd _
  · exact mg_getD (P := fun q : mg_e => plainName q.1.1.cls = true) (fun q hq => h q (by simp [hq])) hd _
  · exact mg_getD (P := fun q : mg_e => plainName q.1.1.cls = true) (fun q hq => h q (by simp [hq])) hd _
  · exact mg_getD (P := fun q : mg_e => plainName q.1.1.cls = true) (fun q hq => h q (by simp [hq])) hd _
  · exact mg_getD (P := fun q : mg_e => plainName q.1.1.cls = true) (fun q hq => h q (by simp [hq])) hd _
  · exact mg_getD (P := fun q : mg_e => plainName q.1.1.cls = true) (fun q hq => h q (by simp [hq])) hd _
  · exact hd
theorem mg_good : ax_good mg_TB := fun w hw => ax_tr_of (List.mem_filter.mp hw).2
theorem mg_ok0 : ax_ok mg_TB mg_T0 := ⟨mg_okC, mg_okP, mg_okA, mg_okN, mg_good⟩
theorem mg_ok (L : Nat) (xs : Nat → Int32) : ax_ok mg_TB (mgT L xs) := mg_ok0
end
section
/-- the classes' and array classes' numbers at a state -/
theorem mg_inst : ∀ q ∈ mg_cl, Jvm.Cond.instantiable q.1 q.2.2 ∈ mg_TB := List.forall_mem_cons.mpr ⟨mg_t1 22 (by decide +kernel) rfl, List.forall_mem_cons.mpr ⟨mg_t1 30 (by decide +kernel) rfl, List.forall_mem_cons.mpr ⟨mg_t1 53 (by decide +kernel) rfl, List.forall_mem_cons.mpr ⟨mg_t1 44 (by decide +kernel) rfl, List.forall_mem_cons.mpr ⟨mg_t1 107 (by decide +kernel) rfl, List.forall_mem_cons.mpr ⟨mg_t1 99 (by decide +kernel) rfl, List.forall_mem_cons.mpr ⟨mg_t1 90 (by decide +kernel) rfl, List.forall_mem_cons.mpr ⟨mg_t1 184 (by decide +kernel) rfl, List.forall_mem_cons.mpr ⟨mg_t1 178 (by decide +kernel) rfl, List.forall_mem_cons.mpr ⟨mg_t4 77 (by decide +kernel) rfl, fun _ h => absurd h List.not_mem_nil⟩⟩⟩⟩⟩⟩⟩⟩⟩⟩
theorem mg_K {s : State} {args : Array Value} {L : Nat} {xs : Nat → Int32} (hts : ∀ w ∈ mg_TB, w.before args s = true) : ∃ (D : va_G) (tA : Nat → ClassId), va_K D (ax_cl (mgT L xs)) (ax_tys tA (mgT L xs)) s := by
  have hk : ∀ c : Nat, ∃ x : ClassId × (Nat → Nat), ∀ q, mg_cl[c]? = some q → u_Kn s q.1 q.2.1 q.2.2 x.1 x.2 := by
    intro c
    cases hq : mg_cl[c]? with
    | none => exact ⟨(0, fun _ => 0), fun q h => by cases h⟩
    | some q =>
      obtain ⟨cC, iS, h⟩ := u_known hts (mg_okC c q hq).1 (hts _ (mg_inst q (List.mem_of_getElem? hq)))
      exact ⟨(cC, iS), fun q' h' => by cases h'; exact h⟩
  have ht : ∀ t : Nat, ∃ cA : ClassId, ∀ ty, mg_ty[t]? = some ty → ArrOfT s cA ty ∧ va_RA s cA ty := by
    intro t
    cases hq : mg_ty[t]? with
    | none => exact ⟨0, fun q h => by cases h⟩
    | some ty =>
      have hA := mg_okA ty (List.mem_of_getElem? hq)
      have prim : ∀ ty : FieldType, Jvm.Cond.arrayClass ty ∈ mg_TB → (∀ C, ty ≠ .object C) → ∃ cA : ClassId, ∀ ty', some ty = some ty' → ArrOfT s cA ty' ∧ va_RA s cA ty' := by
        intro ty hm hno
        obtain ⟨c, k, comp, h1, h2, h3⟩ := Cond.arrayClass_spec (hts _ hm)
        refine ⟨c, fun ty' h' => ?_⟩
        cases h'
        refine ⟨fun n z => ⟨fun k h => (by cases h), k, h2, comp, h3⟩, ?_⟩
        cases ty <;> first | exact h1 | exact absurd rfl (hno _)
      cases ty with
      | int => exact prim .int hA (fun C h => by cases h)
      | char => exact prim .char hA (fun C h => by cases h)
      | long => exact prim .long hA (fun C h => by cases h)
      | object C =>
        obtain ⟨comp, c, k, h1, h2, h3, h4, h5⟩ := Cond.arrayOver_spec (hts _ hA)
        refine ⟨c, fun ty' h' => ?_⟩
        cases h'
        exact ⟨fun n z => ⟨fun k h => (by cases h), k, h3, comp, h4⟩, k, comp, h3, h4, h1, h5⟩
      | _ => exact absurd (List.mem_of_getElem? hq) (by simp [mg_ty])
  refine ⟨(fun c => (Classical.choose (hk c)).1, fun c => (Classical.choose (hk c)).2), fun t => Classical.choose (ht t), fun c q hq => Classical.choose_spec (hk c) q hq, fun k q hq => ?_⟩
  unfold ax_tys at hq
  rw [List.getElem?_map, Option.map_eq_some_iff] at hq
  obtain ⟨t, h1, h2⟩ := hq
  have hlt : k < mg_ty.length := by
    have := (List.getElem?_eq_some_iff.mp h1).1
    rw [List.length_range] at this
    exact this
  have h1 : (List.range mg_ty.length)[k]? = some t := h1
  rw [List.getElem?_range hlt] at h1
  cases h1
  cases h2
  have hty : mg_ty[k]? = some ((ax_ty (mgT L xs)).getD k .int) := by
    show mg_ty[k]? = some (mg_ty.getD k .int)
    rw [List.getD_eq_getElem?_getD, List.getElem?_eq_getElem hlt]
    rfl
  exact Classical.choose_spec (ht k) _ hty
def mg_h0 : ax_H := (fun _ => none, 0, 0, 0)
end
section
/-! small rows for walks by program -/
theorem ag_top {T : ax_T} {d mi pc : Nat} {ls : ax_L} {st : List Value} {h : ax_H} {o : ax_O} {x y : Int32} (e : x = y) (k : ax_Go T d mi pc ls (.int y :: st) h o) : ax_Go T d mi pc ls (.int x :: st) h o := e ▸ k
theorem ag_ref {T : ax_T} {d mi pc : Nat} {ls : ax_L} {st : List Value} {h : ax_H} {o : ax_O} {a b : Nat} (e : a = b) (k : ax_Go T d mi pc ls (.ref b :: st) h o) : ax_Go T d mi pc ls (.ref a :: st) h o := e ▸ k
theorem ax_up_at (h : ax_H) (a : Nat) (c : ax_C) : (ax_up h a c).1 a = some c := if_pos rfl
theorem ax_up_ne (h : ax_H) (c : ax_C) {a b : Nat} (e : b ≠ a) : (ax_up h a c).1 b = h.1 b := if_neg e
theorem ax_one_at (h : ax_H) (a : Nat) : (ax_one h).1 a = h.1 a := rfl
theorem ax_one_sz {h : ax_H} {n : Nat} (e : h.2.1 = n) : (ax_one h).2.1 = n + 1 := congrArg (fun q => q + 1) e
theorem ax_lt {h : ax_H} {a n : Nat} (e : h.2.1 = n) (l : a < n) : a < h.2.1 := e ▸ l
theorem ag_tswIn {T : ax_T} {d mi pc : Nat} {ls : ax_L} {st : List Value} {h : ax_H} {o : ax_O} {x : Int32} {dflt lo hi of : Int} {offs : Array Int} {len t : Nat} (hd : decode (ax_code T mi) pc = .ok (.tableswitch dflt lo hi offs, len)) (h1 : ¬ (x.toInt < lo ∨ hi < x.toInt)) (ho : offs[(x.toInt - lo).toNat]? = some of) (ht : ax_jmp pc of = some t) (k : ax_Go T d mi t ls st h o) : ax_Go T d mi pc ls (.int x :: st) h o := by
  refine ag_pure hd ?_ k
  simp only [ax_pure, ax_stk, if_neg h1, ho, Option.bind_some, ht, Option.map_some]
theorem ag_tswOut {T : ax_T} {d mi pc : Nat} {ls : ax_L} {st : List Value} {h : ax_H} {o : ax_O} {x : Int32} {dflt lo hi : Int} {offs : Array Int} {len t : Nat} (hd : decode (ax_code T mi) pc = .ok (.tableswitch dflt lo hi offs, len)) (h1 : x.toInt < lo ∨ hi < x.toInt) (ht : ax_jmp pc dflt = some t) (k : ax_Go T d mi t ls st h o) : ax_Go T d mi pc ls (.int x :: st) h o := by
  refine ag_pure hd ?_ k
  simp only [ax_pure, ax_stk, if_pos h1, ht, Option.map_some]
theorem ag_new {T : ax_T} {d mi pc : Nat} {ls : ax_L} {st : List Value} {h : ax_H} {o : ax_O} {idx ci n : Nat} (hd : decode (ax_code T mi) pc = .ok (.new idx, 3)) (hpl : ax_pl T mi idx = (4, ci, n)) (hb : h.2.1 < ax_big) (k : ax_Go T d mi (pc + 3) ls (.ref h.2.1 :: st) (ax_add h (.inr (ci, ax_blank T ci n)) n) o) : ax_Go T d mi pc ls st h o := by
  refine ag_mem hd rfl ?_ k
  simp only [ax_mem, ax_new, hpl, hb, and_self, if_true]
theorem ag_newl {T : ax_T} {d mi pc t : Nat} {ls : ax_L} {st : List Value} {h : ax_H} {o : ax_O} {n : Int32} (hd : decode (ax_code T mi) pc = .ok (.newarray .long, 2)) (ht : ax_tn T .long = some t) (hb : ¬ (n < 0 ∨ 65536 < n.toNatClampNeg ∨ ax_big ≤ h.2.1)) (k : ax_Go T d mi (pc + 2) ls (.ref h.2.1 :: st) (ax_add h (.inl (t, n.toNatClampNeg, .inr (.inl (fun _ => 0)))) n.toNatClampNeg) o) : ax_Go T d mi pc ls (.int n :: st) h o := by
  refine ag_mem hd rfl ?_ k
  have ht' : ax_tn T (newarray.typeOf .long) = some t := ht
  simp only [ax_mem, ax_newa, if_neg hb, ht']
end
section
theorem d0_0 (L : Nat) (xs : Nat → Int32) : decode (ax_code (mgT L xs) 0) 0 = .ok (.new 8, 3) := by
  show decode code 0 = _
  decide +kernel
theorem d0_3 (L : Nat) (xs : Nat → Int32) : decode (ax_code (mgT L xs) 0) 3 = .ok (.dup, 1) := by
  show decode code 3 = _
  decide +kernel
theorem d0_4 (L : Nat) (xs : Nat → Int32) : decode (ax_code (mgT L xs) 0) 4 = .ok (.invokespecial 23, 3) := by
  show decode code 4 = _
  decide +kernel
theorem d0_7 (L : Nat) (xs : Nat → Int32) : decode (ax_code (mgT L xs) 0) 7 = .ok (.astore_n 1, 1) := by
  show decode code 7 = _
  decide +kernel
theorem d0_8 (L : Nat) (xs : Nat → Int32) : decode (ax_code (mgT L xs) 0) 8 = .ok (.new 24, 3) := by
  show decode code 8 = _
  decide +kernel
theorem d0_11 (L : Nat) (xs : Nat → Int32) : decode (ax_code (mgT L xs) 0) 11 = .ok (.dup, 1) := by
  show decode code 11 = _
  decide +kernel
theorem d0_12 (L : Nat) (xs : Nat → Int32) : decode (ax_code (mgT L xs) 0) 12 = .ok (.invokespecial 26, 3) := by
  show decode code 12 = _
  decide +kernel
theorem d0_15 (L : Nat) (xs : Nat → Int32) : decode (ax_code (mgT L xs) 0) 15 = .ok (.astore_n 2, 1) := by
  show decode code 15 = _
  decide +kernel
theorem d0_16 (L : Nat) (xs : Nat → Int32) : decode (ax_code (mgT L xs) 0) 16 = .ok (.iconst 1, 1) := by
  show decode code 16 = _
  decide +kernel
theorem d0_17 (L : Nat) (xs : Nat → Int32) : decode (ax_code (mgT L xs) 0) 17 = .ok (.newarray .long, 2) := by
  show decode code 17 = _
  decide +kernel
theorem d0_19 (L : Nat) (xs : Nat → Int32) : decode (ax_code (mgT L xs) 0) 19 = .ok (.astore_n 3, 1) := by
  show decode code 19 = _
  decide +kernel
theorem d0_20 (L : Nat) (xs : Nat → Int32) : decode (ax_code (mgT L xs) 0) 20 = .ok (.iconst 0, 1) := by
  show decode code 20 = _
  decide +kernel
theorem d0_21 (L : Nat) (xs : Nat → Int32) : decode (ax_code (mgT L xs) 0) 21 = .ok (.istore 4, 2) := by
  show decode code 21 = _
  decide +kernel
theorem d0_23 (L : Nat) (xs : Nat → Int32) : decode (ax_code (mgT L xs) 0) 23 = .ok (.iload 4, 2) := by
  show decode code 23 = _
  decide +kernel
theorem d0_25 (L : Nat) (xs : Nat → Int32) : decode (ax_code (mgT L xs) 0) 25 = .ok (.aload_n 0, 1) := by
  show decode code 25 = _
  decide +kernel
theorem d0_26 (L : Nat) (xs : Nat → Int32) : decode (ax_code (mgT L xs) 0) 26 = .ok (.arraylength, 1) := by
  show decode code 26 = _
  decide +kernel
theorem d0_27 (L : Nat) (xs : Nat → Int32) : decode (ax_code (mgT L xs) 0) 27 = .ok (.iconst 3, 1) := by
  show decode code 27 = _
  decide +kernel
theorem d0_28 (L : Nat) (xs : Nat → Int32) : decode (ax_code (mgT L xs) 0) 28 = .ok (.isub, 1) := by
  show decode code 28 = _
  decide +kernel
theorem d0_29 (L : Nat) (xs : Nat → Int32) : decode (ax_code (mgT L xs) 0) 29 = .ok (.if_icmp .gt 418, 3) := by
  show decode code 29 = _
  decide +kernel
theorem d0_32 (L : Nat) (xs : Nat → Int32) : decode (ax_code (mgT L xs) 0) 32 = .ok (.aload_n 0, 1) := by
  show decode code 32 = _
  decide +kernel
theorem d0_33 (L : Nat) (xs : Nat → Int32) : decode (ax_code (mgT L xs) 0) 33 = .ok (.iload 4, 2) := by
  show decode code 33 = _
  decide +kernel
theorem d0_35 (L : Nat) (xs : Nat → Int32) : decode (ax_code (mgT L xs) 0) 35 = .ok (.iaload, 1) := by
  show decode code 35 = _
  decide +kernel
theorem d0_36 (L : Nat) (xs : Nat → Int32) : decode (ax_code (mgT L xs) 0) 36 = .ok (.bipush 15, 2) := by
  show decode code 36 = _
  decide +kernel
theorem d0_38 (L : Nat) (xs : Nat → Int32) : decode (ax_code (mgT L xs) 0) 38 = .ok (.iand, 1) := by
  show decode code 38 = _
  decide +kernel
theorem d0_39 (L : Nat) (xs : Nat → Int32) : decode (ax_code (mgT L xs) 0) 39 = .ok (.tableswitch 402 0 9 #[53, 110, 121, 134, 190, 215, 271, 296, 321, 377], 53) := by
  show decode code 39 = _
  decide +kernel
theorem d0_92 (L : Nat) (xs : Nat → Int32) : decode (ax_code (mgT L xs) 0) 92 = .ok (.aload_n 1, 1) := by
  show decode code 92 = _
  decide +kernel
theorem d0_93 (L : Nat) (xs : Nat → Int32) : decode (ax_code (mgT L xs) 0) 93 = .ok (.aload_n 0, 1) := by
  show decode code 93 = _
  decide +kernel
theorem d0_94 (L : Nat) (xs : Nat → Int32) : decode (ax_code (mgT L xs) 0) 94 = .ok (.iload 4, 2) := by
  show decode code 94 = _
  decide +kernel
theorem d0_96 (L : Nat) (xs : Nat → Int32) : decode (ax_code (mgT L xs) 0) 96 = .ok (.iconst 1, 1) := by
  show decode code 96 = _
  decide +kernel
theorem d0_97 (L : Nat) (xs : Nat → Int32) : decode (ax_code (mgT L xs) 0) 97 = .ok (.iadd, 1) := by
  show decode code 97 = _
  decide +kernel
theorem d0_98 (L : Nat) (xs : Nat → Int32) : decode (ax_code (mgT L xs) 0) 98 = .ok (.iaload, 1) := by
  show decode code 98 = _
  decide +kernel
theorem d0_99 (L : Nat) (xs : Nat → Int32) : decode (ax_code (mgT L xs) 0) 99 = .ok (.i2l, 1) := by
  show decode code 99 = _
  decide +kernel
theorem d0_100 (L : Nat) (xs : Nat → Int32) : decode (ax_code (mgT L xs) 0) 100 = .ok (.bipush 32, 2) := by
  show decode code 100 = _
  decide +kernel
theorem d0_102 (L : Nat) (xs : Nat → Int32) : decode (ax_code (mgT L xs) 0) 102 = .ok (.lshl, 1) := by
  show decode code 102 = _
  decide +kernel
theorem d0_103 (L : Nat) (xs : Nat → Int32) : decode (ax_code (mgT L xs) 0) 103 = .ok (.aload_n 0, 1) := by
  show decode code 103 = _
  decide +kernel
theorem d0_104 (L : Nat) (xs : Nat → Int32) : decode (ax_code (mgT L xs) 0) 104 = .ok (.iload 4, 2) := by
  show decode code 104 = _
  decide +kernel
theorem d0_106 (L : Nat) (xs : Nat → Int32) : decode (ax_code (mgT L xs) 0) 106 = .ok (.iconst 2, 1) := by
  show decode code 106 = _
  decide +kernel
theorem d0_107 (L : Nat) (xs : Nat → Int32) : decode (ax_code (mgT L xs) 0) 107 = .ok (.iadd, 1) := by
  show decode code 107 = _
  decide +kernel
theorem d0_108 (L : Nat) (xs : Nat → Int32) : decode (ax_code (mgT L xs) 0) 108 = .ok (.iaload, 1) := by
  show decode code 108 = _
  decide +kernel
theorem d0_109 (L : Nat) (xs : Nat → Int32) : decode (ax_code (mgT L xs) 0) 109 = .ok (.i2l, 1) := by
  show decode code 109 = _
  decide +kernel
theorem d0_110 (L : Nat) (xs : Nat → Int32) : decode (ax_code (mgT L xs) 0) 110 = .ok (.ldc2_w 27, 3) := by
  show decode code 110 = _
  decide +kernel
theorem d0_113 (L : Nat) (xs : Nat → Int32) : decode (ax_code (mgT L xs) 0) 113 = .ok (.land, 1) := by
  show decode code 113 = _
  decide +kernel
theorem d0_114 (L : Nat) (xs : Nat → Int32) : decode (ax_code (mgT L xs) 0) 114 = .ok (.lor, 1) := by
  show decode code 114 = _
  decide +kernel
theorem d0_115 (L : Nat) (xs : Nat → Int32) : decode (ax_code (mgT L xs) 0) 115 = .ok (.invokevirtual 29, 3) := by
  show decode code 115 = _
  decide +kernel
theorem d0_118 (L : Nat) (xs : Nat → Int32) : decode (ax_code (mgT L xs) 0) 118 = .ok (.aload_n 2, 1) := by
  show decode code 118 = _
  decide +kernel
theorem d0_119 (L : Nat) (xs : Nat → Int32) : decode (ax_code (mgT L xs) 0) 119 = .ok (.aload_n 0, 1) := by
  show decode code 119 = _
  decide +kernel
theorem d0_120 (L : Nat) (xs : Nat → Int32) : decode (ax_code (mgT L xs) 0) 120 = .ok (.iload 4, 2) := by
  show decode code 120 = _
  decide +kernel
theorem d0_122 (L : Nat) (xs : Nat → Int32) : decode (ax_code (mgT L xs) 0) 122 = .ok (.iconst 1, 1) := by
  show decode code 122 = _
  decide +kernel
theorem d0_123 (L : Nat) (xs : Nat → Int32) : decode (ax_code (mgT L xs) 0) 123 = .ok (.iadd, 1) := by
  show decode code 123 = _
  decide +kernel
theorem d0_124 (L : Nat) (xs : Nat → Int32) : decode (ax_code (mgT L xs) 0) 124 = .ok (.iaload, 1) := by
  show decode code 124 = _
  decide +kernel
theorem d0_125 (L : Nat) (xs : Nat → Int32) : decode (ax_code (mgT L xs) 0) 125 = .ok (.i2l, 1) := by
  show decode code 125 = _
  decide +kernel
theorem d0_126 (L : Nat) (xs : Nat → Int32) : decode (ax_code (mgT L xs) 0) 126 = .ok (.bipush 32, 2) := by
  show decode code 126 = _
  decide +kernel
theorem d0_128 (L : Nat) (xs : Nat → Int32) : decode (ax_code (mgT L xs) 0) 128 = .ok (.lshl, 1) := by
  show decode code 128 = _
  decide +kernel
theorem d0_129 (L : Nat) (xs : Nat → Int32) : decode (ax_code (mgT L xs) 0) 129 = .ok (.aload_n 0, 1) := by
  show decode code 129 = _
  decide +kernel
theorem d0_130 (L : Nat) (xs : Nat → Int32) : decode (ax_code (mgT L xs) 0) 130 = .ok (.iload 4, 2) := by
  show decode code 130 = _
  decide +kernel
theorem d0_132 (L : Nat) (xs : Nat → Int32) : decode (ax_code (mgT L xs) 0) 132 = .ok (.iconst 2, 1) := by
  show decode code 132 = _
  decide +kernel
theorem d0_133 (L : Nat) (xs : Nat → Int32) : decode (ax_code (mgT L xs) 0) 133 = .ok (.iadd, 1) := by
  show decode code 133 = _
  decide +kernel
theorem d0_134 (L : Nat) (xs : Nat → Int32) : decode (ax_code (mgT L xs) 0) 134 = .ok (.iaload, 1) := by
  show decode code 134 = _
  decide +kernel
theorem d0_135 (L : Nat) (xs : Nat → Int32) : decode (ax_code (mgT L xs) 0) 135 = .ok (.i2l, 1) := by
  show decode code 135 = _
  decide +kernel
theorem d0_136 (L : Nat) (xs : Nat → Int32) : decode (ax_code (mgT L xs) 0) 136 = .ok (.ldc2_w 27, 3) := by
  show decode code 136 = _
  decide +kernel
theorem d0_139 (L : Nat) (xs : Nat → Int32) : decode (ax_code (mgT L xs) 0) 139 = .ok (.land, 1) := by
  show decode code 139 = _
  decide +kernel
theorem d0_140 (L : Nat) (xs : Nat → Int32) : decode (ax_code (mgT L xs) 0) 140 = .ok (.lor, 1) := by
  show decode code 140 = _
  decide +kernel
theorem d0_141 (L : Nat) (xs : Nat → Int32) : decode (ax_code (mgT L xs) 0) 141 = .ok (.invokevirtual 33, 3) := by
  show decode code 141 = _
  decide +kernel
theorem d0_144 (L : Nat) (xs : Nat → Int32) : decode (ax_code (mgT L xs) 0) 144 = .ok (.if_icmp .eq 297, 3) := by
  show decode code 144 = _
  decide +kernel
theorem d0_149 (L : Nat) (xs : Nat → Int32) : decode (ax_code (mgT L xs) 0) 149 = .ok (.aload_n 1, 1) := by
  show decode code 149 = _
  decide +kernel
theorem d0_150 (L : Nat) (xs : Nat → Int32) : decode (ax_code (mgT L xs) 0) 150 = .ok (.invokevirtual 34, 3) := by
  show decode code 150 = _
  decide +kernel
theorem d0_153 (L : Nat) (xs : Nat → Int32) : decode (ax_code (mgT L xs) 0) 153 = .ok (.aload_n 2, 1) := by
  show decode code 153 = _
  decide +kernel
theorem d0_154 (L : Nat) (xs : Nat → Int32) : decode (ax_code (mgT L xs) 0) 154 = .ok (.invokevirtual 37, 3) := by
  show decode code 154 = _
  decide +kernel
theorem d0_157 (L : Nat) (xs : Nat → Int32) : decode (ax_code (mgT L xs) 0) 157 = .ok (.goto 284, 3) := by
  show decode code 157 = _
  decide +kernel
theorem d0_160 (L : Nat) (xs : Nat → Int32) : decode (ax_code (mgT L xs) 0) 160 = .ok (.aload_n 1, 1) := by
  show decode code 160 = _
  decide +kernel
theorem d0_161 (L : Nat) (xs : Nat → Int32) : decode (ax_code (mgT L xs) 0) 161 = .ok (.invokevirtual 38, 3) := by
  show decode code 161 = _
  decide +kernel
theorem d0_164 (L : Nat) (xs : Nat → Int32) : decode (ax_code (mgT L xs) 0) 164 = .ok (.aload_n 2, 1) := by
  show decode code 164 = _
  decide +kernel
theorem d0_165 (L : Nat) (xs : Nat → Int32) : decode (ax_code (mgT L xs) 0) 165 = .ok (.invokevirtual 42, 3) := by
  show decode code 165 = _
  decide +kernel
theorem d0_168 (L : Nat) (xs : Nat → Int32) : decode (ax_code (mgT L xs) 0) 168 = .ok (.if_icmp .eq 273, 3) := by
  show decode code 168 = _
  decide +kernel
theorem d0_173 (L : Nat) (xs : Nat → Int32) : decode (ax_code (mgT L xs) 0) 173 = .ok (.aload_n 1, 1) := by
  show decode code 173 = _
  decide +kernel
theorem d0_174 (L : Nat) (xs : Nat → Int32) : decode (ax_code (mgT L xs) 0) 174 = .ok (.aload_n 0, 1) := by
  show decode code 174 = _
  decide +kernel
theorem d0_175 (L : Nat) (xs : Nat → Int32) : decode (ax_code (mgT L xs) 0) 175 = .ok (.iload 4, 2) := by
  show decode code 175 = _
  decide +kernel
theorem d0_177 (L : Nat) (xs : Nat → Int32) : decode (ax_code (mgT L xs) 0) 177 = .ok (.iconst 1, 1) := by
  show decode code 177 = _
  decide +kernel
theorem d0_178 (L : Nat) (xs : Nat → Int32) : decode (ax_code (mgT L xs) 0) 178 = .ok (.iadd, 1) := by
  show decode code 178 = _
  decide +kernel
theorem d0_179 (L : Nat) (xs : Nat → Int32) : decode (ax_code (mgT L xs) 0) 179 = .ok (.iaload, 1) := by
  show decode code 179 = _
  decide +kernel
theorem d0_180 (L : Nat) (xs : Nat → Int32) : decode (ax_code (mgT L xs) 0) 180 = .ok (.aload_n 3, 1) := by
  show decode code 180 = _
  decide +kernel
theorem d0_181 (L : Nat) (xs : Nat → Int32) : decode (ax_code (mgT L xs) 0) 181 = .ok (.invokestatic 43, 3) := by
  show decode code 181 = _
  decide +kernel
theorem d0_184 (L : Nat) (xs : Nat → Int32) : decode (ax_code (mgT L xs) 0) 184 = .ok (.istore 5, 2) := by
  show decode code 184 = _
  decide +kernel
theorem d0_186 (L : Nat) (xs : Nat → Int32) : decode (ax_code (mgT L xs) 0) 186 = .ok (.aload_n 2, 1) := by
  show decode code 186 = _
  decide +kernel
theorem d0_187 (L : Nat) (xs : Nat → Int32) : decode (ax_code (mgT L xs) 0) 187 = .ok (.aload_n 0, 1) := by
  show decode code 187 = _
  decide +kernel
theorem d0_188 (L : Nat) (xs : Nat → Int32) : decode (ax_code (mgT L xs) 0) 188 = .ok (.iload 4, 2) := by
  show decode code 188 = _
  decide +kernel
theorem d0_190 (L : Nat) (xs : Nat → Int32) : decode (ax_code (mgT L xs) 0) 190 = .ok (.iconst 1, 1) := by
  show decode code 190 = _
  decide +kernel
theorem d0_191 (L : Nat) (xs : Nat → Int32) : decode (ax_code (mgT L xs) 0) 191 = .ok (.iadd, 1) := by
  show decode code 191 = _
  decide +kernel
theorem d0_192 (L : Nat) (xs : Nat → Int32) : decode (ax_code (mgT L xs) 0) 192 = .ok (.iaload, 1) := by
  show decode code 192 = _
  decide +kernel
theorem d0_193 (L : Nat) (xs : Nat → Int32) : decode (ax_code (mgT L xs) 0) 193 = .ok (.invokevirtual 48, 3) := by
  show decode code 193 = _
  decide +kernel
theorem d0_196 (L : Nat) (xs : Nat → Int32) : decode (ax_code (mgT L xs) 0) 196 = .ok (.istore 6, 2) := by
  show decode code 196 = _
  decide +kernel
theorem d0_198 (L : Nat) (xs : Nat → Int32) : decode (ax_code (mgT L xs) 0) 198 = .ok (.aload_n 2, 1) := by
  show decode code 198 = _
  decide +kernel
theorem d0_199 (L : Nat) (xs : Nat → Int32) : decode (ax_code (mgT L xs) 0) 199 = .ok (.invokevirtual 49, 3) := by
  show decode code 199 = _
  decide +kernel
theorem d0_202 (L : Nat) (xs : Nat → Int32) : decode (ax_code (mgT L xs) 0) 202 = .ok (.iload 5, 2) := by
  show decode code 202 = _
  decide +kernel
theorem d0_204 (L : Nat) (xs : Nat → Int32) : decode (ax_code (mgT L xs) 0) 204 = .ok (.if_icmp .eq 5, 3) := by
  show decode code 204 = _
  decide +kernel
theorem d0_209 (L : Nat) (xs : Nat → Int32) : decode (ax_code (mgT L xs) 0) 209 = .ok (.iload 5, 2) := by
  show decode code 209 = _
  decide +kernel
theorem d0_211 (L : Nat) (xs : Nat → Int32) : decode (ax_code (mgT L xs) 0) 211 = .ok (.ifCond .ne 15, 3) := by
  show decode code 211 = _
  decide +kernel
theorem d0_226 (L : Nat) (xs : Nat → Int32) : decode (ax_code (mgT L xs) 0) 226 = .ok (.goto 215, 3) := by
  show decode code 226 = _
  decide +kernel
theorem d0_229 (L : Nat) (xs : Nat → Int32) : decode (ax_code (mgT L xs) 0) 229 = .ok (.aload_n 1, 1) := by
  show decode code 229 = _
  decide +kernel
theorem d0_230 (L : Nat) (xs : Nat → Int32) : decode (ax_code (mgT L xs) 0) 230 = .ok (.aload_n 0, 1) := by
  show decode code 230 = _
  decide +kernel
theorem d0_231 (L : Nat) (xs : Nat → Int32) : decode (ax_code (mgT L xs) 0) 231 = .ok (.iload 4, 2) := by
  show decode code 231 = _
  decide +kernel
theorem d0_233 (L : Nat) (xs : Nat → Int32) : decode (ax_code (mgT L xs) 0) 233 = .ok (.iconst 1, 1) := by
  show decode code 233 = _
  decide +kernel
theorem d0_234 (L : Nat) (xs : Nat → Int32) : decode (ax_code (mgT L xs) 0) 234 = .ok (.iadd, 1) := by
  show decode code 234 = _
  decide +kernel
theorem d0_235 (L : Nat) (xs : Nat → Int32) : decode (ax_code (mgT L xs) 0) 235 = .ok (.iaload, 1) := by
  show decode code 235 = _
  decide +kernel
theorem d0_236 (L : Nat) (xs : Nat → Int32) : decode (ax_code (mgT L xs) 0) 236 = .ok (.invokevirtual 52, 3) := by
  show decode code 236 = _
  decide +kernel
theorem d0_239 (L : Nat) (xs : Nat → Int32) : decode (ax_code (mgT L xs) 0) 239 = .ok (.aload_n 2, 1) := by
  show decode code 239 = _
  decide +kernel
theorem d0_240 (L : Nat) (xs : Nat → Int32) : decode (ax_code (mgT L xs) 0) 240 = .ok (.aload_n 0, 1) := by
  show decode code 240 = _
  decide +kernel
theorem d0_241 (L : Nat) (xs : Nat → Int32) : decode (ax_code (mgT L xs) 0) 241 = .ok (.iload 4, 2) := by
  show decode code 241 = _
  decide +kernel
theorem d0_243 (L : Nat) (xs : Nat → Int32) : decode (ax_code (mgT L xs) 0) 243 = .ok (.iconst 1, 1) := by
  show decode code 243 = _
  decide +kernel
theorem d0_244 (L : Nat) (xs : Nat → Int32) : decode (ax_code (mgT L xs) 0) 244 = .ok (.iadd, 1) := by
  show decode code 244 = _
  decide +kernel
theorem d0_245 (L : Nat) (xs : Nat → Int32) : decode (ax_code (mgT L xs) 0) 245 = .ok (.iaload, 1) := by
  show decode code 245 = _
  decide +kernel
theorem d0_246 (L : Nat) (xs : Nat → Int32) : decode (ax_code (mgT L xs) 0) 246 = .ok (.invokevirtual 56, 3) := by
  show decode code 246 = _
  decide +kernel
theorem d0_249 (L : Nat) (xs : Nat → Int32) : decode (ax_code (mgT L xs) 0) 249 = .ok (.if_icmp .eq 192, 3) := by
  show decode code 249 = _
  decide +kernel
theorem d0_254 (L : Nat) (xs : Nat → Int32) : decode (ax_code (mgT L xs) 0) 254 = .ok (.aload_n 1, 1) := by
  show decode code 254 = _
  decide +kernel
theorem d0_255 (L : Nat) (xs : Nat → Int32) : decode (ax_code (mgT L xs) 0) 255 = .ok (.aload_n 0, 1) := by
  show decode code 255 = _
  decide +kernel
theorem d0_256 (L : Nat) (xs : Nat → Int32) : decode (ax_code (mgT L xs) 0) 256 = .ok (.iload 4, 2) := by
  show decode code 256 = _
  decide +kernel
theorem d0_258 (L : Nat) (xs : Nat → Int32) : decode (ax_code (mgT L xs) 0) 258 = .ok (.iconst 1, 1) := by
  show decode code 258 = _
  decide +kernel
theorem d0_259 (L : Nat) (xs : Nat → Int32) : decode (ax_code (mgT L xs) 0) 259 = .ok (.iadd, 1) := by
  show decode code 259 = _
  decide +kernel
theorem d0_260 (L : Nat) (xs : Nat → Int32) : decode (ax_code (mgT L xs) 0) 260 = .ok (.iaload, 1) := by
  show decode code 260 = _
  decide +kernel
theorem d0_261 (L : Nat) (xs : Nat → Int32) : decode (ax_code (mgT L xs) 0) 261 = .ok (.aload_n 3, 1) := by
  show decode code 261 = _
  decide +kernel
theorem d0_262 (L : Nat) (xs : Nat → Int32) : decode (ax_code (mgT L xs) 0) 262 = .ok (.invokestatic 57, 3) := by
  show decode code 262 = _
  decide +kernel
theorem d0_265 (L : Nat) (xs : Nat → Int32) : decode (ax_code (mgT L xs) 0) 265 = .ok (.istore 5, 2) := by
  show decode code 265 = _
  decide +kernel
theorem d0_267 (L : Nat) (xs : Nat → Int32) : decode (ax_code (mgT L xs) 0) 267 = .ok (.aload_n 2, 1) := by
  show decode code 267 = _
  decide +kernel
theorem d0_268 (L : Nat) (xs : Nat → Int32) : decode (ax_code (mgT L xs) 0) 268 = .ok (.aload_n 0, 1) := by
  show decode code 268 = _
  decide +kernel
theorem d0_269 (L : Nat) (xs : Nat → Int32) : decode (ax_code (mgT L xs) 0) 269 = .ok (.iload 4, 2) := by
  show decode code 269 = _
  decide +kernel
theorem d0_271 (L : Nat) (xs : Nat → Int32) : decode (ax_code (mgT L xs) 0) 271 = .ok (.iconst 1, 1) := by
  show decode code 271 = _
  decide +kernel
theorem d0_272 (L : Nat) (xs : Nat → Int32) : decode (ax_code (mgT L xs) 0) 272 = .ok (.iadd, 1) := by
  show decode code 272 = _
  decide +kernel
theorem d0_273 (L : Nat) (xs : Nat → Int32) : decode (ax_code (mgT L xs) 0) 273 = .ok (.iaload, 1) := by
  show decode code 273 = _
  decide +kernel
theorem d0_274 (L : Nat) (xs : Nat → Int32) : decode (ax_code (mgT L xs) 0) 274 = .ok (.invokevirtual 59, 3) := by
  show decode code 274 = _
  decide +kernel
theorem d0_277 (L : Nat) (xs : Nat → Int32) : decode (ax_code (mgT L xs) 0) 277 = .ok (.istore 6, 2) := by
  show decode code 277 = _
  decide +kernel
theorem d0_279 (L : Nat) (xs : Nat → Int32) : decode (ax_code (mgT L xs) 0) 279 = .ok (.aload_n 2, 1) := by
  show decode code 279 = _
  decide +kernel
theorem d0_280 (L : Nat) (xs : Nat → Int32) : decode (ax_code (mgT L xs) 0) 280 = .ok (.invokevirtual 49, 3) := by
  show decode code 280 = _
  decide +kernel
theorem d0_283 (L : Nat) (xs : Nat → Int32) : decode (ax_code (mgT L xs) 0) 283 = .ok (.iload 5, 2) := by
  show decode code 283 = _
  decide +kernel
theorem d0_285 (L : Nat) (xs : Nat → Int32) : decode (ax_code (mgT L xs) 0) 285 = .ok (.if_icmp .eq 5, 3) := by
  show decode code 285 = _
  decide +kernel
theorem d0_290 (L : Nat) (xs : Nat → Int32) : decode (ax_code (mgT L xs) 0) 290 = .ok (.iload 5, 2) := by
  show decode code 290 = _
  decide +kernel
theorem d0_292 (L : Nat) (xs : Nat → Int32) : decode (ax_code (mgT L xs) 0) 292 = .ok (.ifCond .ne 15, 3) := by
  show decode code 292 = _
  decide +kernel
theorem d0_307 (L : Nat) (xs : Nat → Int32) : decode (ax_code (mgT L xs) 0) 307 = .ok (.goto 134, 3) := by
  show decode code 307 = _
  decide +kernel
theorem d0_310 (L : Nat) (xs : Nat → Int32) : decode (ax_code (mgT L xs) 0) 310 = .ok (.aload_n 1, 1) := by
  show decode code 310 = _
  decide +kernel
theorem d0_311 (L : Nat) (xs : Nat → Int32) : decode (ax_code (mgT L xs) 0) 311 = .ok (.aload_n 0, 1) := by
  show decode code 311 = _
  decide +kernel
theorem d0_312 (L : Nat) (xs : Nat → Int32) : decode (ax_code (mgT L xs) 0) 312 = .ok (.iload 4, 2) := by
  show decode code 312 = _
  decide +kernel
theorem d0_314 (L : Nat) (xs : Nat → Int32) : decode (ax_code (mgT L xs) 0) 314 = .ok (.iconst 1, 1) := by
  show decode code 314 = _
  decide +kernel
theorem d0_315 (L : Nat) (xs : Nat → Int32) : decode (ax_code (mgT L xs) 0) 315 = .ok (.iadd, 1) := by
  show decode code 315 = _
  decide +kernel
theorem d0_316 (L : Nat) (xs : Nat → Int32) : decode (ax_code (mgT L xs) 0) 316 = .ok (.iaload, 1) := by
  show decode code 316 = _
  decide +kernel
theorem d0_317 (L : Nat) (xs : Nat → Int32) : decode (ax_code (mgT L xs) 0) 317 = .ok (.invokevirtual 60, 3) := by
  show decode code 317 = _
  decide +kernel
theorem d0_320 (L : Nat) (xs : Nat → Int32) : decode (ax_code (mgT L xs) 0) 320 = .ok (.aload_n 2, 1) := by
  show decode code 320 = _
  decide +kernel
theorem d0_321 (L : Nat) (xs : Nat → Int32) : decode (ax_code (mgT L xs) 0) 321 = .ok (.aload_n 0, 1) := by
  show decode code 321 = _
  decide +kernel
theorem d0_322 (L : Nat) (xs : Nat → Int32) : decode (ax_code (mgT L xs) 0) 322 = .ok (.iload 4, 2) := by
  show decode code 322 = _
  decide +kernel
theorem d0_324 (L : Nat) (xs : Nat → Int32) : decode (ax_code (mgT L xs) 0) 324 = .ok (.iconst 1, 1) := by
  show decode code 324 = _
  decide +kernel
theorem d0_325 (L : Nat) (xs : Nat → Int32) : decode (ax_code (mgT L xs) 0) 325 = .ok (.iadd, 1) := by
  show decode code 325 = _
  decide +kernel
theorem d0_326 (L : Nat) (xs : Nat → Int32) : decode (ax_code (mgT L xs) 0) 326 = .ok (.iaload, 1) := by
  show decode code 326 = _
  decide +kernel
theorem d0_327 (L : Nat) (xs : Nat → Int32) : decode (ax_code (mgT L xs) 0) 327 = .ok (.invokevirtual 63, 3) := by
  show decode code 327 = _
  decide +kernel
theorem d0_330 (L : Nat) (xs : Nat → Int32) : decode (ax_code (mgT L xs) 0) 330 = .ok (.if_icmp .eq 111, 3) := by
  show decode code 330 = _
  decide +kernel
theorem d0_335 (L : Nat) (xs : Nat → Int32) : decode (ax_code (mgT L xs) 0) 335 = .ok (.aload_n 1, 1) := by
  show decode code 335 = _
  decide +kernel
theorem d0_336 (L : Nat) (xs : Nat → Int32) : decode (ax_code (mgT L xs) 0) 336 = .ok (.aload_n 0, 1) := by
  show decode code 336 = _
  decide +kernel
theorem d0_337 (L : Nat) (xs : Nat → Int32) : decode (ax_code (mgT L xs) 0) 337 = .ok (.iload 4, 2) := by
  show decode code 337 = _
  decide +kernel
theorem d0_339 (L : Nat) (xs : Nat → Int32) : decode (ax_code (mgT L xs) 0) 339 = .ok (.iconst 1, 1) := by
  show decode code 339 = _
  decide +kernel
theorem d0_340 (L : Nat) (xs : Nat → Int32) : decode (ax_code (mgT L xs) 0) 340 = .ok (.iadd, 1) := by
  show decode code 340 = _
  decide +kernel
theorem d0_341 (L : Nat) (xs : Nat → Int32) : decode (ax_code (mgT L xs) 0) 341 = .ok (.iaload, 1) := by
  show decode code 341 = _
  decide +kernel
theorem d0_342 (L : Nat) (xs : Nat → Int32) : decode (ax_code (mgT L xs) 0) 342 = .ok (.invokevirtual 64, 3) := by
  show decode code 342 = _
  decide +kernel
theorem d0_345 (L : Nat) (xs : Nat → Int32) : decode (ax_code (mgT L xs) 0) 345 = .ok (.aload_n 2, 1) := by
  show decode code 345 = _
  decide +kernel
theorem d0_346 (L : Nat) (xs : Nat → Int32) : decode (ax_code (mgT L xs) 0) 346 = .ok (.aload_n 0, 1) := by
  show decode code 346 = _
  decide +kernel
theorem d0_347 (L : Nat) (xs : Nat → Int32) : decode (ax_code (mgT L xs) 0) 347 = .ok (.iload 4, 2) := by
  show decode code 347 = _
  decide +kernel
theorem d0_349 (L : Nat) (xs : Nat → Int32) : decode (ax_code (mgT L xs) 0) 349 = .ok (.iconst 1, 1) := by
  show decode code 349 = _
  decide +kernel
theorem d0_350 (L : Nat) (xs : Nat → Int32) : decode (ax_code (mgT L xs) 0) 350 = .ok (.iadd, 1) := by
  show decode code 350 = _
  decide +kernel
theorem d0_351 (L : Nat) (xs : Nat → Int32) : decode (ax_code (mgT L xs) 0) 351 = .ok (.iaload, 1) := by
  show decode code 351 = _
  decide +kernel
theorem d0_352 (L : Nat) (xs : Nat → Int32) : decode (ax_code (mgT L xs) 0) 352 = .ok (.invokevirtual 67, 3) := by
  show decode code 352 = _
  decide +kernel
theorem d0_355 (L : Nat) (xs : Nat → Int32) : decode (ax_code (mgT L xs) 0) 355 = .ok (.if_icmp .eq 86, 3) := by
  show decode code 355 = _
  decide +kernel
theorem d0_360 (L : Nat) (xs : Nat → Int32) : decode (ax_code (mgT L xs) 0) 360 = .ok (.aload_n 1, 1) := by
  show decode code 360 = _
  decide +kernel
theorem d0_361 (L : Nat) (xs : Nat → Int32) : decode (ax_code (mgT L xs) 0) 361 = .ok (.aload_n 0, 1) := by
  show decode code 361 = _
  decide +kernel
theorem d0_362 (L : Nat) (xs : Nat → Int32) : decode (ax_code (mgT L xs) 0) 362 = .ok (.iload 4, 2) := by
  show decode code 362 = _
  decide +kernel
theorem d0_364 (L : Nat) (xs : Nat → Int32) : decode (ax_code (mgT L xs) 0) 364 = .ok (.iconst 1, 1) := by
  show decode code 364 = _
  decide +kernel
theorem d0_365 (L : Nat) (xs : Nat → Int32) : decode (ax_code (mgT L xs) 0) 365 = .ok (.iadd, 1) := by
  show decode code 365 = _
  decide +kernel
theorem d0_366 (L : Nat) (xs : Nat → Int32) : decode (ax_code (mgT L xs) 0) 366 = .ok (.iaload, 1) := by
  show decode code 366 = _
  decide +kernel
theorem d0_367 (L : Nat) (xs : Nat → Int32) : decode (ax_code (mgT L xs) 0) 367 = .ok (.aload_n 3, 1) := by
  show decode code 367 = _
  decide +kernel
theorem d0_368 (L : Nat) (xs : Nat → Int32) : decode (ax_code (mgT L xs) 0) 368 = .ok (.invokestatic 68, 3) := by
  show decode code 368 = _
  decide +kernel
theorem d0_371 (L : Nat) (xs : Nat → Int32) : decode (ax_code (mgT L xs) 0) 371 = .ok (.istore 5, 2) := by
  show decode code 371 = _
  decide +kernel
theorem d0_373 (L : Nat) (xs : Nat → Int32) : decode (ax_code (mgT L xs) 0) 373 = .ok (.aload_n 2, 1) := by
  show decode code 373 = _
  decide +kernel
theorem d0_374 (L : Nat) (xs : Nat → Int32) : decode (ax_code (mgT L xs) 0) 374 = .ok (.aload_n 0, 1) := by
  show decode code 374 = _
  decide +kernel
theorem d0_375 (L : Nat) (xs : Nat → Int32) : decode (ax_code (mgT L xs) 0) 375 = .ok (.iload 4, 2) := by
  show decode code 375 = _
  decide +kernel
theorem d0_377 (L : Nat) (xs : Nat → Int32) : decode (ax_code (mgT L xs) 0) 377 = .ok (.iconst 1, 1) := by
  show decode code 377 = _
  decide +kernel
theorem d0_378 (L : Nat) (xs : Nat → Int32) : decode (ax_code (mgT L xs) 0) 378 = .ok (.iadd, 1) := by
  show decode code 378 = _
  decide +kernel
theorem d0_379 (L : Nat) (xs : Nat → Int32) : decode (ax_code (mgT L xs) 0) 379 = .ok (.iaload, 1) := by
  show decode code 379 = _
  decide +kernel
theorem d0_380 (L : Nat) (xs : Nat → Int32) : decode (ax_code (mgT L xs) 0) 380 = .ok (.invokevirtual 70, 3) := by
  show decode code 380 = _
  decide +kernel
theorem d0_383 (L : Nat) (xs : Nat → Int32) : decode (ax_code (mgT L xs) 0) 383 = .ok (.istore 6, 2) := by
  show decode code 383 = _
  decide +kernel
theorem d0_385 (L : Nat) (xs : Nat → Int32) : decode (ax_code (mgT L xs) 0) 385 = .ok (.aload_n 2, 1) := by
  show decode code 385 = _
  decide +kernel
theorem d0_386 (L : Nat) (xs : Nat → Int32) : decode (ax_code (mgT L xs) 0) 386 = .ok (.invokevirtual 49, 3) := by
  show decode code 386 = _
  decide +kernel
theorem d0_389 (L : Nat) (xs : Nat → Int32) : decode (ax_code (mgT L xs) 0) 389 = .ok (.iload 5, 2) := by
  show decode code 389 = _
  decide +kernel
theorem d0_391 (L : Nat) (xs : Nat → Int32) : decode (ax_code (mgT L xs) 0) 391 = .ok (.if_icmp .eq 5, 3) := by
  show decode code 391 = _
  decide +kernel
theorem d0_396 (L : Nat) (xs : Nat → Int32) : decode (ax_code (mgT L xs) 0) 396 = .ok (.iload 5, 2) := by
  show decode code 396 = _
  decide +kernel
theorem d0_398 (L : Nat) (xs : Nat → Int32) : decode (ax_code (mgT L xs) 0) 398 = .ok (.ifCond .ne 15, 3) := by
  show decode code 398 = _
  decide +kernel
theorem d0_413 (L : Nat) (xs : Nat → Int32) : decode (ax_code (mgT L xs) 0) 413 = .ok (.goto 28, 3) := by
  show decode code 413 = _
  decide +kernel
theorem d0_416 (L : Nat) (xs : Nat → Int32) : decode (ax_code (mgT L xs) 0) 416 = .ok (.aload_n 1, 1) := by
  show decode code 416 = _
  decide +kernel
theorem d0_417 (L : Nat) (xs : Nat → Int32) : decode (ax_code (mgT L xs) 0) 417 = .ok (.aload_n 0, 1) := by
  show decode code 417 = _
  decide +kernel
theorem d0_418 (L : Nat) (xs : Nat → Int32) : decode (ax_code (mgT L xs) 0) 418 = .ok (.iload 4, 2) := by
  show decode code 418 = _
  decide +kernel
theorem d0_420 (L : Nat) (xs : Nat → Int32) : decode (ax_code (mgT L xs) 0) 420 = .ok (.iconst 1, 1) := by
  show decode code 420 = _
  decide +kernel
theorem d0_421 (L : Nat) (xs : Nat → Int32) : decode (ax_code (mgT L xs) 0) 421 = .ok (.iadd, 1) := by
  show decode code 421 = _
  decide +kernel
theorem d0_422 (L : Nat) (xs : Nat → Int32) : decode (ax_code (mgT L xs) 0) 422 = .ok (.iaload, 1) := by
  show decode code 422 = _
  decide +kernel
theorem d0_423 (L : Nat) (xs : Nat → Int32) : decode (ax_code (mgT L xs) 0) 423 = .ok (.invokevirtual 71, 3) := by
  show decode code 423 = _
  decide +kernel
theorem d0_426 (L : Nat) (xs : Nat → Int32) : decode (ax_code (mgT L xs) 0) 426 = .ok (.aload_n 2, 1) := by
  show decode code 426 = _
  decide +kernel
theorem d0_427 (L : Nat) (xs : Nat → Int32) : decode (ax_code (mgT L xs) 0) 427 = .ok (.aload_n 0, 1) := by
  show decode code 427 = _
  decide +kernel
theorem d0_428 (L : Nat) (xs : Nat → Int32) : decode (ax_code (mgT L xs) 0) 428 = .ok (.iload 4, 2) := by
  show decode code 428 = _
  decide +kernel
theorem d0_430 (L : Nat) (xs : Nat → Int32) : decode (ax_code (mgT L xs) 0) 430 = .ok (.iconst 1, 1) := by
  show decode code 430 = _
  decide +kernel
theorem d0_431 (L : Nat) (xs : Nat → Int32) : decode (ax_code (mgT L xs) 0) 431 = .ok (.iadd, 1) := by
  show decode code 431 = _
  decide +kernel
theorem d0_432 (L : Nat) (xs : Nat → Int32) : decode (ax_code (mgT L xs) 0) 432 = .ok (.iaload, 1) := by
  show decode code 432 = _
  decide +kernel
theorem d0_433 (L : Nat) (xs : Nat → Int32) : decode (ax_code (mgT L xs) 0) 433 = .ok (.invokevirtual 74, 3) := by
  show decode code 433 = _
  decide +kernel
theorem d0_436 (L : Nat) (xs : Nat → Int32) : decode (ax_code (mgT L xs) 0) 436 = .ok (.if_icmp .eq 5, 3) := by
  show decode code 436 = _
  decide +kernel
theorem d0_441 (L : Nat) (xs : Nat → Int32) : decode (ax_code (mgT L xs) 0) 441 = .ok (.iinc 4 3, 3) := by
  show decode code 441 = _
  decide +kernel
theorem d0_444 (L : Nat) (xs : Nat → Int32) : decode (ax_code (mgT L xs) 0) 444 = .ok (.goto (-421), 3) := by
  show decode code 444 = _
  decide +kernel
theorem d0_447 (L : Nat) (xs : Nat → Int32) : decode (ax_code (mgT L xs) 0) 447 = .ok (.iconst 1, 1) := by
  show decode code 447 = _
  decide +kernel
theorem d0_448 (L : Nat) (xs : Nat → Int32) : decode (ax_code (mgT L xs) 0) 448 = .ok (.ireturn, 1) := by
  show decode code 448 = _
  decide +kernel
theorem d1_0 (L : Nat) (xs : Nat → Int32) : decode (ax_code (mgT L xs) 1) 0 = .ok (.aload_n 2, 1) := by
  show decode method_3_code 0 = _
  decide +kernel
theorem d1_1 (L : Nat) (xs : Nat → Int32) : decode (ax_code (mgT L xs) 1) 1 = .ok (.iconst 0, 1) := by
  show decode method_3_code 1 = _
  decide +kernel
theorem d1_2 (L : Nat) (xs : Nat → Int32) : decode (ax_code (mgT L xs) 1) 2 = .ok (.aload_n 0, 1) := by
  show decode method_3_code 2 = _
  decide +kernel
theorem d1_3 (L : Nat) (xs : Nat → Int32) : decode (ax_code (mgT L xs) 1) 3 = .ok (.iload_n 1, 1) := by
  show decode method_3_code 3 = _
  decide +kernel
theorem d1_4 (L : Nat) (xs : Nat → Int32) : decode (ax_code (mgT L xs) 1) 4 = .ok (.invokevirtual 7, 3) := by
  show decode method_3_code 4 = _
  decide +kernel
theorem d1_12 (L : Nat) (xs : Nat → Int32) : decode (ax_code (mgT L xs) 1) 12 = .ok (.astore_n 3, 1) := by
  show decode method_3_code 12 = _
  decide +kernel
theorem d1_13 (L : Nat) (xs : Nat → Int32) : decode (ax_code (mgT L xs) 1) 13 = .ok (.iconst 1, 1) := by
  show decode method_3_code 13 = _
  decide +kernel
theorem d1_14 (L : Nat) (xs : Nat → Int32) : decode (ax_code (mgT L xs) 1) 14 = .ok (.ireturn, 1) := by
  show decode method_3_code 14 = _
  decide +kernel
theorem d2_0 (L : Nat) (xs : Nat → Int32) : decode (ax_code (mgT L xs) 2) 0 = .ok (.aload_n 2, 1) := by
  show decode method_4_code 0 = _
  decide +kernel
theorem d2_1 (L : Nat) (xs : Nat → Int32) : decode (ax_code (mgT L xs) 2) 1 = .ok (.iconst 0, 1) := by
  show decode method_4_code 1 = _
  decide +kernel
theorem d2_2 (L : Nat) (xs : Nat → Int32) : decode (ax_code (mgT L xs) 2) 2 = .ok (.aload_n 0, 1) := by
  show decode method_4_code 2 = _
  decide +kernel
theorem d2_3 (L : Nat) (xs : Nat → Int32) : decode (ax_code (mgT L xs) 2) 3 = .ok (.iload_n 1, 1) := by
  show decode method_4_code 3 = _
  decide +kernel
theorem d2_4 (L : Nat) (xs : Nat → Int32) : decode (ax_code (mgT L xs) 2) 4 = .ok (.invokevirtual 17, 3) := by
  show decode method_4_code 4 = _
  decide +kernel
theorem d2_12 (L : Nat) (xs : Nat → Int32) : decode (ax_code (mgT L xs) 2) 12 = .ok (.astore_n 3, 1) := by
  show decode method_4_code 12 = _
  decide +kernel
theorem d2_13 (L : Nat) (xs : Nat → Int32) : decode (ax_code (mgT L xs) 2) 13 = .ok (.iconst 1, 1) := by
  show decode method_4_code 13 = _
  decide +kernel
theorem d2_14 (L : Nat) (xs : Nat → Int32) : decode (ax_code (mgT L xs) 2) 14 = .ok (.ireturn, 1) := by
  show decode method_4_code 14 = _
  decide +kernel
theorem d3_0 (L : Nat) (xs : Nat → Int32) : decode (ax_code (mgT L xs) 3) 0 = .ok (.aload_n 2, 1) := by
  show decode method_5_code 0 = _
  decide +kernel
theorem d3_1 (L : Nat) (xs : Nat → Int32) : decode (ax_code (mgT L xs) 3) 1 = .ok (.iconst 0, 1) := by
  show decode method_5_code 1 = _
  decide +kernel
theorem d3_2 (L : Nat) (xs : Nat → Int32) : decode (ax_code (mgT L xs) 3) 2 = .ok (.aload_n 0, 1) := by
  show decode method_5_code 2 = _
  decide +kernel
theorem d3_3 (L : Nat) (xs : Nat → Int32) : decode (ax_code (mgT L xs) 3) 3 = .ok (.iload_n 1, 1) := by
  show decode method_5_code 3 = _
  decide +kernel
theorem d3_4 (L : Nat) (xs : Nat → Int32) : decode (ax_code (mgT L xs) 3) 4 = .ok (.invokevirtual 20, 3) := by
  show decode method_5_code 4 = _
  decide +kernel
theorem d3_12 (L : Nat) (xs : Nat → Int32) : decode (ax_code (mgT L xs) 3) 12 = .ok (.astore_n 3, 1) := by
  show decode method_5_code 12 = _
  decide +kernel
theorem d3_13 (L : Nat) (xs : Nat → Int32) : decode (ax_code (mgT L xs) 3) 13 = .ok (.iconst 1, 1) := by
  show decode method_5_code 13 = _
  decide +kernel
theorem d3_14 (L : Nat) (xs : Nat → Int32) : decode (ax_code (mgT L xs) 3) 14 = .ok (.ireturn, 1) := by
  show decode method_5_code 14 = _
  decide +kernel
theorem d13_0 (L : Nat) (xs : Nat → Int32) : decode (ax_code (mgT L xs) 13) 0 = .ok (.iconst 0, 1) := by
  show decode prog_1_method_2_code 0 = _
  decide +kernel
theorem d13_1 (L : Nat) (xs : Nat → Int32) : decode (ax_code (mgT L xs) 13) 1 = .ok (.istore_n 3, 1) := by
  show decode prog_1_method_2_code 1 = _
  decide +kernel
theorem d13_2 (L : Nat) (xs : Nat → Int32) : decode (ax_code (mgT L xs) 13) 2 = .ok (.bipush 56, 2) := by
  show decode prog_1_method_2_code 2 = _
  decide +kernel
theorem d13_4 (L : Nat) (xs : Nat → Int32) : decode (ax_code (mgT L xs) 13) 4 = .ok (.istore 4, 2) := by
  show decode prog_1_method_2_code 4 = _
  decide +kernel
theorem d13_6 (L : Nat) (xs : Nat → Int32) : decode (ax_code (mgT L xs) 13) 6 = .ok (.iload 4, 2) := by
  show decode prog_1_method_2_code 6 = _
  decide +kernel
theorem d13_8 (L : Nat) (xs : Nat → Int32) : decode (ax_code (mgT L xs) 13) 8 = .ok (.ifCond .lt 41, 3) := by
  show decode prog_1_method_2_code 8 = _
  decide +kernel
theorem d13_11 (L : Nat) (xs : Nat → Int32) : decode (ax_code (mgT L xs) 13) 11 = .ok (.lload_n 1, 1) := by
  show decode prog_1_method_2_code 11 = _
  decide +kernel
theorem d13_12 (L : Nat) (xs : Nat → Int32) : decode (ax_code (mgT L xs) 13) 12 = .ok (.iload 4, 2) := by
  show decode prog_1_method_2_code 12 = _
  decide +kernel
theorem d13_14 (L : Nat) (xs : Nat → Int32) : decode (ax_code (mgT L xs) 13) 14 = .ok (.invokestatic 43, 3) := by
  show decode prog_1_method_2_code 14 = _
  decide +kernel
theorem d13_17 (L : Nat) (xs : Nat → Int32) : decode (ax_code (mgT L xs) 13) 17 = .ok (.istore 5, 2) := by
  show decode prog_1_method_2_code 17 = _
  decide +kernel
theorem d13_19 (L : Nat) (xs : Nat → Int32) : decode (ax_code (mgT L xs) 13) 19 = .ok (.iload 5, 2) := by
  show decode prog_1_method_2_code 19 = _
  decide +kernel
theorem d13_21 (L : Nat) (xs : Nat → Int32) : decode (ax_code (mgT L xs) 13) 21 = .ok (.ifCond .eq 22, 3) := by
  show decode prog_1_method_2_code 21 = _
  decide +kernel
theorem d13_24 (L : Nat) (xs : Nat → Int32) : decode (ax_code (mgT L xs) 13) 24 = .ok (.iload 5, 2) := by
  show decode prog_1_method_2_code 24 = _
  decide +kernel
theorem d13_26 (L : Nat) (xs : Nat → Int32) : decode (ax_code (mgT L xs) 13) 26 = .ok (.bipush 32, 2) := by
  show decode prog_1_method_2_code 26 = _
  decide +kernel
theorem d13_28 (L : Nat) (xs : Nat → Int32) : decode (ax_code (mgT L xs) 13) 28 = .ok (.if_icmp .lt 10, 3) := by
  show decode prog_1_method_2_code 28 = _
  decide +kernel
theorem d13_31 (L : Nat) (xs : Nat → Int32) : decode (ax_code (mgT L xs) 13) 31 = .ok (.iload 5, 2) := by
  show decode prog_1_method_2_code 31 = _
  decide +kernel
theorem d13_33 (L : Nat) (xs : Nat → Int32) : decode (ax_code (mgT L xs) 13) 33 = .ok (.bipush 126, 2) := by
  show decode prog_1_method_2_code 33 = _
  decide +kernel
theorem d13_35 (L : Nat) (xs : Nat → Int32) : decode (ax_code (mgT L xs) 13) 35 = .ok (.if_icmp .le 5, 3) := by
  show decode prog_1_method_2_code 35 = _
  decide +kernel
theorem d13_38 (L : Nat) (xs : Nat → Int32) : decode (ax_code (mgT L xs) 13) 38 = .ok (.iconst 0, 1) := by
  show decode prog_1_method_2_code 38 = _
  decide +kernel
theorem d13_39 (L : Nat) (xs : Nat → Int32) : decode (ax_code (mgT L xs) 13) 39 = .ok (.ireturn, 1) := by
  show decode prog_1_method_2_code 39 = _
  decide +kernel
theorem d13_40 (L : Nat) (xs : Nat → Int32) : decode (ax_code (mgT L xs) 13) 40 = .ok (.iinc 3 1, 3) := by
  show decode prog_1_method_2_code 40 = _
  decide +kernel
theorem d13_43 (L : Nat) (xs : Nat → Int32) : decode (ax_code (mgT L xs) 13) 43 = .ok (.iinc 4 (-8), 3) := by
  show decode prog_1_method_2_code 43 = _
  decide +kernel
theorem d13_46 (L : Nat) (xs : Nat → Int32) : decode (ax_code (mgT L xs) 13) 46 = .ok (.goto (-40), 3) := by
  show decode prog_1_method_2_code 46 = _
  decide +kernel
theorem d13_49 (L : Nat) (xs : Nat → Int32) : decode (ax_code (mgT L xs) 13) 49 = .ok (.aload_n 0, 1) := by
  show decode prog_1_method_2_code 49 = _
  decide +kernel
theorem d13_50 (L : Nat) (xs : Nat → Int32) : decode (ax_code (mgT L xs) 13) 50 = .ok (.getfield 14, 3) := by
  show decode prog_1_method_2_code 50 = _
  decide +kernel
theorem d13_53 (L : Nat) (xs : Nat → Int32) : decode (ax_code (mgT L xs) 13) 53 = .ok (.invokevirtual 47, 3) := by
  show decode prog_1_method_2_code 53 = _
  decide +kernel
theorem d13_56 (L : Nat) (xs : Nat → Int32) : decode (ax_code (mgT L xs) 13) 56 = .ok (.iload_n 3, 1) := by
  show decode prog_1_method_2_code 56 = _
  decide +kernel
theorem d13_57 (L : Nat) (xs : Nat → Int32) : decode (ax_code (mgT L xs) 13) 57 = .ok (.iadd, 1) := by
  show decode prog_1_method_2_code 57 = _
  decide +kernel
theorem d13_58 (L : Nat) (xs : Nat → Int32) : decode (ax_code (mgT L xs) 13) 58 = .ok (.bipush 100, 2) := by
  show decode prog_1_method_2_code 58 = _
  decide +kernel
theorem d13_60 (L : Nat) (xs : Nat → Int32) : decode (ax_code (mgT L xs) 13) 60 = .ok (.if_icmp .le 5, 3) := by
  show decode prog_1_method_2_code 60 = _
  decide +kernel
theorem d13_63 (L : Nat) (xs : Nat → Int32) : decode (ax_code (mgT L xs) 13) 63 = .ok (.iconst 0, 1) := by
  show decode prog_1_method_2_code 63 = _
  decide +kernel
theorem d13_64 (L : Nat) (xs : Nat → Int32) : decode (ax_code (mgT L xs) 13) 64 = .ok (.ireturn, 1) := by
  show decode prog_1_method_2_code 64 = _
  decide +kernel
theorem d13_65 (L : Nat) (xs : Nat → Int32) : decode (ax_code (mgT L xs) 13) 65 = .ok (.bipush 56, 2) := by
  show decode prog_1_method_2_code 65 = _
  decide +kernel
theorem d13_67 (L : Nat) (xs : Nat → Int32) : decode (ax_code (mgT L xs) 13) 67 = .ok (.istore 4, 2) := by
  show decode prog_1_method_2_code 67 = _
  decide +kernel
theorem d13_69 (L : Nat) (xs : Nat → Int32) : decode (ax_code (mgT L xs) 13) 69 = .ok (.iload 4, 2) := by
  show decode prog_1_method_2_code 69 = _
  decide +kernel
theorem d13_71 (L : Nat) (xs : Nat → Int32) : decode (ax_code (mgT L xs) 13) 71 = .ok (.ifCond .lt 32, 3) := by
  show decode prog_1_method_2_code 71 = _
  decide +kernel
theorem d13_74 (L : Nat) (xs : Nat → Int32) : decode (ax_code (mgT L xs) 13) 74 = .ok (.lload_n 1, 1) := by
  show decode prog_1_method_2_code 74 = _
  decide +kernel
theorem d13_75 (L : Nat) (xs : Nat → Int32) : decode (ax_code (mgT L xs) 13) 75 = .ok (.iload 4, 2) := by
  show decode prog_1_method_2_code 75 = _
  decide +kernel
theorem d13_77 (L : Nat) (xs : Nat → Int32) : decode (ax_code (mgT L xs) 13) 77 = .ok (.invokestatic 43, 3) := by
  show decode prog_1_method_2_code 77 = _
  decide +kernel
theorem d13_80 (L : Nat) (xs : Nat → Int32) : decode (ax_code (mgT L xs) 13) 80 = .ok (.istore 5, 2) := by
  show decode prog_1_method_2_code 80 = _
  decide +kernel
theorem d13_82 (L : Nat) (xs : Nat → Int32) : decode (ax_code (mgT L xs) 13) 82 = .ok (.iload 5, 2) := by
  show decode prog_1_method_2_code 82 = _
  decide +kernel
theorem d13_84 (L : Nat) (xs : Nat → Int32) : decode (ax_code (mgT L xs) 13) 84 = .ok (.ifCond .eq 13, 3) := by
  show decode prog_1_method_2_code 84 = _
  decide +kernel
theorem d13_87 (L : Nat) (xs : Nat → Int32) : decode (ax_code (mgT L xs) 13) 87 = .ok (.aload_n 0, 1) := by
  show decode prog_1_method_2_code 87 = _
  decide +kernel
theorem d13_88 (L : Nat) (xs : Nat → Int32) : decode (ax_code (mgT L xs) 13) 88 = .ok (.getfield 14, 3) := by
  show decode prog_1_method_2_code 88 = _
  decide +kernel
theorem d13_91 (L : Nat) (xs : Nat → Int32) : decode (ax_code (mgT L xs) 13) 91 = .ok (.iload 5, 2) := by
  show decode prog_1_method_2_code 91 = _
  decide +kernel
theorem d13_93 (L : Nat) (xs : Nat → Int32) : decode (ax_code (mgT L xs) 13) 93 = .ok (.i2c, 1) := by
  show decode prog_1_method_2_code 93 = _
  decide +kernel
theorem d13_94 (L : Nat) (xs : Nat → Int32) : decode (ax_code (mgT L xs) 13) 94 = .ok (.invokevirtual 51, 3) := by
  show decode prog_1_method_2_code 94 = _
  decide +kernel
theorem d13_97 (L : Nat) (xs : Nat → Int32) : decode (ax_code (mgT L xs) 13) 97 = .ok (.iinc 4 (-8), 3) := by
  show decode prog_1_method_2_code 97 = _
  decide +kernel
theorem d13_100 (L : Nat) (xs : Nat → Int32) : decode (ax_code (mgT L xs) 13) 100 = .ok (.goto (-31), 3) := by
  show decode prog_1_method_2_code 100 = _
  decide +kernel
theorem d13_103 (L : Nat) (xs : Nat → Int32) : decode (ax_code (mgT L xs) 13) 103 = .ok (.iconst 1, 1) := by
  show decode prog_1_method_2_code 103 = _
  decide +kernel
theorem d13_104 (L : Nat) (xs : Nat → Int32) : decode (ax_code (mgT L xs) 13) 104 = .ok (.ireturn, 1) := by
  show decode prog_1_method_2_code 104 = _
  decide +kernel
theorem d14_0 (L : Nat) (xs : Nat → Int32) : decode (ax_code (mgT L xs) 14) 0 = .ok (.lload_n 0, 1) := by
  show decode prog_1_method_12_code 0 = _
  decide +kernel
theorem d14_1 (L : Nat) (xs : Nat → Int32) : decode (ax_code (mgT L xs) 14) 1 = .ok (.iload_n 2, 1) := by
  show decode prog_1_method_12_code 1 = _
  decide +kernel
theorem d14_2 (L : Nat) (xs : Nat → Int32) : decode (ax_code (mgT L xs) 14) 2 = .ok (.lushr, 1) := by
  show decode prog_1_method_12_code 2 = _
  decide +kernel
theorem d14_3 (L : Nat) (xs : Nat → Int32) : decode (ax_code (mgT L xs) 14) 3 = .ok (.l2i, 1) := by
  show decode prog_1_method_12_code 3 = _
  decide +kernel
theorem d14_4 (L : Nat) (xs : Nat → Int32) : decode (ax_code (mgT L xs) 14) 4 = .ok (.sipush 255, 3) := by
  show decode prog_1_method_12_code 4 = _
  decide +kernel
theorem d14_7 (L : Nat) (xs : Nat → Int32) : decode (ax_code (mgT L xs) 14) 7 = .ok (.iand, 1) := by
  show decode prog_1_method_12_code 7 = _
  decide +kernel
theorem d14_8 (L : Nat) (xs : Nat → Int32) : decode (ax_code (mgT L xs) 14) 8 = .ok (.ireturn, 1) := by
  show decode prog_1_method_12_code 8 = _
  decide +kernel
theorem d15_0 (L : Nat) (xs : Nat → Int32) : decode (ax_code (mgT L xs) 15) 0 = .ok (.aload_n 0, 1) := by
  show decode prog_9_method_2_code 0 = _
  decide +kernel
theorem d15_1 (L : Nat) (xs : Nat → Int32) : decode (ax_code (mgT L xs) 15) 1 = .ok (.getfield 15, 3) := by
  show decode prog_9_method_2_code 1 = _
  decide +kernel
theorem d15_4 (L : Nat) (xs : Nat → Int32) : decode (ax_code (mgT L xs) 15) 4 = .ok (.ireturn, 1) := by
  show decode prog_9_method_2_code 4 = _
  decide +kernel
theorem d16_0 (L : Nat) (xs : Nat → Int32) : decode (ax_code (mgT L xs) 16) 0 = .ok (.aload_n 0, 1) := by
  show decode prog_9_method_5_code 0 = _
  decide +kernel
theorem d16_1 (L : Nat) (xs : Nat → Int32) : decode (ax_code (mgT L xs) 16) 1 = .ok (.getfield 15, 3) := by
  show decode prog_9_method_5_code 1 = _
  decide +kernel
theorem d16_4 (L : Nat) (xs : Nat → Int32) : decode (ax_code (mgT L xs) 16) 4 = .ok (.aload_n 0, 1) := by
  show decode prog_9_method_5_code 4 = _
  decide +kernel
theorem d16_5 (L : Nat) (xs : Nat → Int32) : decode (ax_code (mgT L xs) 16) 5 = .ok (.getfield 9, 3) := by
  show decode prog_9_method_5_code 5 = _
  decide +kernel
theorem d16_8 (L : Nat) (xs : Nat → Int32) : decode (ax_code (mgT L xs) 16) 8 = .ok (.arraylength, 1) := by
  show decode prog_9_method_5_code 8 = _
  decide +kernel
theorem d16_9 (L : Nat) (xs : Nat → Int32) : decode (ax_code (mgT L xs) 16) 9 = .ok (.if_icmp .ge 23, 3) := by
  show decode prog_9_method_5_code 9 = _
  decide +kernel
theorem d16_12 (L : Nat) (xs : Nat → Int32) : decode (ax_code (mgT L xs) 16) 12 = .ok (.aload_n 0, 1) := by
  show decode prog_9_method_5_code 12 = _
  decide +kernel
theorem d16_13 (L : Nat) (xs : Nat → Int32) : decode (ax_code (mgT L xs) 16) 13 = .ok (.getfield 9, 3) := by
  show decode prog_9_method_5_code 13 = _
  decide +kernel
theorem d16_16 (L : Nat) (xs : Nat → Int32) : decode (ax_code (mgT L xs) 16) 16 = .ok (.aload_n 0, 1) := by
  show decode prog_9_method_5_code 16 = _
  decide +kernel
theorem d16_17 (L : Nat) (xs : Nat → Int32) : decode (ax_code (mgT L xs) 16) 17 = .ok (.getfield 15, 3) := by
  show decode prog_9_method_5_code 17 = _
  decide +kernel
theorem d16_20 (L : Nat) (xs : Nat → Int32) : decode (ax_code (mgT L xs) 16) 20 = .ok (.iload_n 1, 1) := by
  show decode prog_9_method_5_code 20 = _
  decide +kernel
theorem d16_21 (L : Nat) (xs : Nat → Int32) : decode (ax_code (mgT L xs) 16) 21 = .ok (.castore, 1) := by
  show decode prog_9_method_5_code 21 = _
  decide +kernel
theorem d16_22 (L : Nat) (xs : Nat → Int32) : decode (ax_code (mgT L xs) 16) 22 = .ok (.aload_n 0, 1) := by
  show decode prog_9_method_5_code 22 = _
  decide +kernel
theorem d16_23 (L : Nat) (xs : Nat → Int32) : decode (ax_code (mgT L xs) 16) 23 = .ok (.dup, 1) := by
  show decode prog_9_method_5_code 23 = _
  decide +kernel
theorem d16_24 (L : Nat) (xs : Nat → Int32) : decode (ax_code (mgT L xs) 16) 24 = .ok (.getfield 15, 3) := by
  show decode prog_9_method_5_code 24 = _
  decide +kernel
theorem d16_27 (L : Nat) (xs : Nat → Int32) : decode (ax_code (mgT L xs) 16) 27 = .ok (.iconst 1, 1) := by
  show decode prog_9_method_5_code 27 = _
  decide +kernel
theorem d16_28 (L : Nat) (xs : Nat → Int32) : decode (ax_code (mgT L xs) 16) 28 = .ok (.iadd, 1) := by
  show decode prog_9_method_5_code 28 = _
  decide +kernel
theorem d16_29 (L : Nat) (xs : Nat → Int32) : decode (ax_code (mgT L xs) 16) 29 = .ok (.putfield 15, 3) := by
  show decode prog_9_method_5_code 29 = _
  decide +kernel
theorem d16_32 (L : Nat) (xs : Nat → Int32) : decode (ax_code (mgT L xs) 16) 32 = .ok (.return_, 1) := by
  show decode prog_9_method_5_code 32 = _
  decide +kernel
theorem d17_0 (L : Nat) (xs : Nat → Int32) : decode (ax_code (mgT L xs) 17) 0 = .ok (.aload_n 0, 1) := by
  show decode prog_1_method_3_code 0 = _
  decide +kernel
theorem d17_1 (L : Nat) (xs : Nat → Int32) : decode (ax_code (mgT L xs) 17) 1 = .ok (.getfield 14, 3) := by
  show decode prog_1_method_3_code 1 = _
  decide +kernel
theorem d17_4 (L : Nat) (xs : Nat → Int32) : decode (ax_code (mgT L xs) 17) 4 = .ok (.invokevirtual 55, 3) := by
  show decode prog_1_method_3_code 4 = _
  decide +kernel
theorem d17_7 (L : Nat) (xs : Nat → Int32) : decode (ax_code (mgT L xs) 17) 7 = .ok (.return_, 1) := by
  show decode prog_1_method_3_code 7 = _
  decide +kernel
theorem d18_0 (L : Nat) (xs : Nat → Int32) : decode (ax_code (mgT L xs) 18) 0 = .ok (.aload_n 0, 1) := by
  show decode prog_9_method_4_code 0 = _
  decide +kernel
theorem d18_1 (L : Nat) (xs : Nat → Int32) : decode (ax_code (mgT L xs) 18) 1 = .ok (.iconst 0, 1) := by
  show decode prog_9_method_4_code 1 = _
  decide +kernel
theorem d18_2 (L : Nat) (xs : Nat → Int32) : decode (ax_code (mgT L xs) 18) 2 = .ok (.putfield 15, 3) := by
  show decode prog_9_method_4_code 2 = _
  decide +kernel
theorem d18_5 (L : Nat) (xs : Nat → Int32) : decode (ax_code (mgT L xs) 18) 5 = .ok (.return_, 1) := by
  show decode prog_9_method_4_code 5 = _
  decide +kernel
theorem d19_0 (L : Nat) (xs : Nat → Int32) : decode (ax_code (mgT L xs) 19) 0 = .ok (.aload_n 0, 1) := by
  show decode prog_1_method_4_code 0 = _
  decide +kernel
theorem d19_1 (L : Nat) (xs : Nat → Int32) : decode (ax_code (mgT L xs) 19) 1 = .ok (.getfield 14, 3) := by
  show decode prog_1_method_4_code 1 = _
  decide +kernel
theorem d19_4 (L : Nat) (xs : Nat → Int32) : decode (ax_code (mgT L xs) 19) 4 = .ok (.invokevirtual 47, 3) := by
  show decode prog_1_method_4_code 4 = _
  decide +kernel
theorem d19_7 (L : Nat) (xs : Nat → Int32) : decode (ax_code (mgT L xs) 19) 7 = .ok (.ireturn, 1) := by
  show decode prog_1_method_4_code 7 = _
  decide +kernel
theorem d20_0 (L : Nat) (xs : Nat → Int32) : decode (ax_code (mgT L xs) 20) 0 = .ok (.aload_n 0, 1) := by
  show decode prog_1_method_6_code 0 = _
  decide +kernel
theorem d20_1 (L : Nat) (xs : Nat → Int32) : decode (ax_code (mgT L xs) 20) 1 = .ok (.getfield 21, 3) := by
  show decode prog_1_method_6_code 1 = _
  decide +kernel
theorem d20_4 (L : Nat) (xs : Nat → Int32) : decode (ax_code (mgT L xs) 20) 4 = .ok (.iload_n 1, 1) := by
  show decode prog_1_method_6_code 4 = _
  decide +kernel
theorem d20_5 (L : Nat) (xs : Nat → Int32) : decode (ax_code (mgT L xs) 20) 5 = .ok (.invokevirtual 75, 3) := by
  show decode prog_1_method_6_code 5 = _
  decide +kernel
theorem d20_8 (L : Nat) (xs : Nat → Int32) : decode (ax_code (mgT L xs) 20) 8 = .ok (.ireturn, 1) := by
  show decode prog_1_method_6_code 8 = _
  decide +kernel
theorem d21_0 (L : Nat) (xs : Nat → Int32) : decode (ax_code (mgT L xs) 21) 0 = .ok (.iload_n 1, 1) := by
  show decode prog_7_method_7_code 0 = _
  decide +kernel
theorem d21_1 (L : Nat) (xs : Nat → Int32) : decode (ax_code (mgT L xs) 21) 1 = .ok (.ifCond .lt 11, 3) := by
  show decode prog_7_method_7_code 1 = _
  decide +kernel
theorem d21_4 (L : Nat) (xs : Nat → Int32) : decode (ax_code (mgT L xs) 21) 4 = .ok (.iload_n 1, 1) := by
  show decode prog_7_method_7_code 4 = _
  decide +kernel
theorem d21_5 (L : Nat) (xs : Nat → Int32) : decode (ax_code (mgT L xs) 21) 5 = .ok (.aload_n 0, 1) := by
  show decode prog_7_method_7_code 5 = _
  decide +kernel
theorem d21_6 (L : Nat) (xs : Nat → Int32) : decode (ax_code (mgT L xs) 21) 6 = .ok (.getfield 27, 3) := by
  show decode prog_7_method_7_code 6 = _
  decide +kernel
theorem d21_9 (L : Nat) (xs : Nat → Int32) : decode (ax_code (mgT L xs) 21) 9 = .ok (.if_icmp .lt 5, 3) := by
  show decode prog_7_method_7_code 9 = _
  decide +kernel
theorem d21_12 (L : Nat) (xs : Nat → Int32) : decode (ax_code (mgT L xs) 21) 12 = .ok (.iconst 0, 1) := by
  show decode prog_7_method_7_code 12 = _
  decide +kernel
theorem d21_13 (L : Nat) (xs : Nat → Int32) : decode (ax_code (mgT L xs) 21) 13 = .ok (.ireturn, 1) := by
  show decode prog_7_method_7_code 13 = _
  decide +kernel
theorem d22_0 (L : Nat) (xs : Nat → Int32) : decode (ax_code (mgT L xs) 22) 0 = .ok (.aload_n 0, 1) := by
  show decode prog_1_method_8_code 0 = _
  decide +kernel
theorem d22_1 (L : Nat) (xs : Nat → Int32) : decode (ax_code (mgT L xs) 22) 1 = .ok (.getfield 30, 3) := by
  show decode prog_1_method_8_code 1 = _
  decide +kernel
theorem d22_4 (L : Nat) (xs : Nat → Int32) : decode (ax_code (mgT L xs) 22) 4 = .ok (.invokevirtual 92, 3) := by
  show decode prog_1_method_8_code 4 = _
  decide +kernel
theorem d22_7 (L : Nat) (xs : Nat → Int32) : decode (ax_code (mgT L xs) 22) 7 = .ok (.ifCond .ne 5, 3) := by
  show decode prog_1_method_8_code 7 = _
  decide +kernel
theorem d22_10 (L : Nat) (xs : Nat → Int32) : decode (ax_code (mgT L xs) 22) 10 = .ok (.iconst (-1), 1) := by
  show decode prog_1_method_8_code 10 = _
  decide +kernel
theorem d22_11 (L : Nat) (xs : Nat → Int32) : decode (ax_code (mgT L xs) 22) 11 = .ok (.ireturn, 1) := by
  show decode prog_1_method_8_code 11 = _
  decide +kernel
theorem d23_0 (L : Nat) (xs : Nat → Int32) : decode (ax_code (mgT L xs) 23) 0 = .ok (.aload_n 0, 1) := by
  show decode prog_2_method_2_code 0 = _
  decide +kernel
theorem d23_1 (L : Nat) (xs : Nat → Int32) : decode (ax_code (mgT L xs) 23) 1 = .ok (.getfield 29, 3) := by
  show decode prog_2_method_2_code 1 = _
  decide +kernel
theorem d23_4 (L : Nat) (xs : Nat → Int32) : decode (ax_code (mgT L xs) 23) 4 = .ok (.iconst (-1), 1) := by
  show decode prog_2_method_2_code 4 = _
  decide +kernel
theorem d23_5 (L : Nat) (xs : Nat → Int32) : decode (ax_code (mgT L xs) 23) 5 = .ok (.if_icmp .eq 7, 3) := by
  show decode prog_2_method_2_code 5 = _
  decide +kernel
theorem d23_12 (L : Nat) (xs : Nat → Int32) : decode (ax_code (mgT L xs) 23) 12 = .ok (.iconst 0, 1) := by
  show decode prog_2_method_2_code 12 = _
  decide +kernel
theorem d23_13 (L : Nat) (xs : Nat → Int32) : decode (ax_code (mgT L xs) 23) 13 = .ok (.ireturn, 1) := by
  show decode prog_2_method_2_code 13 = _
  decide +kernel
theorem d29_0 (L : Nat) (xs : Nat → Int32) : decode (ax_code (mgT L xs) 29) 0 = .ok (.aload_n 0, 1) := by
  show decode prog_1_method_9_code 0 = _
  decide +kernel
theorem d29_1 (L : Nat) (xs : Nat → Int32) : decode (ax_code (mgT L xs) 29) 1 = .ok (.getfield 21, 3) := by
  show decode prog_1_method_9_code 1 = _
  decide +kernel
theorem d29_4 (L : Nat) (xs : Nat → Int32) : decode (ax_code (mgT L xs) 29) 4 = .ok (.invokevirtual 110, 3) := by
  show decode prog_1_method_9_code 4 = _
  decide +kernel
theorem d29_7 (L : Nat) (xs : Nat → Int32) : decode (ax_code (mgT L xs) 29) 7 = .ok (.astore_n 2, 1) := by
  show decode prog_1_method_9_code 7 = _
  decide +kernel
theorem d29_8 (L : Nat) (xs : Nat → Int32) : decode (ax_code (mgT L xs) 29) 8 = .ok (.aload_n 2, 1) := by
  show decode prog_1_method_9_code 8 = _
  decide +kernel
theorem d29_9 (L : Nat) (xs : Nat → Int32) : decode (ax_code (mgT L xs) 29) 9 = .ok (.invokevirtual 47, 3) := by
  show decode prog_1_method_9_code 9 = _
  decide +kernel
theorem d29_12 (L : Nat) (xs : Nat → Int32) : decode (ax_code (mgT L xs) 29) 12 = .ok (.ifCond .ne 5, 3) := by
  show decode prog_1_method_9_code 12 = _
  decide +kernel
theorem d29_15 (L : Nat) (xs : Nat → Int32) : decode (ax_code (mgT L xs) 29) 15 = .ok (.iconst (-1), 1) := by
  show decode prog_1_method_9_code 15 = _
  decide +kernel
theorem d29_16 (L : Nat) (xs : Nat → Int32) : decode (ax_code (mgT L xs) 29) 16 = .ok (.ireturn, 1) := by
  show decode prog_1_method_9_code 16 = _
  decide +kernel
theorem d30_0 (L : Nat) (xs : Nat → Int32) : decode (ax_code (mgT L xs) 30) 0 = .ok (.aload_n 0, 1) := by
  show decode prog_7_method_4_code 0 = _
  decide +kernel
theorem d30_1 (L : Nat) (xs : Nat → Int32) : decode (ax_code (mgT L xs) 30) 1 = .ok (.getfield 22, 3) := by
  show decode prog_7_method_4_code 1 = _
  decide +kernel
theorem d30_4 (L : Nat) (xs : Nat → Int32) : decode (ax_code (mgT L xs) 30) 4 = .ok (.areturn, 1) := by
  show decode prog_7_method_4_code 4 = _
  decide +kernel
theorem d32_0 (L : Nat) (xs : Nat → Int32) : decode (ax_code (mgT L xs) 32) 0 = .ok (.iload_n 1, 1) := by
  show decode prog_1_method_11_code 0 = _
  decide +kernel
theorem d32_1 (L : Nat) (xs : Nat → Int32) : decode (ax_code (mgT L xs) 32) 1 = .ok (.iconst (-1), 1) := by
  show decode prog_1_method_11_code 1 = _
  decide +kernel
theorem d32_2 (L : Nat) (xs : Nat → Int32) : decode (ax_code (mgT L xs) 32) 2 = .ok (.if_icmp .ne 11, 3) := by
  show decode prog_1_method_11_code 2 = _
  decide +kernel
theorem d32_5 (L : Nat) (xs : Nat → Int32) : decode (ax_code (mgT L xs) 32) 5 = .ok (.aload_n 0, 1) := by
  show decode prog_1_method_11_code 5 = _
  decide +kernel
theorem d32_6 (L : Nat) (xs : Nat → Int32) : decode (ax_code (mgT L xs) 32) 6 = .ok (.getfield 21, 3) := by
  show decode prog_1_method_11_code 6 = _
  decide +kernel
theorem d32_9 (L : Nat) (xs : Nat → Int32) : decode (ax_code (mgT L xs) 32) 9 = .ok (.invokevirtual 65, 3) := by
  show decode prog_1_method_11_code 9 = _
  decide +kernel
theorem d32_12 (L : Nat) (xs : Nat → Int32) : decode (ax_code (mgT L xs) 32) 12 = .ok (.ireturn, 1) := by
  show decode prog_1_method_11_code 12 = _
  decide +kernel
theorem d32_13 (L : Nat) (xs : Nat → Int32) : decode (ax_code (mgT L xs) 32) 13 = .ok (.aload_n 0, 1) := by
  show decode prog_1_method_11_code 13 = _
  decide +kernel
theorem d32_14 (L : Nat) (xs : Nat → Int32) : decode (ax_code (mgT L xs) 32) 14 = .ok (.getfield 21, 3) := by
  show decode prog_1_method_11_code 14 = _
  decide +kernel
theorem d32_17 (L : Nat) (xs : Nat → Int32) : decode (ax_code (mgT L xs) 32) 17 = .ok (.iload_n 1, 1) := by
  show decode prog_1_method_11_code 17 = _
  decide +kernel
theorem d32_18 (L : Nat) (xs : Nat → Int32) : decode (ax_code (mgT L xs) 32) 18 = .ok (.invokevirtual 122, 3) := by
  show decode prog_1_method_11_code 18 = _
  decide +kernel
theorem d32_21 (L : Nat) (xs : Nat → Int32) : decode (ax_code (mgT L xs) 32) 21 = .ok (.astore_n 2, 1) := by
  show decode prog_1_method_11_code 21 = _
  decide +kernel
theorem d32_22 (L : Nat) (xs : Nat → Int32) : decode (ax_code (mgT L xs) 32) 22 = .ok (.aload_n 2, 1) := by
  show decode prog_1_method_11_code 22 = _
  decide +kernel
theorem d32_23 (L : Nat) (xs : Nat → Int32) : decode (ax_code (mgT L xs) 32) 23 = .ok (.ifnonnull 7, 3) := by
  show decode prog_1_method_11_code 23 = _
  decide +kernel
theorem d32_26 (L : Nat) (xs : Nat → Int32) : decode (ax_code (mgT L xs) 32) 26 = .ok (.iconst (-1), 1) := by
  show decode prog_1_method_11_code 26 = _
  decide +kernel
theorem d32_27 (L : Nat) (xs : Nat → Int32) : decode (ax_code (mgT L xs) 32) 27 = .ok (.goto 7, 3) := by
  show decode prog_1_method_11_code 27 = _
  decide +kernel
theorem d32_34 (L : Nat) (xs : Nat → Int32) : decode (ax_code (mgT L xs) 32) 34 = .ok (.ireturn, 1) := by
  show decode prog_1_method_11_code 34 = _
  decide +kernel
theorem d33_0 (L : Nat) (xs : Nat → Int32) : decode (ax_code (mgT L xs) 33) 0 = .ok (.aload_n 0, 1) := by
  show decode prog_7_method_2_code 0 = _
  decide +kernel
theorem d33_1 (L : Nat) (xs : Nat → Int32) : decode (ax_code (mgT L xs) 33) 1 = .ok (.getfield 27, 3) := by
  show decode prog_7_method_2_code 1 = _
  decide +kernel
theorem d33_4 (L : Nat) (xs : Nat → Int32) : decode (ax_code (mgT L xs) 33) 4 = .ok (.ireturn, 1) := by
  show decode prog_7_method_2_code 4 = _
  decide +kernel
theorem d34_0 (L : Nat) (xs : Nat → Int32) : decode (ax_code (mgT L xs) 34) 0 = .ok (.iload_n 1, 1) := by
  show decode prog_7_method_3_code 0 = _
  decide +kernel
theorem d34_1 (L : Nat) (xs : Nat → Int32) : decode (ax_code (mgT L xs) 34) 1 = .ok (.ifCond .lt 20, 3) := by
  show decode prog_7_method_3_code 1 = _
  decide +kernel
theorem d34_4 (L : Nat) (xs : Nat → Int32) : decode (ax_code (mgT L xs) 34) 4 = .ok (.iload_n 1, 1) := by
  show decode prog_7_method_3_code 4 = _
  decide +kernel
theorem d34_5 (L : Nat) (xs : Nat → Int32) : decode (ax_code (mgT L xs) 34) 5 = .ok (.aload_n 0, 1) := by
  show decode prog_7_method_3_code 5 = _
  decide +kernel
theorem d34_6 (L : Nat) (xs : Nat → Int32) : decode (ax_code (mgT L xs) 34) 6 = .ok (.getfield 27, 3) := by
  show decode prog_7_method_3_code 6 = _
  decide +kernel
theorem d34_9 (L : Nat) (xs : Nat → Int32) : decode (ax_code (mgT L xs) 34) 9 = .ok (.if_icmp .ge 12, 3) := by
  show decode prog_7_method_3_code 9 = _
  decide +kernel
theorem d34_21 (L : Nat) (xs : Nat → Int32) : decode (ax_code (mgT L xs) 34) 21 = .ok (.aconst_null, 1) := by
  show decode prog_7_method_3_code 21 = _
  decide +kernel
theorem d34_22 (L : Nat) (xs : Nat → Int32) : decode (ax_code (mgT L xs) 34) 22 = .ok (.areturn, 1) := by
  show decode prog_7_method_3_code 22 = _
  decide +kernel
theorem d35_0 (L : Nat) (xs : Nat → Int32) : decode (ax_code (mgT L xs) 35) 0 = .ok (.aload_n 0, 1) := by
  show decode prog_1_method_5_code 0 = _
  decide +kernel
theorem d35_1 (L : Nat) (xs : Nat → Int32) : decode (ax_code (mgT L xs) 35) 1 = .ok (.iload_n 1, 1) := by
  show decode prog_1_method_5_code 1 = _
  decide +kernel
theorem d35_2 (L : Nat) (xs : Nat → Int32) : decode (ax_code (mgT L xs) 35) 2 = .ok (.invokevirtual 58, 3) := by
  show decode prog_1_method_5_code 2 = _
  decide +kernel
theorem d35_5 (L : Nat) (xs : Nat → Int32) : decode (ax_code (mgT L xs) 35) 5 = .ok (.ifCond .ne 11, 3) := by
  show decode prog_1_method_5_code 5 = _
  decide +kernel
theorem d35_8 (L : Nat) (xs : Nat → Int32) : decode (ax_code (mgT L xs) 35) 8 = .ok (.new 62, 3) := by
  show decode prog_1_method_5_code 8 = _
  decide +kernel
theorem d35_11 (L : Nat) (xs : Nat → Int32) : decode (ax_code (mgT L xs) 35) 11 = .ok (.dup, 1) := by
  show decode prog_1_method_5_code 11 = _
  decide +kernel
theorem d35_12 (L : Nat) (xs : Nat → Int32) : decode (ax_code (mgT L xs) 35) 12 = .ok (.invokespecial 64, 3) := by
  show decode prog_1_method_5_code 12 = _
  decide +kernel
theorem d35_15 (L : Nat) (xs : Nat → Int32) : decode (ax_code (mgT L xs) 35) 15 = .ok (.athrow, 1) := by
  show decode prog_1_method_5_code 15 = _
  decide +kernel
theorem d36_0 (L : Nat) (xs : Nat → Int32) : decode (ax_code (mgT L xs) 36) 0 = .ok (.aload_n 0, 1) := by
  show decode prog_1_method_13_code 0 = _
  decide +kernel
theorem d36_1 (L : Nat) (xs : Nat → Int32) : decode (ax_code (mgT L xs) 36) 1 = .ok (.getfield 14, 3) := by
  show decode prog_1_method_13_code 1 = _
  decide +kernel
theorem d36_4 (L : Nat) (xs : Nat → Int32) : decode (ax_code (mgT L xs) 36) 4 = .ok (.bipush 32, 2) := by
  show decode prog_1_method_13_code 4 = _
  decide +kernel
theorem d36_6 (L : Nat) (xs : Nat → Int32) : decode (ax_code (mgT L xs) 36) 6 = .ok (.iconst 0, 1) := by
  show decode prog_1_method_13_code 6 = _
  decide +kernel
theorem d36_7 (L : Nat) (xs : Nat → Int32) : decode (ax_code (mgT L xs) 36) 7 = .ok (.aload_n 0, 1) := by
  show decode prog_1_method_13_code 7 = _
  decide +kernel
theorem d36_8 (L : Nat) (xs : Nat → Int32) : decode (ax_code (mgT L xs) 36) 8 = .ok (.getfield 14, 3) := by
  show decode prog_1_method_13_code 8 = _
  decide +kernel
theorem d36_11 (L : Nat) (xs : Nat → Int32) : decode (ax_code (mgT L xs) 36) 11 = .ok (.invokevirtual 47, 3) := by
  show decode prog_1_method_13_code 11 = _
  decide +kernel
theorem d36_14 (L : Nat) (xs : Nat → Int32) : decode (ax_code (mgT L xs) 36) 14 = .ok (.invokevirtual 131, 3) := by
  show decode prog_1_method_13_code 14 = _
  decide +kernel
theorem d36_17 (L : Nat) (xs : Nat → Int32) : decode (ax_code (mgT L xs) 36) 17 = .ok (.istore_n 2, 1) := by
  show decode prog_1_method_13_code 17 = _
  decide +kernel
theorem d36_18 (L : Nat) (xs : Nat → Int32) : decode (ax_code (mgT L xs) 36) 18 = .ok (.aload_n 0, 1) := by
  show decode prog_1_method_13_code 18 = _
  decide +kernel
theorem d36_19 (L : Nat) (xs : Nat → Int32) : decode (ax_code (mgT L xs) 36) 19 = .ok (.getfield 14, 3) := by
  show decode prog_1_method_13_code 19 = _
  decide +kernel
theorem d36_22 (L : Nat) (xs : Nat → Int32) : decode (ax_code (mgT L xs) 36) 22 = .ok (.iconst 0, 1) := by
  show decode prog_1_method_13_code 22 = _
  decide +kernel
theorem d36_23 (L : Nat) (xs : Nat → Int32) : decode (ax_code (mgT L xs) 36) 23 = .ok (.iload_n 2, 1) := by
  show decode prog_1_method_13_code 23 = _
  decide +kernel
theorem d36_24 (L : Nat) (xs : Nat → Int32) : decode (ax_code (mgT L xs) 36) 24 = .ok (.invokevirtual 135, 3) := by
  show decode prog_1_method_13_code 24 = _
  decide +kernel
theorem d36_27 (L : Nat) (xs : Nat → Int32) : decode (ax_code (mgT L xs) 36) 27 = .ok (.ifCond .ne 5, 3) := by
  show decode prog_1_method_13_code 27 = _
  decide +kernel
theorem d36_30 (L : Nat) (xs : Nat → Int32) : decode (ax_code (mgT L xs) 36) 30 = .ok (.iconst 0, 1) := by
  show decode prog_1_method_13_code 30 = _
  decide +kernel
theorem d36_31 (L : Nat) (xs : Nat → Int32) : decode (ax_code (mgT L xs) 36) 31 = .ok (.ireturn, 1) := by
  show decode prog_1_method_13_code 31 = _
  decide +kernel
theorem d37_0 (L : Nat) (xs : Nat → Int32) : decode (ax_code (mgT L xs) 37) 0 = .ok (.iload_n 2, 1) := by
  show decode prog_9_method_17_code 0 = _
  decide +kernel
theorem d37_1 (L : Nat) (xs : Nat → Int32) : decode (ax_code (mgT L xs) 37) 1 = .ok (.istore 4, 2) := by
  show decode prog_9_method_17_code 1 = _
  decide +kernel
theorem d37_3 (L : Nat) (xs : Nat → Int32) : decode (ax_code (mgT L xs) 37) 3 = .ok (.iload 4, 2) := by
  show decode prog_9_method_17_code 3 = _
  decide +kernel
theorem d37_5 (L : Nat) (xs : Nat → Int32) : decode (ax_code (mgT L xs) 37) 5 = .ok (.iload_n 3, 1) := by
  show decode prog_9_method_17_code 5 = _
  decide +kernel
theorem d37_6 (L : Nat) (xs : Nat → Int32) : decode (ax_code (mgT L xs) 37) 6 = .ok (.if_icmp .ge 22, 3) := by
  show decode prog_9_method_17_code 6 = _
  decide +kernel
theorem d37_28 (L : Nat) (xs : Nat → Int32) : decode (ax_code (mgT L xs) 37) 28 = .ok (.iload_n 3, 1) := by
  show decode prog_9_method_17_code 28 = _
  decide +kernel
theorem d37_29 (L : Nat) (xs : Nat → Int32) : decode (ax_code (mgT L xs) 37) 29 = .ok (.ireturn, 1) := by
  show decode prog_9_method_17_code 29 = _
  decide +kernel
theorem d38_0 (L : Nat) (xs : Nat → Int32) : decode (ax_code (mgT L xs) 38) 0 = .ok (.iload_n 2, 1) := by
  show decode prog_9_method_19_code 0 = _
  decide +kernel
theorem d38_1 (L : Nat) (xs : Nat → Int32) : decode (ax_code (mgT L xs) 38) 1 = .ok (.iload_n 1, 1) := by
  show decode prog_9_method_19_code 1 = _
  decide +kernel
theorem d38_2 (L : Nat) (xs : Nat → Int32) : decode (ax_code (mgT L xs) 38) 2 = .ok (.isub, 1) := by
  show decode prog_9_method_19_code 2 = _
  decide +kernel
theorem d38_3 (L : Nat) (xs : Nat → Int32) : decode (ax_code (mgT L xs) 38) 3 = .ok (.bipush 48, 2) := by
  show decode prog_9_method_19_code 3 = _
  decide +kernel
theorem d38_5 (L : Nat) (xs : Nat → Int32) : decode (ax_code (mgT L xs) 38) 5 = .ok (.if_icmp .le 5, 3) := by
  show decode prog_9_method_19_code 5 = _
  decide +kernel
theorem d38_10 (L : Nat) (xs : Nat → Int32) : decode (ax_code (mgT L xs) 38) 10 = .ok (.iconst 0, 1) := by
  show decode prog_9_method_19_code 10 = _
  decide +kernel
theorem d38_11 (L : Nat) (xs : Nat → Int32) : decode (ax_code (mgT L xs) 38) 11 = .ok (.istore_n 3, 1) := by
  show decode prog_9_method_19_code 11 = _
  decide +kernel
theorem d38_12 (L : Nat) (xs : Nat → Int32) : decode (ax_code (mgT L xs) 38) 12 = .ok (.iload_n 1, 1) := by
  show decode prog_9_method_19_code 12 = _
  decide +kernel
theorem d38_13 (L : Nat) (xs : Nat → Int32) : decode (ax_code (mgT L xs) 38) 13 = .ok (.istore 4, 2) := by
  show decode prog_9_method_19_code 13 = _
  decide +kernel
theorem d38_15 (L : Nat) (xs : Nat → Int32) : decode (ax_code (mgT L xs) 38) 15 = .ok (.iload 4, 2) := by
  show decode prog_9_method_19_code 15 = _
  decide +kernel
theorem d38_17 (L : Nat) (xs : Nat → Int32) : decode (ax_code (mgT L xs) 38) 17 = .ok (.iload_n 2, 1) := by
  show decode prog_9_method_19_code 17 = _
  decide +kernel
theorem d38_18 (L : Nat) (xs : Nat → Int32) : decode (ax_code (mgT L xs) 38) 18 = .ok (.if_icmp .ge 54, 3) := by
  show decode prog_9_method_19_code 18 = _
  decide +kernel
theorem d38_72 (L : Nat) (xs : Nat → Int32) : decode (ax_code (mgT L xs) 38) 72 = .ok (.iload_n 3, 1) := by
  show decode prog_9_method_19_code 72 = _
  decide +kernel
theorem d38_73 (L : Nat) (xs : Nat → Int32) : decode (ax_code (mgT L xs) 38) 73 = .ok (.ifCond .le 7, 3) := by
  show decode prog_9_method_19_code 73 = _
  decide +kernel
theorem d38_80 (L : Nat) (xs : Nat → Int32) : decode (ax_code (mgT L xs) 38) 80 = .ok (.iconst 0, 1) := by
  show decode prog_9_method_19_code 80 = _
  decide +kernel
theorem d38_81 (L : Nat) (xs : Nat → Int32) : decode (ax_code (mgT L xs) 38) 81 = .ok (.ireturn, 1) := by
  show decode prog_9_method_19_code 81 = _
  decide +kernel
theorem d45_0 (L : Nat) (xs : Nat → Int32) : decode (ax_code (mgT L xs) 45) 0 = .ok (.aload_n 0, 1) := by
  show decode prog_1_method_7_code 0 = _
  decide +kernel
theorem d45_1 (L : Nat) (xs : Nat → Int32) : decode (ax_code (mgT L xs) 45) 1 = .ok (.getfield 14, 3) := by
  show decode prog_1_method_7_code 1 = _
  decide +kernel
theorem d45_4 (L : Nat) (xs : Nat → Int32) : decode (ax_code (mgT L xs) 45) 4 = .ok (.invokevirtual 78, 3) := by
  show decode prog_1_method_7_code 4 = _
  decide +kernel
theorem d45_7 (L : Nat) (xs : Nat → Int32) : decode (ax_code (mgT L xs) 45) 7 = .ok (.ifCond .ne 11, 3) := by
  show decode prog_1_method_7_code 7 = _
  decide +kernel
theorem d45_10 (L : Nat) (xs : Nat → Int32) : decode (ax_code (mgT L xs) 45) 10 = .ok (.new 62, 3) := by
  show decode prog_1_method_7_code 10 = _
  decide +kernel
theorem d45_13 (L : Nat) (xs : Nat → Int32) : decode (ax_code (mgT L xs) 45) 13 = .ok (.dup, 1) := by
  show decode prog_1_method_7_code 13 = _
  decide +kernel
theorem d45_14 (L : Nat) (xs : Nat → Int32) : decode (ax_code (mgT L xs) 45) 14 = .ok (.invokespecial 64, 3) := by
  show decode prog_1_method_7_code 14 = _
  decide +kernel
theorem d45_17 (L : Nat) (xs : Nat → Int32) : decode (ax_code (mgT L xs) 45) 17 = .ok (.athrow, 1) := by
  show decode prog_1_method_7_code 17 = _
  decide +kernel
theorem d46_0 (L : Nat) (xs : Nat → Int32) : decode (ax_code (mgT L xs) 46) 0 = .ok (.aload_n 0, 1) := by
  show decode prog_9_method_18_code 0 = _
  decide +kernel
theorem d46_1 (L : Nat) (xs : Nat → Int32) : decode (ax_code (mgT L xs) 46) 1 = .ok (.iconst 0, 1) := by
  show decode prog_9_method_18_code 1 = _
  decide +kernel
theorem d46_2 (L : Nat) (xs : Nat → Int32) : decode (ax_code (mgT L xs) 46) 2 = .ok (.aload_n 0, 1) := by
  show decode prog_9_method_18_code 2 = _
  decide +kernel
theorem d46_3 (L : Nat) (xs : Nat → Int32) : decode (ax_code (mgT L xs) 46) 3 = .ok (.getfield 15, 3) := by
  show decode prog_9_method_18_code 3 = _
  decide +kernel
theorem d46_6 (L : Nat) (xs : Nat → Int32) : decode (ax_code (mgT L xs) 46) 6 = .ok (.invokevirtual 44, 3) := by
  show decode prog_9_method_18_code 6 = _
  decide +kernel
theorem d46_9 (L : Nat) (xs : Nat → Int32) : decode (ax_code (mgT L xs) 46) 9 = .ok (.ireturn, 1) := by
  show decode prog_9_method_18_code 9 = _
  decide +kernel
theorem d86_0 (L : Nat) (xs : Nat → Int32) : decode (ax_code (mgT L xs) 86) 0 = .ok (.aload_n 0, 1) := by
  show decode prog_1_method_10_code 0 = _
  decide +kernel
theorem d86_1 (L : Nat) (xs : Nat → Int32) : decode (ax_code (mgT L xs) 86) 1 = .ok (.getfield 14, 3) := by
  show decode prog_1_method_10_code 1 = _
  decide +kernel
theorem d86_4 (L : Nat) (xs : Nat → Int32) : decode (ax_code (mgT L xs) 86) 4 = .ok (.invokevirtual 78, 3) := by
  show decode prog_1_method_10_code 4 = _
  decide +kernel
theorem d86_7 (L : Nat) (xs : Nat → Int32) : decode (ax_code (mgT L xs) 86) 7 = .ok (.ifCond .eq 13, 3) := by
  show decode prog_1_method_10_code 7 = _
  decide +kernel
theorem d86_20 (L : Nat) (xs : Nat → Int32) : decode (ax_code (mgT L xs) 86) 20 = .ok (.new 62, 3) := by
  show decode prog_1_method_10_code 20 = _
  decide +kernel
theorem d86_23 (L : Nat) (xs : Nat → Int32) : decode (ax_code (mgT L xs) 86) 23 = .ok (.dup, 1) := by
  show decode prog_1_method_10_code 23 = _
  decide +kernel
theorem d86_24 (L : Nat) (xs : Nat → Int32) : decode (ax_code (mgT L xs) 86) 24 = .ok (.invokespecial 64, 3) := by
  show decode prog_1_method_10_code 24 = _
  decide +kernel
theorem d86_27 (L : Nat) (xs : Nat → Int32) : decode (ax_code (mgT L xs) 86) 27 = .ok (.athrow, 1) := by
  show decode prog_1_method_10_code 27 = _
  decide +kernel
theorem d105_0 (L : Nat) (xs : Nat → Int32) : decode (ax_code (mgT L xs) 105) 0 = .ok (.aload_n 0, 1) := by
  show decode prog_11_method_2_code 0 = _
  decide +kernel
theorem d105_1 (L : Nat) (xs : Nat → Int32) : decode (ax_code (mgT L xs) 105) 1 = .ok (.getfield 82, 3) := by
  show decode prog_11_method_2_code 1 = _
  decide +kernel
theorem d105_4 (L : Nat) (xs : Nat → Int32) : decode (ax_code (mgT L xs) 105) 4 = .ok (.ireturn, 1) := by
  show decode prog_11_method_2_code 4 = _
  decide +kernel
theorem d106_0 (L : Nat) (xs : Nat → Int32) : decode (ax_code (mgT L xs) 106) 0 = .ok (.aload_n 0, 1) := by
  show decode prog_11_method_3_code 0 = _
  decide +kernel
theorem d106_1 (L : Nat) (xs : Nat → Int32) : decode (ax_code (mgT L xs) 106) 1 = .ok (.iconst 0, 1) := by
  show decode prog_11_method_3_code 1 = _
  decide +kernel
theorem d106_2 (L : Nat) (xs : Nat → Int32) : decode (ax_code (mgT L xs) 106) 2 = .ok (.putfield 82, 3) := by
  show decode prog_11_method_3_code 2 = _
  decide +kernel
theorem d106_5 (L : Nat) (xs : Nat → Int32) : decode (ax_code (mgT L xs) 106) 5 = .ok (.aload_n 0, 1) := by
  show decode prog_11_method_3_code 5 = _
  decide +kernel
theorem d106_6 (L : Nat) (xs : Nat → Int32) : decode (ax_code (mgT L xs) 106) 6 = .ok (.getfield 86, 3) := by
  show decode prog_11_method_3_code 6 = _
  decide +kernel
theorem d106_9 (L : Nat) (xs : Nat → Int32) : decode (ax_code (mgT L xs) 106) 9 = .ok (.istore_n 3, 1) := by
  show decode prog_11_method_3_code 9 = _
  decide +kernel
theorem d106_10 (L : Nat) (xs : Nat → Int32) : decode (ax_code (mgT L xs) 106) 10 = .ok (.bipush 7, 2) := by
  show decode prog_11_method_3_code 10 = _
  decide +kernel
theorem d106_12 (L : Nat) (xs : Nat → Int32) : decode (ax_code (mgT L xs) 106) 12 = .ok (.istore 4, 2) := by
  show decode prog_11_method_3_code 12 = _
  decide +kernel
theorem d106_14 (L : Nat) (xs : Nat → Int32) : decode (ax_code (mgT L xs) 106) 14 = .ok (.iload 4, 2) := by
  show decode prog_11_method_3_code 14 = _
  decide +kernel
theorem d106_16 (L : Nat) (xs : Nat → Int32) : decode (ax_code (mgT L xs) 106) 16 = .ok (.ifCond .lt 66, 3) := by
  show decode prog_11_method_3_code 16 = _
  decide +kernel
theorem d106_19 (L : Nat) (xs : Nat → Int32) : decode (ax_code (mgT L xs) 106) 19 = .ok (.lload_n 1, 1) := by
  show decode prog_11_method_3_code 19 = _
  decide +kernel
theorem d106_20 (L : Nat) (xs : Nat → Int32) : decode (ax_code (mgT L xs) 106) 20 = .ok (.bipush 8, 2) := by
  show decode prog_11_method_3_code 20 = _
  decide +kernel
theorem d106_22 (L : Nat) (xs : Nat → Int32) : decode (ax_code (mgT L xs) 106) 22 = .ok (.iload 4, 2) := by
  show decode prog_11_method_3_code 22 = _
  decide +kernel
theorem d106_24 (L : Nat) (xs : Nat → Int32) : decode (ax_code (mgT L xs) 106) 24 = .ok (.imul, 1) := by
  show decode prog_11_method_3_code 24 = _
  decide +kernel
theorem d106_25 (L : Nat) (xs : Nat → Int32) : decode (ax_code (mgT L xs) 106) 25 = .ok (.lshr, 1) := by
  show decode prog_11_method_3_code 25 = _
  decide +kernel
theorem d106_26 (L : Nat) (xs : Nat → Int32) : decode (ax_code (mgT L xs) 106) 26 = .ok (.l2i, 1) := by
  show decode prog_11_method_3_code 26 = _
  decide +kernel
theorem d106_27 (L : Nat) (xs : Nat → Int32) : decode (ax_code (mgT L xs) 106) 27 = .ok (.sipush 255, 3) := by
  show decode prog_11_method_3_code 27 = _
  decide +kernel
theorem d106_30 (L : Nat) (xs : Nat → Int32) : decode (ax_code (mgT L xs) 106) 30 = .ok (.iand, 1) := by
  show decode prog_11_method_3_code 30 = _
  decide +kernel
theorem d106_31 (L : Nat) (xs : Nat → Int32) : decode (ax_code (mgT L xs) 106) 31 = .ok (.istore 5, 2) := by
  show decode prog_11_method_3_code 31 = _
  decide +kernel
theorem d106_33 (L : Nat) (xs : Nat → Int32) : decode (ax_code (mgT L xs) 106) 33 = .ok (.iload 5, 2) := by
  show decode prog_11_method_3_code 33 = _
  decide +kernel
theorem d106_35 (L : Nat) (xs : Nat → Int32) : decode (ax_code (mgT L xs) 106) 35 = .ok (.ifCond .eq 25, 3) := by
  show decode prog_11_method_3_code 35 = _
  decide +kernel
theorem d106_38 (L : Nat) (xs : Nat → Int32) : decode (ax_code (mgT L xs) 106) 38 = .ok (.iload 5, 2) := by
  show decode prog_11_method_3_code 38 = _
  decide +kernel
theorem d106_40 (L : Nat) (xs : Nat → Int32) : decode (ax_code (mgT L xs) 106) 40 = .ok (.bipush 32, 2) := by
  show decode prog_11_method_3_code 40 = _
  decide +kernel
theorem d106_42 (L : Nat) (xs : Nat → Int32) : decode (ax_code (mgT L xs) 106) 42 = .ok (.if_icmp .lt 16, 3) := by
  show decode prog_11_method_3_code 42 = _
  decide +kernel
theorem d106_45 (L : Nat) (xs : Nat → Int32) : decode (ax_code (mgT L xs) 106) 45 = .ok (.iload 5, 2) := by
  show decode prog_11_method_3_code 45 = _
  decide +kernel
theorem d106_47 (L : Nat) (xs : Nat → Int32) : decode (ax_code (mgT L xs) 106) 47 = .ok (.bipush 126, 2) := by
  show decode prog_11_method_3_code 47 = _
  decide +kernel
theorem d106_49 (L : Nat) (xs : Nat → Int32) : decode (ax_code (mgT L xs) 106) 49 = .ok (.if_icmp .gt 9, 3) := by
  show decode prog_11_method_3_code 49 = _
  decide +kernel
theorem d106_52 (L : Nat) (xs : Nat → Int32) : decode (ax_code (mgT L xs) 106) 52 = .ok (.iload_n 3, 1) := by
  show decode prog_11_method_3_code 52 = _
  decide +kernel
theorem d106_53 (L : Nat) (xs : Nat → Int32) : decode (ax_code (mgT L xs) 106) 53 = .ok (.bipush 100, 2) := by
  show decode prog_11_method_3_code 53 = _
  decide +kernel
theorem d106_55 (L : Nat) (xs : Nat → Int32) : decode (ax_code (mgT L xs) 106) 55 = .ok (.if_icmp .ne 5, 3) := by
  show decode prog_11_method_3_code 55 = _
  decide +kernel
theorem d106_58 (L : Nat) (xs : Nat → Int32) : decode (ax_code (mgT L xs) 106) 58 = .ok (.iconst 0, 1) := by
  show decode prog_11_method_3_code 58 = _
  decide +kernel
theorem d106_59 (L : Nat) (xs : Nat → Int32) : decode (ax_code (mgT L xs) 106) 59 = .ok (.ireturn, 1) := by
  show decode prog_11_method_3_code 59 = _
  decide +kernel
theorem d106_60 (L : Nat) (xs : Nat → Int32) : decode (ax_code (mgT L xs) 106) 60 = .ok (.iload 5, 2) := by
  show decode prog_11_method_3_code 60 = _
  decide +kernel
theorem d106_62 (L : Nat) (xs : Nat → Int32) : decode (ax_code (mgT L xs) 106) 62 = .ok (.ifCond .eq 14, 3) := by
  show decode prog_11_method_3_code 62 = _
  decide +kernel
theorem d106_65 (L : Nat) (xs : Nat → Int32) : decode (ax_code (mgT L xs) 106) 65 = .ok (.aload_n 0, 1) := by
  show decode prog_11_method_3_code 65 = _
  decide +kernel
theorem d106_66 (L : Nat) (xs : Nat → Int32) : decode (ax_code (mgT L xs) 106) 66 = .ok (.getfield 7, 3) := by
  show decode prog_11_method_3_code 66 = _
  decide +kernel
theorem d106_69 (L : Nat) (xs : Nat → Int32) : decode (ax_code (mgT L xs) 106) 69 = .ok (.iload_n 3, 1) := by
  show decode prog_11_method_3_code 69 = _
  decide +kernel
theorem d106_70 (L : Nat) (xs : Nat → Int32) : decode (ax_code (mgT L xs) 106) 70 = .ok (.iload 5, 2) := by
  show decode prog_11_method_3_code 70 = _
  decide +kernel
theorem d106_72 (L : Nat) (xs : Nat → Int32) : decode (ax_code (mgT L xs) 106) 72 = .ok (.iastore, 1) := by
  show decode prog_11_method_3_code 72 = _
  decide +kernel
theorem d106_73 (L : Nat) (xs : Nat → Int32) : decode (ax_code (mgT L xs) 106) 73 = .ok (.iinc 3 1, 3) := by
  show decode prog_11_method_3_code 73 = _
  decide +kernel
theorem d106_76 (L : Nat) (xs : Nat → Int32) : decode (ax_code (mgT L xs) 106) 76 = .ok (.iinc 4 (-1), 3) := by
  show decode prog_11_method_3_code 76 = _
  decide +kernel
theorem d106_79 (L : Nat) (xs : Nat → Int32) : decode (ax_code (mgT L xs) 106) 79 = .ok (.goto (-65), 3) := by
  show decode prog_11_method_3_code 79 = _
  decide +kernel
theorem d106_82 (L : Nat) (xs : Nat → Int32) : decode (ax_code (mgT L xs) 106) 82 = .ok (.aload_n 0, 1) := by
  show decode prog_11_method_3_code 82 = _
  decide +kernel
theorem d106_83 (L : Nat) (xs : Nat → Int32) : decode (ax_code (mgT L xs) 106) 83 = .ok (.iload_n 3, 1) := by
  show decode prog_11_method_3_code 83 = _
  decide +kernel
theorem d106_84 (L : Nat) (xs : Nat → Int32) : decode (ax_code (mgT L xs) 106) 84 = .ok (.putfield 86, 3) := by
  show decode prog_11_method_3_code 84 = _
  decide +kernel
theorem d106_87 (L : Nat) (xs : Nat → Int32) : decode (ax_code (mgT L xs) 106) 87 = .ok (.iconst 1, 1) := by
  show decode prog_11_method_3_code 87 = _
  decide +kernel
theorem d106_88 (L : Nat) (xs : Nat → Int32) : decode (ax_code (mgT L xs) 106) 88 = .ok (.ireturn, 1) := by
  show decode prog_11_method_3_code 88 = _
  decide +kernel
theorem d107_0 (L : Nat) (xs : Nat → Int32) : decode (ax_code (mgT L xs) 107) 0 = .ok (.aload_n 0, 1) := by
  show decode prog_11_method_4_code 0 = _
  decide +kernel
theorem d107_1 (L : Nat) (xs : Nat → Int32) : decode (ax_code (mgT L xs) 107) 1 = .ok (.iconst 0, 1) := by
  show decode prog_11_method_4_code 1 = _
  decide +kernel
theorem d107_2 (L : Nat) (xs : Nat → Int32) : decode (ax_code (mgT L xs) 107) 2 = .ok (.putfield 82, 3) := by
  show decode prog_11_method_4_code 2 = _
  decide +kernel
theorem d107_5 (L : Nat) (xs : Nat → Int32) : decode (ax_code (mgT L xs) 107) 5 = .ok (.aload_n 0, 1) := by
  show decode prog_11_method_4_code 5 = _
  decide +kernel
theorem d107_6 (L : Nat) (xs : Nat → Int32) : decode (ax_code (mgT L xs) 107) 6 = .ok (.iconst 0, 1) := by
  show decode prog_11_method_4_code 6 = _
  decide +kernel
theorem d107_7 (L : Nat) (xs : Nat → Int32) : decode (ax_code (mgT L xs) 107) 7 = .ok (.putfield 86, 3) := by
  show decode prog_11_method_4_code 7 = _
  decide +kernel
theorem d107_10 (L : Nat) (xs : Nat → Int32) : decode (ax_code (mgT L xs) 107) 10 = .ok (.return_, 1) := by
  show decode prog_11_method_4_code 10 = _
  decide +kernel
theorem d108_0 (L : Nat) (xs : Nat → Int32) : decode (ax_code (mgT L xs) 108) 0 = .ok (.aload_n 0, 1) := by
  show decode prog_11_method_5_code 0 = _
  decide +kernel
theorem d108_1 (L : Nat) (xs : Nat → Int32) : decode (ax_code (mgT L xs) 108) 1 = .ok (.iconst 0, 1) := by
  show decode prog_11_method_5_code 1 = _
  decide +kernel
theorem d108_2 (L : Nat) (xs : Nat → Int32) : decode (ax_code (mgT L xs) 108) 2 = .ok (.putfield 82, 3) := by
  show decode prog_11_method_5_code 2 = _
  decide +kernel
theorem d108_5 (L : Nat) (xs : Nat → Int32) : decode (ax_code (mgT L xs) 108) 5 = .ok (.aload_n 0, 1) := by
  show decode prog_11_method_5_code 5 = _
  decide +kernel
theorem d108_6 (L : Nat) (xs : Nat → Int32) : decode (ax_code (mgT L xs) 108) 6 = .ok (.getfield 86, 3) := by
  show decode prog_11_method_5_code 6 = _
  decide +kernel
theorem d108_9 (L : Nat) (xs : Nat → Int32) : decode (ax_code (mgT L xs) 108) 9 = .ok (.ireturn, 1) := by
  show decode prog_11_method_5_code 9 = _
  decide +kernel
theorem d109_0 (L : Nat) (xs : Nat → Int32) : decode (ax_code (mgT L xs) 109) 0 = .ok (.aload_n 0, 1) := by
  show decode prog_11_method_11_code 0 = _
  decide +kernel
theorem d109_1 (L : Nat) (xs : Nat → Int32) : decode (ax_code (mgT L xs) 109) 1 = .ok (.iload_n 1, 1) := by
  show decode prog_11_method_11_code 1 = _
  decide +kernel
theorem d109_2 (L : Nat) (xs : Nat → Int32) : decode (ax_code (mgT L xs) 109) 2 = .ok (.ifCond .lt 8, 3) := by
  show decode prog_11_method_11_code 2 = _
  decide +kernel
theorem d109_5 (L : Nat) (xs : Nat → Int32) : decode (ax_code (mgT L xs) 109) 5 = .ok (.iload_n 1, 1) := by
  show decode prog_11_method_11_code 5 = _
  decide +kernel
theorem d109_6 (L : Nat) (xs : Nat → Int32) : decode (ax_code (mgT L xs) 109) 6 = .ok (.iconst 4, 1) := by
  show decode prog_11_method_11_code 6 = _
  decide +kernel
theorem d109_7 (L : Nat) (xs : Nat → Int32) : decode (ax_code (mgT L xs) 109) 7 = .ok (.if_icmp .le 7, 3) := by
  show decode prog_11_method_11_code 7 = _
  decide +kernel
theorem d109_10 (L : Nat) (xs : Nat → Int32) : decode (ax_code (mgT L xs) 109) 10 = .ok (.iconst 1, 1) := by
  show decode prog_11_method_11_code 10 = _
  decide +kernel
theorem d109_11 (L : Nat) (xs : Nat → Int32) : decode (ax_code (mgT L xs) 109) 11 = .ok (.goto 4, 3) := by
  show decode prog_11_method_11_code 11 = _
  decide +kernel
theorem d109_14 (L : Nat) (xs : Nat → Int32) : decode (ax_code (mgT L xs) 109) 14 = .ok (.iconst 0, 1) := by
  show decode prog_11_method_11_code 14 = _
  decide +kernel
theorem d109_15 (L : Nat) (xs : Nat → Int32) : decode (ax_code (mgT L xs) 109) 15 = .ok (.putfield 82, 3) := by
  show decode prog_11_method_11_code 15 = _
  decide +kernel
theorem d109_18 (L : Nat) (xs : Nat → Int32) : decode (ax_code (mgT L xs) 109) 18 = .ok (.aload_n 0, 1) := by
  show decode prog_11_method_11_code 18 = _
  decide +kernel
theorem d109_19 (L : Nat) (xs : Nat → Int32) : decode (ax_code (mgT L xs) 109) 19 = .ok (.getfield 82, 3) := by
  show decode prog_11_method_11_code 19 = _
  decide +kernel
theorem d109_22 (L : Nat) (xs : Nat → Int32) : decode (ax_code (mgT L xs) 109) 22 = .ok (.ifCond .le 5, 3) := by
  show decode prog_11_method_11_code 22 = _
  decide +kernel
theorem d109_25 (L : Nat) (xs : Nat → Int32) : decode (ax_code (mgT L xs) 109) 25 = .ok (.iconst 0, 1) := by
  show decode prog_11_method_11_code 25 = _
  decide +kernel
theorem d109_26 (L : Nat) (xs : Nat → Int32) : decode (ax_code (mgT L xs) 109) 26 = .ok (.ireturn, 1) := by
  show decode prog_11_method_11_code 26 = _
  decide +kernel
theorem d109_27 (L : Nat) (xs : Nat → Int32) : decode (ax_code (mgT L xs) 109) 27 = .ok (.iconst 0, 1) := by
  show decode prog_11_method_11_code 27 = _
  decide +kernel
theorem d109_28 (L : Nat) (xs : Nat → Int32) : decode (ax_code (mgT L xs) 109) 28 = .ok (.istore_n 2, 1) := by
  show decode prog_11_method_11_code 28 = _
  decide +kernel
theorem d109_29 (L : Nat) (xs : Nat → Int32) : decode (ax_code (mgT L xs) 109) 29 = .ok (.iload_n 2, 1) := by
  show decode prog_11_method_11_code 29 = _
  decide +kernel
theorem d109_30 (L : Nat) (xs : Nat → Int32) : decode (ax_code (mgT L xs) 109) 30 = .ok (.aload_n 0, 1) := by
  show decode prog_11_method_11_code 30 = _
  decide +kernel
theorem d109_31 (L : Nat) (xs : Nat → Int32) : decode (ax_code (mgT L xs) 109) 31 = .ok (.getfield 86, 3) := by
  show decode prog_11_method_11_code 31 = _
  decide +kernel
theorem d109_34 (L : Nat) (xs : Nat → Int32) : decode (ax_code (mgT L xs) 109) 34 = .ok (.if_icmp .ge 32, 3) := by
  show decode prog_11_method_11_code 34 = _
  decide +kernel
theorem d109_66 (L : Nat) (xs : Nat → Int32) : decode (ax_code (mgT L xs) 109) 66 = .ok (.aload_n 0, 1) := by
  show decode prog_11_method_11_code 66 = _
  decide +kernel
theorem d109_67 (L : Nat) (xs : Nat → Int32) : decode (ax_code (mgT L xs) 109) 67 = .ok (.getfield 7, 3) := by
  show decode prog_11_method_11_code 67 = _
  decide +kernel
theorem d109_70 (L : Nat) (xs : Nat → Int32) : decode (ax_code (mgT L xs) 109) 70 = .ok (.iconst 0, 1) := by
  show decode prog_11_method_11_code 70 = _
  decide +kernel
theorem d109_71 (L : Nat) (xs : Nat → Int32) : decode (ax_code (mgT L xs) 109) 71 = .ok (.iload_n 2, 1) := by
  show decode prog_11_method_11_code 71 = _
  decide +kernel
theorem d109_72 (L : Nat) (xs : Nat → Int32) : decode (ax_code (mgT L xs) 109) 72 = .ok (.invokestatic 103, 3) := by
  show decode prog_11_method_11_code 72 = _
  decide +kernel
theorem d109_75 (L : Nat) (xs : Nat → Int32) : decode (ax_code (mgT L xs) 109) 75 = .ok (.ifCond .eq 33, 3) := by
  show decode prog_11_method_11_code 75 = _
  decide +kernel
theorem d109_108 (L : Nat) (xs : Nat → Int32) : decode (ax_code (mgT L xs) 109) 108 = .ok (.iconst 0, 1) := by
  show decode prog_11_method_11_code 108 = _
  decide +kernel
theorem d109_109 (L : Nat) (xs : Nat → Int32) : decode (ax_code (mgT L xs) 109) 109 = .ok (.istore_n 3, 1) := by
  show decode prog_11_method_11_code 109 = _
  decide +kernel
theorem d109_110 (L : Nat) (xs : Nat → Int32) : decode (ax_code (mgT L xs) 109) 110 = .ok (.iconst 0, 1) := by
  show decode prog_11_method_11_code 110 = _
  decide +kernel
theorem d109_111 (L : Nat) (xs : Nat → Int32) : decode (ax_code (mgT L xs) 109) 111 = .ok (.istore 4, 2) := by
  show decode prog_11_method_11_code 111 = _
  decide +kernel
theorem d109_113 (L : Nat) (xs : Nat → Int32) : decode (ax_code (mgT L xs) 109) 113 = .ok (.iload_n 3, 1) := by
  show decode prog_11_method_11_code 113 = _
  decide +kernel
theorem d109_114 (L : Nat) (xs : Nat → Int32) : decode (ax_code (mgT L xs) 109) 114 = .ok (.ifCond .eq 44, 3) := by
  show decode prog_11_method_11_code 114 = _
  decide +kernel
theorem d109_158 (L : Nat) (xs : Nat → Int32) : decode (ax_code (mgT L xs) 109) 158 = .ok (.iload_n 3, 1) := by
  show decode prog_11_method_11_code 158 = _
  decide +kernel
theorem d109_159 (L : Nat) (xs : Nat → Int32) : decode (ax_code (mgT L xs) 109) 159 = .ok (.ifCond .eq 23, 3) := by
  show decode prog_11_method_11_code 159 = _
  decide +kernel
theorem d109_182 (L : Nat) (xs : Nat → Int32) : decode (ax_code (mgT L xs) 109) 182 = .ok (.aload_n 0, 1) := by
  show decode prog_11_method_11_code 182 = _
  decide +kernel
theorem d109_183 (L : Nat) (xs : Nat → Int32) : decode (ax_code (mgT L xs) 109) 183 = .ok (.iload_n 3, 1) := by
  show decode prog_11_method_11_code 183 = _
  decide +kernel
theorem d109_184 (L : Nat) (xs : Nat → Int32) : decode (ax_code (mgT L xs) 109) 184 = .ok (.ifCond .ne 7, 3) := by
  show decode prog_11_method_11_code 184 = _
  decide +kernel
theorem d109_187 (L : Nat) (xs : Nat → Int32) : decode (ax_code (mgT L xs) 109) 187 = .ok (.iconst 1, 1) := by
  show decode prog_11_method_11_code 187 = _
  decide +kernel
theorem d109_188 (L : Nat) (xs : Nat → Int32) : decode (ax_code (mgT L xs) 109) 188 = .ok (.goto 17, 3) := by
  show decode prog_11_method_11_code 188 = _
  decide +kernel
theorem d109_205 (L : Nat) (xs : Nat → Int32) : decode (ax_code (mgT L xs) 109) 205 = .ok (.putfield 82, 3) := by
  show decode prog_11_method_11_code 205 = _
  decide +kernel
theorem d109_208 (L : Nat) (xs : Nat → Int32) : decode (ax_code (mgT L xs) 109) 208 = .ok (.aload_n 0, 1) := by
  show decode prog_11_method_11_code 208 = _
  decide +kernel
theorem d109_209 (L : Nat) (xs : Nat → Int32) : decode (ax_code (mgT L xs) 109) 209 = .ok (.getfield 82, 3) := by
  show decode prog_11_method_11_code 209 = _
  decide +kernel
theorem d109_212 (L : Nat) (xs : Nat → Int32) : decode (ax_code (mgT L xs) 109) 212 = .ok (.ifCond .le 5, 3) := by
  show decode prog_11_method_11_code 212 = _
  decide +kernel
theorem d109_215 (L : Nat) (xs : Nat → Int32) : decode (ax_code (mgT L xs) 109) 215 = .ok (.iconst 0, 1) := by
  show decode prog_11_method_11_code 215 = _
  decide +kernel
theorem d109_216 (L : Nat) (xs : Nat → Int32) : decode (ax_code (mgT L xs) 109) 216 = .ok (.ireturn, 1) := by
  show decode prog_11_method_11_code 216 = _
  decide +kernel
theorem d110_0 (L : Nat) (xs : Nat → Int32) : decode (ax_code (mgT L xs) 110) 0 = .ok (.iload_n 2, 1) := by
  show decode prog_11_method_8_code 0 = _
  decide +kernel
theorem d110_1 (L : Nat) (xs : Nat → Int32) : decode (ax_code (mgT L xs) 110) 1 = .ok (.iload_n 1, 1) := by
  show decode prog_11_method_8_code 1 = _
  decide +kernel
theorem d110_2 (L : Nat) (xs : Nat → Int32) : decode (ax_code (mgT L xs) 110) 2 = .ok (.isub, 1) := by
  show decode prog_11_method_8_code 2 = _
  decide +kernel
theorem d110_3 (L : Nat) (xs : Nat → Int32) : decode (ax_code (mgT L xs) 110) 3 = .ok (.iconst 1, 1) := by
  show decode prog_11_method_8_code 3 = _
  decide +kernel
theorem d110_4 (L : Nat) (xs : Nat → Int32) : decode (ax_code (mgT L xs) 110) 4 = .ok (.if_icmp .lt 11, 3) := by
  show decode prog_11_method_8_code 4 = _
  decide +kernel
theorem d110_15 (L : Nat) (xs : Nat → Int32) : decode (ax_code (mgT L xs) 110) 15 = .ok (.iconst 0, 1) := by
  show decode prog_11_method_8_code 15 = _
  decide +kernel
theorem d110_16 (L : Nat) (xs : Nat → Int32) : decode (ax_code (mgT L xs) 110) 16 = .ok (.ireturn, 1) := by
  show decode prog_11_method_8_code 16 = _
  decide +kernel
theorem d115_0 (L : Nat) (xs : Nat → Int32) : decode (ax_code (mgT L xs) 115) 0 = .ok (.aload_n 0, 1) := by
  show decode prog_11_method_12_code 0 = _
  decide +kernel
theorem d115_1 (L : Nat) (xs : Nat → Int32) : decode (ax_code (mgT L xs) 115) 1 = .ok (.iconst 0, 1) := by
  show decode prog_11_method_12_code 1 = _
  decide +kernel
theorem d115_2 (L : Nat) (xs : Nat → Int32) : decode (ax_code (mgT L xs) 115) 2 = .ok (.putfield 82, 3) := by
  show decode prog_11_method_12_code 2 = _
  decide +kernel
theorem d115_5 (L : Nat) (xs : Nat → Int32) : decode (ax_code (mgT L xs) 115) 5 = .ok (.iload_n 1, 1) := by
  show decode prog_11_method_12_code 5 = _
  decide +kernel
theorem d115_6 (L : Nat) (xs : Nat → Int32) : decode (ax_code (mgT L xs) 115) 6 = .ok (.ifCond .lt 11, 3) := by
  show decode prog_11_method_12_code 6 = _
  decide +kernel
theorem d115_9 (L : Nat) (xs : Nat → Int32) : decode (ax_code (mgT L xs) 115) 9 = .ok (.iload_n 1, 1) := by
  show decode prog_11_method_12_code 9 = _
  decide +kernel
theorem d115_10 (L : Nat) (xs : Nat → Int32) : decode (ax_code (mgT L xs) 115) 10 = .ok (.aload_n 0, 1) := by
  show decode prog_11_method_12_code 10 = _
  decide +kernel
theorem d115_11 (L : Nat) (xs : Nat → Int32) : decode (ax_code (mgT L xs) 115) 11 = .ok (.getfield 111, 3) := by
  show decode prog_11_method_12_code 11 = _
  decide +kernel
theorem d115_14 (L : Nat) (xs : Nat → Int32) : decode (ax_code (mgT L xs) 115) 14 = .ok (.if_icmp .lt 5, 3) := by
  show decode prog_11_method_12_code 14 = _
  decide +kernel
theorem d115_17 (L : Nat) (xs : Nat → Int32) : decode (ax_code (mgT L xs) 115) 17 = .ok (.iconst 0, 1) := by
  show decode prog_11_method_12_code 17 = _
  decide +kernel
theorem d115_18 (L : Nat) (xs : Nat → Int32) : decode (ax_code (mgT L xs) 115) 18 = .ok (.ireturn, 1) := by
  show decode prog_11_method_12_code 18 = _
  decide +kernel
theorem d116_0 (L : Nat) (xs : Nat → Int32) : decode (ax_code (mgT L xs) 116) 0 = .ok (.aload_n 0, 1) := by
  show decode prog_11_method_49_code 0 = _
  decide +kernel
theorem d116_1 (L : Nat) (xs : Nat → Int32) : decode (ax_code (mgT L xs) 116) 1 = .ok (.aload_n 0, 1) := by
  show decode prog_11_method_49_code 1 = _
  decide +kernel
theorem d116_2 (L : Nat) (xs : Nat → Int32) : decode (ax_code (mgT L xs) 116) 2 = .ok (.getfield 7, 3) := by
  show decode prog_11_method_49_code 2 = _
  decide +kernel
theorem d116_5 (L : Nat) (xs : Nat → Int32) : decode (ax_code (mgT L xs) 116) 5 = .ok (.iconst 0, 1) := by
  show decode prog_11_method_49_code 5 = _
  decide +kernel
theorem d116_6 (L : Nat) (xs : Nat → Int32) : decode (ax_code (mgT L xs) 116) 6 = .ok (.aload_n 0, 1) := by
  show decode prog_11_method_49_code 6 = _
  decide +kernel
theorem d116_7 (L : Nat) (xs : Nat → Int32) : decode (ax_code (mgT L xs) 116) 7 = .ok (.getfield 86, 3) := by
  show decode prog_11_method_49_code 7 = _
  decide +kernel
theorem d116_10 (L : Nat) (xs : Nat → Int32) : decode (ax_code (mgT L xs) 116) 10 = .ok (.invokestatic 103, 3) := by
  show decode prog_11_method_49_code 10 = _
  decide +kernel
theorem d116_13 (L : Nat) (xs : Nat → Int32) : decode (ax_code (mgT L xs) 116) 13 = .ok (.ifCond .eq 7, 3) := by
  show decode prog_11_method_49_code 13 = _
  decide +kernel
theorem d116_20 (L : Nat) (xs : Nat → Int32) : decode (ax_code (mgT L xs) 116) 20 = .ok (.iconst 1, 1) := by
  show decode prog_11_method_49_code 20 = _
  decide +kernel
theorem d116_21 (L : Nat) (xs : Nat → Int32) : decode (ax_code (mgT L xs) 116) 21 = .ok (.putfield 82, 3) := by
  show decode prog_11_method_49_code 21 = _
  decide +kernel
theorem d116_24 (L : Nat) (xs : Nat → Int32) : decode (ax_code (mgT L xs) 116) 24 = .ok (.aload_n 0, 1) := by
  show decode prog_11_method_49_code 24 = _
  decide +kernel
theorem d116_25 (L : Nat) (xs : Nat → Int32) : decode (ax_code (mgT L xs) 116) 25 = .ok (.getfield 82, 3) := by
  show decode prog_11_method_49_code 25 = _
  decide +kernel
theorem d116_28 (L : Nat) (xs : Nat → Int32) : decode (ax_code (mgT L xs) 116) 28 = .ok (.ifCond .le 5, 3) := by
  show decode prog_11_method_49_code 28 = _
  decide +kernel
theorem d116_31 (L : Nat) (xs : Nat → Int32) : decode (ax_code (mgT L xs) 116) 31 = .ok (.iconst 0, 1) := by
  show decode prog_11_method_49_code 31 = _
  decide +kernel
theorem d116_32 (L : Nat) (xs : Nat → Int32) : decode (ax_code (mgT L xs) 116) 32 = .ok (.ireturn, 1) := by
  show decode prog_11_method_49_code 32 = _
  decide +kernel
theorem d153_0 (L : Nat) (xs : Nat → Int32) : decode (ax_code (mgT L xs) 153) 0 = .ok (.aload_n 0, 1) := by
  show decode prog_11_method_50_code 0 = _
  decide +kernel
theorem d153_1 (L : Nat) (xs : Nat → Int32) : decode (ax_code (mgT L xs) 153) 1 = .ok (.iconst 0, 1) := by
  show decode prog_11_method_50_code 1 = _
  decide +kernel
theorem d153_2 (L : Nat) (xs : Nat → Int32) : decode (ax_code (mgT L xs) 153) 2 = .ok (.putfield 82, 3) := by
  show decode prog_11_method_50_code 2 = _
  decide +kernel
theorem d153_5 (L : Nat) (xs : Nat → Int32) : decode (ax_code (mgT L xs) 153) 5 = .ok (.aload_n 0, 1) := by
  show decode prog_11_method_50_code 5 = _
  decide +kernel
theorem d153_6 (L : Nat) (xs : Nat → Int32) : decode (ax_code (mgT L xs) 153) 6 = .ok (.getfield 280, 3) := by
  show decode prog_11_method_50_code 6 = _
  decide +kernel
theorem d153_9 (L : Nat) (xs : Nat → Int32) : decode (ax_code (mgT L xs) 153) 9 = .ok (.ifCond .ne 5, 3) := by
  show decode prog_11_method_50_code 9 = _
  decide +kernel
theorem d153_12 (L : Nat) (xs : Nat → Int32) : decode (ax_code (mgT L xs) 153) 12 = .ok (.iconst (-1), 1) := by
  show decode prog_11_method_50_code 12 = _
  decide +kernel
theorem d153_13 (L : Nat) (xs : Nat → Int32) : decode (ax_code (mgT L xs) 153) 13 = .ok (.ireturn, 1) := by
  show decode prog_11_method_50_code 13 = _
  decide +kernel
theorem d154_0 (L : Nat) (xs : Nat → Int32) : decode (ax_code (mgT L xs) 154) 0 = .ok (.aload_n 0, 1) := by
  show decode prog_11_method_51_code 0 = _
  decide +kernel
theorem d154_1 (L : Nat) (xs : Nat → Int32) : decode (ax_code (mgT L xs) 154) 1 = .ok (.iconst 0, 1) := by
  show decode prog_11_method_51_code 1 = _
  decide +kernel
theorem d154_2 (L : Nat) (xs : Nat → Int32) : decode (ax_code (mgT L xs) 154) 2 = .ok (.putfield 82, 3) := by
  show decode prog_11_method_51_code 2 = _
  decide +kernel
theorem d154_5 (L : Nat) (xs : Nat → Int32) : decode (ax_code (mgT L xs) 154) 5 = .ok (.aload_n 0, 1) := by
  show decode prog_11_method_51_code 5 = _
  decide +kernel
theorem d154_6 (L : Nat) (xs : Nat → Int32) : decode (ax_code (mgT L xs) 154) 6 = .ok (.getfield 117, 3) := by
  show decode prog_11_method_51_code 6 = _
  decide +kernel
theorem d154_9 (L : Nat) (xs : Nat → Int32) : decode (ax_code (mgT L xs) 154) 9 = .ok (.ifCond .ne 7, 3) := by
  show decode prog_11_method_51_code 9 = _
  decide +kernel
theorem d154_12 (L : Nat) (xs : Nat → Int32) : decode (ax_code (mgT L xs) 154) 12 = .ok (.iconst (-1), 1) := by
  show decode prog_11_method_51_code 12 = _
  decide +kernel
theorem d154_13 (L : Nat) (xs : Nat → Int32) : decode (ax_code (mgT L xs) 154) 13 = .ok (.goto 37, 3) := by
  show decode prog_11_method_51_code 13 = _
  decide +kernel
theorem d154_50 (L : Nat) (xs : Nat → Int32) : decode (ax_code (mgT L xs) 154) 50 = .ok (.ireturn, 1) := by
  show decode prog_11_method_51_code 50 = _
  decide +kernel
theorem d155_0 (L : Nat) (xs : Nat → Int32) : decode (ax_code (mgT L xs) 155) 0 = .ok (.aload_n 0, 1) := by
  show decode prog_11_method_59_code 0 = _
  decide +kernel
theorem d155_1 (L : Nat) (xs : Nat → Int32) : decode (ax_code (mgT L xs) 155) 1 = .ok (.aload_n 0, 1) := by
  show decode prog_11_method_59_code 1 = _
  decide +kernel
theorem d155_2 (L : Nat) (xs : Nat → Int32) : decode (ax_code (mgT L xs) 155) 2 = .ok (.getfield 7, 3) := by
  show decode prog_11_method_59_code 2 = _
  decide +kernel
theorem d155_5 (L : Nat) (xs : Nat → Int32) : decode (ax_code (mgT L xs) 155) 5 = .ok (.iconst 0, 1) := by
  show decode prog_11_method_59_code 5 = _
  decide +kernel
theorem d155_6 (L : Nat) (xs : Nat → Int32) : decode (ax_code (mgT L xs) 155) 6 = .ok (.aload_n 0, 1) := by
  show decode prog_11_method_59_code 6 = _
  decide +kernel
theorem d155_7 (L : Nat) (xs : Nat → Int32) : decode (ax_code (mgT L xs) 155) 7 = .ok (.getfield 86, 3) := by
  show decode prog_11_method_59_code 7 = _
  decide +kernel
theorem d155_10 (L : Nat) (xs : Nat → Int32) : decode (ax_code (mgT L xs) 155) 10 = .ok (.invokestatic 103, 3) := by
  show decode prog_11_method_59_code 10 = _
  decide +kernel
theorem d155_13 (L : Nat) (xs : Nat → Int32) : decode (ax_code (mgT L xs) 155) 13 = .ok (.ifCond .eq 13, 3) := by
  show decode prog_11_method_59_code 13 = _
  decide +kernel
theorem d155_26 (L : Nat) (xs : Nat → Int32) : decode (ax_code (mgT L xs) 155) 26 = .ok (.iconst 1, 1) := by
  show decode prog_11_method_59_code 26 = _
  decide +kernel
theorem d155_27 (L : Nat) (xs : Nat → Int32) : decode (ax_code (mgT L xs) 155) 27 = .ok (.goto 15, 3) := by
  show decode prog_11_method_59_code 27 = _
  decide +kernel
theorem d155_42 (L : Nat) (xs : Nat → Int32) : decode (ax_code (mgT L xs) 155) 42 = .ok (.putfield 82, 3) := by
  show decode prog_11_method_59_code 42 = _
  decide +kernel
theorem d155_45 (L : Nat) (xs : Nat → Int32) : decode (ax_code (mgT L xs) 155) 45 = .ok (.aload_n 0, 1) := by
  show decode prog_11_method_59_code 45 = _
  decide +kernel
theorem d155_46 (L : Nat) (xs : Nat → Int32) : decode (ax_code (mgT L xs) 155) 46 = .ok (.getfield 82, 3) := by
  show decode prog_11_method_59_code 46 = _
  decide +kernel
theorem d155_49 (L : Nat) (xs : Nat → Int32) : decode (ax_code (mgT L xs) 155) 49 = .ok (.ifCond .le 5, 3) := by
  show decode prog_11_method_59_code 49 = _
  decide +kernel
theorem d155_52 (L : Nat) (xs : Nat → Int32) : decode (ax_code (mgT L xs) 155) 52 = .ok (.iconst 0, 1) := by
  show decode prog_11_method_59_code 52 = _
  decide +kernel
theorem d155_53 (L : Nat) (xs : Nat → Int32) : decode (ax_code (mgT L xs) 155) 53 = .ok (.ireturn, 1) := by
  show decode prog_11_method_59_code 53 = _
  decide +kernel
theorem d163_0 (L : Nat) (xs : Nat → Int32) : decode (ax_code (mgT L xs) 163) 0 = .ok (.aload_n 0, 1) := by
  show decode prog_11_method_60_code 0 = _
  decide +kernel
theorem d163_1 (L : Nat) (xs : Nat → Int32) : decode (ax_code (mgT L xs) 163) 1 = .ok (.iconst 0, 1) := by
  show decode prog_11_method_60_code 1 = _
  decide +kernel
theorem d163_2 (L : Nat) (xs : Nat → Int32) : decode (ax_code (mgT L xs) 163) 2 = .ok (.putfield 82, 3) := by
  show decode prog_11_method_60_code 2 = _
  decide +kernel
theorem d163_5 (L : Nat) (xs : Nat → Int32) : decode (ax_code (mgT L xs) 163) 5 = .ok (.iload_n 1, 1) := by
  show decode prog_11_method_60_code 5 = _
  decide +kernel
theorem d163_6 (L : Nat) (xs : Nat → Int32) : decode (ax_code (mgT L xs) 163) 6 = .ok (.iconst (-1), 1) := by
  show decode prog_11_method_60_code 6 = _
  decide +kernel
theorem d163_7 (L : Nat) (xs : Nat → Int32) : decode (ax_code (mgT L xs) 163) 7 = .ok (.if_icmp .ne 10, 3) := by
  show decode prog_11_method_60_code 7 = _
  decide +kernel
theorem d163_10 (L : Nat) (xs : Nat → Int32) : decode (ax_code (mgT L xs) 163) 10 = .ok (.aload_n 0, 1) := by
  show decode prog_11_method_60_code 10 = _
  decide +kernel
theorem d163_11 (L : Nat) (xs : Nat → Int32) : decode (ax_code (mgT L xs) 163) 11 = .ok (.getfield 111, 3) := by
  show decode prog_11_method_60_code 11 = _
  decide +kernel
theorem d163_14 (L : Nat) (xs : Nat → Int32) : decode (ax_code (mgT L xs) 163) 14 = .ok (.goto 25, 3) := by
  show decode prog_11_method_60_code 14 = _
  decide +kernel
theorem d163_17 (L : Nat) (xs : Nat → Int32) : decode (ax_code (mgT L xs) 163) 17 = .ok (.iload_n 1, 1) := by
  show decode prog_11_method_60_code 17 = _
  decide +kernel
theorem d163_18 (L : Nat) (xs : Nat → Int32) : decode (ax_code (mgT L xs) 163) 18 = .ok (.ifCond .lt 11, 3) := by
  show decode prog_11_method_60_code 18 = _
  decide +kernel
theorem d163_21 (L : Nat) (xs : Nat → Int32) : decode (ax_code (mgT L xs) 163) 21 = .ok (.iload_n 1, 1) := by
  show decode prog_11_method_60_code 21 = _
  decide +kernel
theorem d163_22 (L : Nat) (xs : Nat → Int32) : decode (ax_code (mgT L xs) 163) 22 = .ok (.aload_n 0, 1) := by
  show decode prog_11_method_60_code 22 = _
  decide +kernel
theorem d163_23 (L : Nat) (xs : Nat → Int32) : decode (ax_code (mgT L xs) 163) 23 = .ok (.getfield 111, 3) := by
  show decode prog_11_method_60_code 23 = _
  decide +kernel
theorem d163_26 (L : Nat) (xs : Nat → Int32) : decode (ax_code (mgT L xs) 163) 26 = .ok (.if_icmp .lt 7, 3) := by
  show decode prog_11_method_60_code 26 = _
  decide +kernel
theorem d163_29 (L : Nat) (xs : Nat → Int32) : decode (ax_code (mgT L xs) 163) 29 = .ok (.iconst (-1), 1) := by
  show decode prog_11_method_60_code 29 = _
  decide +kernel
theorem d163_30 (L : Nat) (xs : Nat → Int32) : decode (ax_code (mgT L xs) 163) 30 = .ok (.goto 9, 3) := by
  show decode prog_11_method_60_code 30 = _
  decide +kernel
theorem d163_39 (L : Nat) (xs : Nat → Int32) : decode (ax_code (mgT L xs) 163) 39 = .ok (.ireturn, 1) := by
  show decode prog_11_method_60_code 39 = _
  decide +kernel
end
section
theorem z18_1 (L : Nat) (xs : Nat → Int32) {d : Nat} {h : ax_H} (hz : h.2.1 = 167) (F1 : h.1 1 = some (.inr (1, [.ref 2, .int 0]))) : ax_Ca (mgT L xs) (d + 1) 18 [.ref 1] h (.inl none, (ax_up h 1 (.inr (1, [.ref 2, .int 0])))) := by
  refine ag_call (Nat.le_of_ble_eq_true rfl) ?_
  show ax_Go (mgT L xs) (d + 0) 18 0 [some (.ref 1)] [] h _
  refine ag_aload_n (d18_0 L xs) rfl ?_
  refine ag_iconst (d18_1 L xs) (x := 0) (by decide) ?_
  refine ag_put (d18_2 L xs) (cj := 1) (k0 := 1) rfl F1 (ax_lt hz (Nat.le_of_ble_eq_true rfl)) (Nat.le_of_ble_eq_true rfl) rfl rfl ?_
  exact ag_vret (d18_5 L xs) rfl
theorem z17_2 (L : Nat) (xs : Nat → Int32) {d : Nat} {h : ax_H} (hz : h.2.1 = 167) (F0 : h.1 0 = some (.inr (0, [.ref 1, .ref 3, .ref 87, .ref 137]))) (F1 : h.1 1 = some (.inr (1, [.ref 2, .int 0]))) : ax_Ca (mgT L xs) (d + 2) 17 [.ref 0] h (.inl none, (ax_up h 1 (.inr (1, [.ref 2, .int 0])))) := by
  refine ag_call (Nat.le_of_ble_eq_true rfl) ?_
  show ax_Go (mgT L xs) (d + 1) 17 0 [some (.ref 0)] [] h _
  refine ag_aload_n (d17_0 L xs) rfl ?_
  refine ag_get (d17_1 L xs) (kd := 1) (cj := 0) (k0 := 0) rfl (Or.inl rfl) F0 rfl ?_
  refine ag_invv (d17_4 L xs) (kd := 7) (mj := 18) (n := 0) rfl (Or.inl rfl) (xs := []) (r := []) rfl rfl F1 rfl (Nat.le_of_ble_eq_true rfl) (z18_1 L xs (d := d + 0) (h := _) hz F1) ?_
  exact ag_vret (d17_7 L xs) rfl
theorem z15_3 (L : Nat) (xs : Nat → Int32) {d : Nat} {h : ax_H} (hz : h.2.1 = 167) (F1 : h.1 1 = some (.inr (1, [.ref 2, .int 0]))) : ax_Ca (mgT L xs) (d + 1) 15 [.ref 1] h (.inl (some (.int 0)), h) := by
  refine ag_call (Nat.le_of_ble_eq_true rfl) ?_
  show ax_Go (mgT L xs) (d + 0) 15 0 [some (.ref 1)] [] h _
  refine ag_aload_n (d15_0 L xs) rfl ?_
  refine ag_get (d15_1 L xs) (kd := 1) (cj := 1) (k0 := 1) rfl (Or.inl rfl) F1 rfl ?_
  exact ag_iret (d15_4 L xs) rfl rfl
theorem z19_4 (L : Nat) (xs : Nat → Int32) {d : Nat} {h : ax_H} (hz : h.2.1 = 167) (F0 : h.1 0 = some (.inr (0, [.ref 1, .ref 3, .ref 87, .ref 137]))) (F1 : h.1 1 = some (.inr (1, [.ref 2, .int 0]))) : ax_Ca (mgT L xs) (d + 2) 19 [.ref 0] h (.inl (some (.int 0)), h) := by
  refine ag_call (Nat.le_of_ble_eq_true rfl) ?_
  show ax_Go (mgT L xs) (d + 1) 19 0 [some (.ref 0)] [] h _
  refine ag_aload_n (d19_0 L xs) rfl ?_
  refine ag_get (d19_1 L xs) (kd := 1) (cj := 0) (k0 := 0) rfl (Or.inl rfl) F0 rfl ?_
  refine ag_invv (d19_4 L xs) (kd := 7) (mj := 15) (n := 0) rfl (Or.inl rfl) (xs := []) (r := []) rfl rfl F1 rfl (Nat.le_of_ble_eq_true rfl) (z15_3 L xs (d := d + 0) (h := _) hz F1) ?_
  exact ag_iret (d19_7 L xs) rfl rfl
theorem z21_5 (L : Nat) (xs : Nat → Int32) {d : Nat} {h : ax_H} {k : Int32} (hz : h.2.1 = 167) (hc_0 : k < 0) : ax_Ca (mgT L xs) (d + 1) 21 [.ref 3, .int k] h (.inl (some (.int 0)), h) := by
  refine ag_call (Nat.le_of_ble_eq_true rfl) ?_
  show ax_Go (mgT L xs) (d + 0) 21 0 [some (.ref 3), some (.int k), none, none] [] h _
  refine ag_iload_n (d21_0 L xs) rfl ?_
  refine ag_if_lt (d21_1 L xs) (t := 12) (by decide) (fun _ => ?_) (fun hn => absurd hc_0 hn)
  refine ag_iconst (d21_12 L xs) (x := 0) (by decide) ?_
  exact ag_iret (d21_13 L xs) rfl rfl
theorem z21_6 (L : Nat) (xs : Nat → Int32) {d : Nat} {h : ax_H} {k : Int32} (hz : h.2.1 = 167) (F3 : h.1 3 = some (.inr (3, [.ref 4, .int 0, .ref 5]))) (hc_0 : ¬ (k < 0)) : ax_Ca (mgT L xs) (d + 1) 21 [.ref 3, .int k] h (.inl (some (.int 0)), h) := by
  refine ag_call (Nat.le_of_ble_eq_true rfl) ?_
  show ax_Go (mgT L xs) (d + 0) 21 0 [some (.ref 3), some (.int k), none, none] [] h _
  refine ag_iload_n (d21_0 L xs) rfl ?_
  refine ag_if_lt (d21_1 L xs) (t := 12) (by decide) (fun hp => absurd hp hc_0) (fun _ => ?_)
  refine ag_iload_n (d21_4 L xs) rfl ?_
  refine ag_aload_n (d21_5 L xs) rfl ?_
  refine ag_get (d21_6 L xs) (kd := 1) (cj := 3) (k0 := 1) rfl (Or.inl rfl) F3 rfl ?_
  refine ag_icmp_lt (d21_9 L xs) (t := 14) (by decide) (fun hp => absurd hp hc_0) (fun _ => ?_)
  refine ag_iconst (d21_12 L xs) (x := 0) (by decide) ?_
  exact ag_iret (d21_13 L xs) rfl rfl
theorem z20_7 (L : Nat) (xs : Nat → Int32) {d : Nat} {h : ax_H} {k : Int32} (hz : h.2.1 = 167) (F0 : h.1 0 = some (.inr (0, [.ref 1, .ref 3, .ref 87, .ref 137]))) (F3 : h.1 3 = some (.inr (3, [.ref 4, .int 0, .ref 5]))) (hc_0 : k < 0) : ax_Ca (mgT L xs) (d + 2) 20 [.ref 0, .int k] h (.inl (some (.int 0)), h) := by
  refine ag_call (Nat.le_of_ble_eq_true rfl) ?_
  show ax_Go (mgT L xs) (d + 1) 20 0 [some (.ref 0), some (.int k)] [] h _
  refine ag_aload_n (d20_0 L xs) rfl ?_
  refine ag_get (d20_1 L xs) (kd := 1) (cj := 0) (k0 := 1) rfl (Or.inl rfl) F0 rfl ?_
  refine ag_iload_n (d20_4 L xs) rfl ?_
  refine ag_invv (d20_5 L xs) (kd := 7) (mj := 21) (n := 1) rfl (Or.inl rfl) (xs := [.int k]) (r := []) rfl rfl F3 rfl (Nat.le_of_ble_eq_true rfl) (z21_5 L xs (d := d + 0) (h := _) (k := k) hz hc_0) ?_
  exact ag_iret (d20_8 L xs) rfl rfl
theorem z20_8 (L : Nat) (xs : Nat → Int32) {d : Nat} {h : ax_H} {k : Int32} (hz : h.2.1 = 167) (F0 : h.1 0 = some (.inr (0, [.ref 1, .ref 3, .ref 87, .ref 137]))) (F3 : h.1 3 = some (.inr (3, [.ref 4, .int 0, .ref 5]))) (hc_0 : ¬ (k < 0)) : ax_Ca (mgT L xs) (d + 2) 20 [.ref 0, .int k] h (.inl (some (.int 0)), h) := by
  refine ag_call (Nat.le_of_ble_eq_true rfl) ?_
  show ax_Go (mgT L xs) (d + 1) 20 0 [some (.ref 0), some (.int k)] [] h _
  refine ag_aload_n (d20_0 L xs) rfl ?_
  refine ag_get (d20_1 L xs) (kd := 1) (cj := 0) (k0 := 1) rfl (Or.inl rfl) F0 rfl ?_
  refine ag_iload_n (d20_4 L xs) rfl ?_
  refine ag_invv (d20_5 L xs) (kd := 7) (mj := 21) (n := 1) rfl (Or.inl rfl) (xs := [.int k]) (r := []) rfl rfl F3 rfl (Nat.le_of_ble_eq_true rfl) (z21_6 L xs (d := d + 0) (h := _) (k := k) hz F3 hc_0) ?_
  exact ag_iret (d20_8 L xs) rfl rfl
theorem z23_9 (L : Nat) (xs : Nat → Int32) {d : Nat} {h : ax_H} (hz : h.2.1 = 167) (F87 : h.1 87 = some (.inr (6, [.ref 3, .ref 88, .ref 89, .ref 91, .int 0, .int (-1), .int 0, .int 0, .int 0, .int 0]))) : ax_Ca (mgT L xs) (d + 1) 23 [.ref 87] h (.inl (some (.int 0)), h) := by
  refine ag_call (Nat.le_of_ble_eq_true rfl) ?_
  show ax_Go (mgT L xs) (d + 0) 23 0 [some (.ref 87)] [] h _
  refine ag_aload_n (d23_0 L xs) rfl ?_
  refine ag_get (d23_1 L xs) (kd := 1) (cj := 6) (k0 := 5) rfl (Or.inl rfl) F87 rfl ?_
  refine ag_iconst (d23_4 L xs) (x := (-1)) (by decide) ?_
  refine ag_icmp_eq (d23_5 L xs) (t := 12) (by decide) (fun _ => ?_) (fun hn => absurd (by decide) hn)
  refine ag_iconst (d23_12 L xs) (x := 0) (by decide) ?_
  exact ag_iret (d23_13 L xs) rfl rfl
theorem z22_10 (L : Nat) (xs : Nat → Int32) {d : Nat} {h : ax_H} {k : Int32} (hz : h.2.1 = 167) (F0 : h.1 0 = some (.inr (0, [.ref 1, .ref 3, .ref 87, .ref 137]))) (F87 : h.1 87 = some (.inr (6, [.ref 3, .ref 88, .ref 89, .ref 91, .int 0, .int (-1), .int 0, .int 0, .int 0, .int 0]))) : ax_Ca (mgT L xs) (d + 2) 22 [.ref 0, .int k] h (.inl (some (.int (-1))), h) := by
  refine ag_call (Nat.le_of_ble_eq_true rfl) ?_
  show ax_Go (mgT L xs) (d + 1) 22 0 [some (.ref 0), some (.int k)] [] h _
  refine ag_aload_n (d22_0 L xs) rfl ?_
  refine ag_get (d22_1 L xs) (kd := 1) (cj := 0) (k0 := 2) rfl (Or.inl rfl) F0 rfl ?_
  refine ag_invv (d22_4 L xs) (kd := 7) (mj := 23) (n := 0) rfl (Or.inl rfl) (xs := []) (r := []) rfl rfl F87 rfl (Nat.le_of_ble_eq_true rfl) (z23_9 L xs (d := d + 0) (h := _) hz F87) ?_
  refine ag_if_ne (d22_7 L xs) (t := 12) (by decide) (fun hp => absurd hp (by decide)) (fun _ => ?_)
  refine ag_iconst (d22_10 L xs) (x := (-1)) (by decide) ?_
  exact ag_iret (d22_11 L xs) rfl rfl
theorem z30_11 (L : Nat) (xs : Nat → Int32) {d : Nat} {h : ax_H} (hz : h.2.1 = 167) (F3 : h.1 3 = some (.inr (3, [.ref 4, .int 0, .ref 5]))) : ax_Ca (mgT L xs) (d + 1) 30 [.ref 3] h (.inl (some (.ref 5)), h) := by
  refine ag_call (Nat.le_of_ble_eq_true rfl) ?_
  show ax_Go (mgT L xs) (d + 0) 30 0 [some (.ref 3)] [] h _
  refine ag_aload_n (d30_0 L xs) rfl ?_
  refine ag_get (d30_1 L xs) (kd := 1) (cj := 3) (k0 := 2) rfl (Or.inl rfl) F3 rfl ?_
  exact ag_aret (d30_4 L xs) rfl
theorem z15_12 (L : Nat) (xs : Nat → Int32) {d : Nat} {h : ax_H} (hz : h.2.1 = 167) (F5 : h.1 5 = some (.inr (1, [.ref 6, .int 0]))) : ax_Ca (mgT L xs) (d + 1) 15 [.ref 5] h (.inl (some (.int 0)), h) := by
  refine ag_call (Nat.le_of_ble_eq_true rfl) ?_
  show ax_Go (mgT L xs) (d + 0) 15 0 [some (.ref 5)] [] h _
  refine ag_aload_n (d15_0 L xs) rfl ?_
  refine ag_get (d15_1 L xs) (kd := 1) (cj := 1) (k0 := 1) rfl (Or.inl rfl) F5 rfl ?_
  exact ag_iret (d15_4 L xs) rfl rfl
theorem z29_13 (L : Nat) (xs : Nat → Int32) {d : Nat} {h : ax_H} {k : Int32} (hz : h.2.1 = 167) (F0 : h.1 0 = some (.inr (0, [.ref 1, .ref 3, .ref 87, .ref 137]))) (F3 : h.1 3 = some (.inr (3, [.ref 4, .int 0, .ref 5]))) (F5 : h.1 5 = some (.inr (1, [.ref 6, .int 0]))) : ax_Ca (mgT L xs) (d + 2) 29 [.ref 0, .int k] h (.inl (some (.int (-1))), h) := by
  refine ag_call (Nat.le_of_ble_eq_true rfl) ?_
  show ax_Go (mgT L xs) (d + 1) 29 0 [some (.ref 0), some (.int k), none] [] h _
  refine ag_aload_n (d29_0 L xs) rfl ?_
  refine ag_get (d29_1 L xs) (kd := 1) (cj := 0) (k0 := 1) rfl (Or.inl rfl) F0 rfl ?_
  refine ag_invv (d29_4 L xs) (kd := 7) (mj := 30) (n := 0) rfl (Or.inl rfl) (xs := []) (r := []) rfl rfl F3 rfl (Nat.le_of_ble_eq_true rfl) (z30_11 L xs (d := d + 0) (h := _) hz F3) ?_
  refine ag_astore_n (d29_7 L xs) (ls' := [some (.ref 0), some (.int k), some (.ref 5)]) (Nat.le_of_ble_eq_true rfl) rfl ?_
  refine ag_aload_n (d29_8 L xs) rfl ?_
  refine ag_invv (d29_9 L xs) (kd := 7) (mj := 15) (n := 0) rfl (Or.inl rfl) (xs := []) (r := []) rfl rfl F5 rfl (Nat.le_of_ble_eq_true rfl) (z15_12 L xs (d := d + 0) (h := _) hz F5) ?_
  refine ag_if_ne (d29_12 L xs) (t := 17) (by decide) (fun hp => absurd hp (by decide)) (fun _ => ?_)
  refine ag_iconst (d29_15 L xs) (x := (-1)) (by decide) ?_
  exact ag_iret (d29_16 L xs) rfl rfl
theorem z33_14 (L : Nat) (xs : Nat → Int32) {d : Nat} {h : ax_H} (hz : h.2.1 = 167) (F3 : h.1 3 = some (.inr (3, [.ref 4, .int 0, .ref 5]))) : ax_Ca (mgT L xs) (d + 1) 33 [.ref 3] h (.inl (some (.int 0)), h) := by
  refine ag_call (Nat.le_of_ble_eq_true rfl) ?_
  show ax_Go (mgT L xs) (d + 0) 33 0 [some (.ref 3)] [] h _
  refine ag_aload_n (d33_0 L xs) rfl ?_
  refine ag_get (d33_1 L xs) (kd := 1) (cj := 3) (k0 := 1) rfl (Or.inl rfl) F3 rfl ?_
  exact ag_iret (d33_4 L xs) rfl rfl
theorem z32_15 (L : Nat) (xs : Nat → Int32) {d : Nat} {h : ax_H} {k : Int32} (hz : h.2.1 = 167) (F0 : h.1 0 = some (.inr (0, [.ref 1, .ref 3, .ref 87, .ref 137]))) (F3 : h.1 3 = some (.inr (3, [.ref 4, .int 0, .ref 5]))) (hc_1 : k = (-1)) : ax_Ca (mgT L xs) (d + 2) 32 [.ref 0, .int k] h (.inl (some (.int 0)), h) := by
  refine ag_call (Nat.le_of_ble_eq_true rfl) ?_
  show ax_Go (mgT L xs) (d + 1) 32 0 [some (.ref 0), some (.int k), none] [] h _
  refine ag_iload_n (d32_0 L xs) rfl ?_
  refine ag_iconst (d32_1 L xs) (x := (-1)) (by decide) ?_
  refine ag_icmp_ne (d32_2 L xs) (t := 13) (by decide) (fun hp => absurd hp (not_not_intro hc_1)) (fun _ => ?_)
  refine ag_aload_n (d32_5 L xs) rfl ?_
  refine ag_get (d32_6 L xs) (kd := 1) (cj := 0) (k0 := 1) rfl (Or.inl rfl) F0 rfl ?_
  refine ag_invv (d32_9 L xs) (kd := 7) (mj := 33) (n := 0) rfl (Or.inl rfl) (xs := []) (r := []) rfl rfl F3 rfl (Nat.le_of_ble_eq_true rfl) (z33_14 L xs (d := d + 0) (h := _) hz F3) ?_
  exact ag_iret (d32_12 L xs) rfl rfl
theorem z34_16 (L : Nat) (xs : Nat → Int32) {d : Nat} {h : ax_H} {k : Int32} (hz : h.2.1 = 167) (hc_0 : k < 0) : ax_Ca (mgT L xs) (d + 1) 34 [.ref 3, .int k] h (.inl (some (.null)), h) := by
  refine ag_call (Nat.le_of_ble_eq_true rfl) ?_
  show ax_Go (mgT L xs) (d + 0) 34 0 [some (.ref 3), some (.int k)] [] h _
  refine ag_iload_n (d34_0 L xs) rfl ?_
  refine ag_if_lt (d34_1 L xs) (t := 21) (by decide) (fun _ => ?_) (fun hn => absurd hc_0 hn)
  refine ag_null (d34_21 L xs) ?_
  exact ag_aretN (d34_22 L xs) rfl
theorem z34_17 (L : Nat) (xs : Nat → Int32) {d : Nat} {h : ax_H} {k : Int32} (hz : h.2.1 = 167) (F3 : h.1 3 = some (.inr (3, [.ref 4, .int 0, .ref 5]))) (hc_0 : ¬ (k < 0)) : ax_Ca (mgT L xs) (d + 1) 34 [.ref 3, .int k] h (.inl (some (.null)), h) := by
  refine ag_call (Nat.le_of_ble_eq_true rfl) ?_
  show ax_Go (mgT L xs) (d + 0) 34 0 [some (.ref 3), some (.int k)] [] h _
  refine ag_iload_n (d34_0 L xs) rfl ?_
  refine ag_if_lt (d34_1 L xs) (t := 21) (by decide) (fun hp => absurd hp hc_0) (fun _ => ?_)
  refine ag_iload_n (d34_4 L xs) rfl ?_
  refine ag_aload_n (d34_5 L xs) rfl ?_
  refine ag_get (d34_6 L xs) (kd := 1) (cj := 3) (k0 := 1) rfl (Or.inl rfl) F3 rfl ?_
  refine ag_icmp_ge (d34_9 L xs) (t := 21) (by decide) (fun _ => ?_) (fun hn => absurd (Int32.not_lt.mp hc_0) hn)
  refine ag_null (d34_21 L xs) ?_
  exact ag_aretN (d34_22 L xs) rfl
theorem z32_18 (L : Nat) (xs : Nat → Int32) {d : Nat} {h : ax_H} {k : Int32} (hz : h.2.1 = 167) (F0 : h.1 0 = some (.inr (0, [.ref 1, .ref 3, .ref 87, .ref 137]))) (F3 : h.1 3 = some (.inr (3, [.ref 4, .int 0, .ref 5]))) (hc_0 : k < 0) (hc_1 : ¬ (k = (-1))) : ax_Ca (mgT L xs) (d + 2) 32 [.ref 0, .int k] h (.inl (some (.int (-1))), h) := by
  refine ag_call (Nat.le_of_ble_eq_true rfl) ?_
  show ax_Go (mgT L xs) (d + 1) 32 0 [some (.ref 0), some (.int k), none] [] h _
  refine ag_iload_n (d32_0 L xs) rfl ?_
  refine ag_iconst (d32_1 L xs) (x := (-1)) (by decide) ?_
  refine ag_icmp_ne (d32_2 L xs) (t := 13) (by decide) (fun _ => ?_) (fun hn => absurd hc_1 hn)
  refine ag_aload_n (d32_13 L xs) rfl ?_
  refine ag_get (d32_14 L xs) (kd := 1) (cj := 0) (k0 := 1) rfl (Or.inl rfl) F0 rfl ?_
  refine ag_iload_n (d32_17 L xs) rfl ?_
  refine ag_invv (d32_18 L xs) (kd := 7) (mj := 34) (n := 1) rfl (Or.inl rfl) (xs := [.int k]) (r := []) rfl rfl F3 rfl (Nat.le_of_ble_eq_true rfl) (z34_16 L xs (d := d + 0) (h := _) (k := k) hz hc_0) ?_
  refine ag_astore_nN (d32_21 L xs) (ls' := [some (.ref 0), some (.int k), some (.null)]) (Nat.le_of_ble_eq_true rfl) rfl ?_
  refine ag_aload_nN (d32_22 L xs) rfl ?_
  refine ag_ifnonnullN (d32_23 L xs) ?_
  refine ag_iconst (d32_26 L xs) (x := (-1)) (by decide) ?_
  refine ag_goto (d32_27 L xs) (t := 34) (by decide) ?_
  exact ag_iret (d32_34 L xs) rfl rfl
theorem z32_19 (L : Nat) (xs : Nat → Int32) {d : Nat} {h : ax_H} {k : Int32} (hz : h.2.1 = 167) (F0 : h.1 0 = some (.inr (0, [.ref 1, .ref 3, .ref 87, .ref 137]))) (F3 : h.1 3 = some (.inr (3, [.ref 4, .int 0, .ref 5]))) (hc_0 : ¬ (k < 0)) (hc_1 : ¬ (k = (-1))) : ax_Ca (mgT L xs) (d + 2) 32 [.ref 0, .int k] h (.inl (some (.int (-1))), h) := by
  refine ag_call (Nat.le_of_ble_eq_true rfl) ?_
  show ax_Go (mgT L xs) (d + 1) 32 0 [some (.ref 0), some (.int k), none] [] h _
  refine ag_iload_n (d32_0 L xs) rfl ?_
  refine ag_iconst (d32_1 L xs) (x := (-1)) (by decide) ?_
  refine ag_icmp_ne (d32_2 L xs) (t := 13) (by decide) (fun _ => ?_) (fun hn => absurd hc_1 hn)
  refine ag_aload_n (d32_13 L xs) rfl ?_
  refine ag_get (d32_14 L xs) (kd := 1) (cj := 0) (k0 := 1) rfl (Or.inl rfl) F0 rfl ?_
  refine ag_iload_n (d32_17 L xs) rfl ?_
  refine ag_invv (d32_18 L xs) (kd := 7) (mj := 34) (n := 1) rfl (Or.inl rfl) (xs := [.int k]) (r := []) rfl rfl F3 rfl (Nat.le_of_ble_eq_true rfl) (z34_17 L xs (d := d + 0) (h := _) (k := k) hz F3 hc_0) ?_
  refine ag_astore_nN (d32_21 L xs) (ls' := [some (.ref 0), some (.int k), some (.null)]) (Nat.le_of_ble_eq_true rfl) rfl ?_
  refine ag_aload_nN (d32_22 L xs) rfl ?_
  refine ag_ifnonnullN (d32_23 L xs) ?_
  refine ag_iconst (d32_26 L xs) (x := (-1)) (by decide) ?_
  refine ag_goto (d32_27 L xs) (t := 34) (by decide) ?_
  exact ag_iret (d32_34 L xs) rfl rfl
theorem z37_20 (L : Nat) (xs : Nat → Int32) {d : Nat} {h : ax_H} (hz : h.2.1 = 167) : ax_Ca (mgT L xs) (d + 1) 37 [.ref 1, .int 32, .int 0, .int 0] h (.inl (some (.int 0)), h) := by
  refine ag_call (Nat.le_of_ble_eq_true rfl) ?_
  show ax_Go (mgT L xs) (d + 0) 37 0 [some (.ref 1), some (.int 32), some (.int 0), some (.int 0), none] [] h _
  refine ag_iload_n (d37_0 L xs) rfl ?_
  refine ag_istore (d37_1 L xs) (ls' := [some (.ref 1), some (.int 32), some (.int 0), some (.int 0), some (.int 0)]) (Nat.le_of_ble_eq_true rfl) rfl ?_
  refine ag_iload (d37_3 L xs) rfl ?_
  refine ag_iload_n (d37_5 L xs) rfl ?_
  refine ag_icmp_ge (d37_6 L xs) (t := 28) (by decide) (fun _ => ?_) (fun hn => absurd (by decide) hn)
  refine ag_iload_n (d37_28 L xs) rfl ?_
  exact ag_iret (d37_29 L xs) rfl rfl
theorem z38_21 (L : Nat) (xs : Nat → Int32) {d : Nat} {h : ax_H} (hz : h.2.1 = 167) : ax_Ca (mgT L xs) (d + 1) 38 [.ref 1, .int 0, .int 0] h (.inl (some (.int 0)), h) := by
  refine ag_call (Nat.le_of_ble_eq_true rfl) ?_
  show ax_Go (mgT L xs) (d + 0) 38 0 [some (.ref 1), some (.int 0), some (.int 0), none, none, none] [] h _
  refine ag_iload_n (d38_0 L xs) rfl ?_
  refine ag_iload_n (d38_1 L xs) rfl ?_
  refine ag_isub (d38_2 L xs) ?_
  refine ag_top (y := 0) (by decide) ?_
  refine ag_bipush (d38_3 L xs) (x := 48) (by decide) ?_
  refine ag_icmp_le (d38_5 L xs) (t := 10) (by decide) (fun _ => ?_) (fun hn => absurd (by decide) hn)
  refine ag_iconst (d38_10 L xs) (x := 0) (by decide) ?_
  refine ag_istore_n (d38_11 L xs) (ls' := [some (.ref 1), some (.int 0), some (.int 0), some (.int 0), none, none]) (Nat.le_of_ble_eq_true rfl) rfl ?_
  refine ag_iload_n (d38_12 L xs) rfl ?_
  refine ag_istore (d38_13 L xs) (ls' := [some (.ref 1), some (.int 0), some (.int 0), some (.int 0), some (.int 0), none]) (Nat.le_of_ble_eq_true rfl) rfl ?_
  refine ag_iload (d38_15 L xs) rfl ?_
  refine ag_iload_n (d38_17 L xs) rfl ?_
  refine ag_icmp_ge (d38_18 L xs) (t := 72) (by decide) (fun _ => ?_) (fun hn => absurd (by decide) hn)
  refine ag_iload_n (d38_72 L xs) rfl ?_
  refine ag_if_le (d38_73 L xs) (t := 80) (by decide) (fun _ => ?_) (fun hn => absurd (by decide) hn)
  refine ag_iconst (d38_80 L xs) (x := 0) (by decide) ?_
  exact ag_iret (d38_81 L xs) rfl rfl
theorem z36_22 (L : Nat) (xs : Nat → Int32) {d : Nat} {h : ax_H} {k : Int32} (hz : h.2.1 = 167) (F0 : h.1 0 = some (.inr (0, [.ref 1, .ref 3, .ref 87, .ref 137]))) (F1 : h.1 1 = some (.inr (1, [.ref 2, .int 0]))) : ax_Ca (mgT L xs) (d + 2) 36 [.ref 0, .int k] h (.inl (some (.int 0)), h) := by
  refine ag_call (Nat.le_of_ble_eq_true rfl) ?_
  show ax_Go (mgT L xs) (d + 1) 36 0 [some (.ref 0), some (.int k), none, none] [] h _
  refine ag_aload_n (d36_0 L xs) rfl ?_
  refine ag_get (d36_1 L xs) (kd := 1) (cj := 0) (k0 := 0) rfl (Or.inl rfl) F0 rfl ?_
  refine ag_bipush (d36_4 L xs) (x := 32) (by decide) ?_
  refine ag_iconst (d36_6 L xs) (x := 0) (by decide) ?_
  refine ag_aload_n (d36_7 L xs) rfl ?_
  refine ag_get (d36_8 L xs) (kd := 1) (cj := 0) (k0 := 0) rfl (Or.inl rfl) F0 rfl ?_
  refine ag_invv (d36_11 L xs) (kd := 7) (mj := 15) (n := 0) rfl (Or.inl rfl) (xs := []) (r := [.int 0, .int 32, .ref 1]) rfl rfl F1 rfl (Nat.le_of_ble_eq_true rfl) (z15_3 L xs (d := d + 0) (h := _) hz F1) ?_
  refine ag_invv (d36_14 L xs) (kd := 7) (mj := 37) (n := 3) rfl (Or.inl rfl) (xs := [.int 0, .int 0, .int 32]) (r := []) rfl rfl F1 rfl (Nat.le_of_ble_eq_true rfl) (z37_20 L xs (d := d + 0) (h := _) hz ) ?_
  refine ag_istore_n (d36_17 L xs) (ls' := [some (.ref 0), some (.int k), some (.int 0), none]) (Nat.le_of_ble_eq_true rfl) rfl ?_
  refine ag_aload_n (d36_18 L xs) rfl ?_
  refine ag_get (d36_19 L xs) (kd := 1) (cj := 0) (k0 := 0) rfl (Or.inl rfl) F0 rfl ?_
  refine ag_iconst (d36_22 L xs) (x := 0) (by decide) ?_
  refine ag_iload_n (d36_23 L xs) rfl ?_
  refine ag_invv (d36_24 L xs) (kd := 7) (mj := 38) (n := 2) rfl (Or.inl rfl) (xs := [.int 0, .int 0]) (r := []) rfl rfl F1 rfl (Nat.le_of_ble_eq_true rfl) (z38_21 L xs (d := d + 0) (h := _) hz ) ?_
  refine ag_if_ne (d36_27 L xs) (t := 32) (by decide) (fun hp => absurd hp (by decide)) (fun _ => ?_)
  refine ag_iconst (d36_30 L xs) (x := 0) (by decide) ?_
  exact ag_iret (d36_31 L xs) rfl rfl
theorem z35_23 (L : Nat) (xs : Nat → Int32) {d : Nat} {h : ax_H} {k : Int32} (hz : h.2.1 = 167) (F0 : h.1 0 = some (.inr (0, [.ref 1, .ref 3, .ref 87, .ref 137]))) (F1 : h.1 1 = some (.inr (1, [.ref 2, .int 0]))) : ax_Ca (mgT L xs) (d + 3) 35 [.ref 0, .int k] h (.inr 1, (ax_one h)) := by
  refine ag_callT (Nat.le_of_ble_eq_true rfl) ?_
  show ax_Go (mgT L xs) (d + 2) 35 0 [some (.ref 0), some (.int k)] [] h _
  refine ag_aload_n (d35_0 L xs) rfl ?_
  refine ag_iload_n (d35_1 L xs) rfl ?_
  refine ag_invv (d35_2 L xs) (kd := 7) (mj := 36) (n := 1) rfl (Or.inl rfl) (xs := [.int k]) (r := []) rfl rfl F0 rfl (Nat.le_of_ble_eq_true rfl) (z36_22 L xs (d := d + 0) (h := _) (k := k) hz F0 F1) ?_
  refine ag_if_ne (d35_5 L xs) (t := 16) (by decide) (fun hp => absurd hp (by decide)) (fun _ => ?_)
  exact ag_thr (d35_8 L xs) rfl (d35_11 L xs) (d35_12 L xs) (d35_15 L xs) (by rw [hz]; decide) (Nat.le_of_ble_eq_true rfl) rfl
theorem z46_24 (L : Nat) (xs : Nat → Int32) {d : Nat} {h : ax_H} (hz : h.2.1 = 167) (F1 : h.1 1 = some (.inr (1, [.ref 2, .int 0]))) : ax_Ca (mgT L xs) (d + 2) 46 [.ref 1] h (.inl (some (.int 0)), h) := by
  refine ag_call (Nat.le_of_ble_eq_true rfl) ?_
  show ax_Go (mgT L xs) (d + 1) 46 0 [some (.ref 1)] [] h _
  refine ag_aload_n (d46_0 L xs) rfl ?_
  refine ag_iconst (d46_1 L xs) (x := 0) (by decide) ?_
  refine ag_aload_n (d46_2 L xs) rfl ?_
  refine ag_get (d46_3 L xs) (kd := 1) (cj := 1) (k0 := 1) rfl (Or.inl rfl) F1 rfl ?_
  refine ag_invv (d46_6 L xs) (kd := 7) (mj := 38) (n := 2) rfl (Or.inl rfl) (xs := [.int 0, .int 0]) (r := []) rfl rfl F1 rfl (Nat.le_of_ble_eq_true rfl) (z38_21 L xs (d := d + 0) (h := _) hz ) ?_
  exact ag_iret (d46_9 L xs) rfl rfl
theorem z45_25 (L : Nat) (xs : Nat → Int32) {d : Nat} {h : ax_H} {k : Int32} (hz : h.2.1 = 167) (F0 : h.1 0 = some (.inr (0, [.ref 1, .ref 3, .ref 87, .ref 137]))) (F1 : h.1 1 = some (.inr (1, [.ref 2, .int 0]))) : ax_Ca (mgT L xs) (d + 3) 45 [.ref 0, .int k] h (.inr 1, (ax_one h)) := by
  refine ag_callT (Nat.le_of_ble_eq_true rfl) ?_
  show ax_Go (mgT L xs) (d + 2) 45 0 [some (.ref 0), some (.int k), none] [] h _
  refine ag_aload_n (d45_0 L xs) rfl ?_
  refine ag_get (d45_1 L xs) (kd := 1) (cj := 0) (k0 := 0) rfl (Or.inl rfl) F0 rfl ?_
  refine ag_invv (d45_4 L xs) (kd := 7) (mj := 46) (n := 0) rfl (Or.inl rfl) (xs := []) (r := []) rfl rfl F1 rfl (Nat.le_of_ble_eq_true rfl) (z46_24 L xs (d := d + 0) (h := _) hz F1) ?_
  refine ag_if_ne (d45_7 L xs) (t := 18) (by decide) (fun hp => absurd hp (by decide)) (fun _ => ?_)
  exact ag_thr (d45_10 L xs) rfl (d45_13 L xs) (d45_14 L xs) (d45_17 L xs) (by rw [hz]; decide) (Nat.le_of_ble_eq_true rfl) rfl
theorem z86_26 (L : Nat) (xs : Nat → Int32) {d : Nat} {h : ax_H} {k : Int32} (hz : h.2.1 = 167) (F0 : h.1 0 = some (.inr (0, [.ref 1, .ref 3, .ref 87, .ref 137]))) (F1 : h.1 1 = some (.inr (1, [.ref 2, .int 0]))) : ax_Ca (mgT L xs) (d + 3) 86 [.ref 0, .int k] h (.inr 1, (ax_one h)) := by
  refine ag_callT (Nat.le_of_ble_eq_true rfl) ?_
  show ax_Go (mgT L xs) (d + 2) 86 0 [some (.ref 0), some (.int k), none] [] h _
  refine ag_aload_n (d86_0 L xs) rfl ?_
  refine ag_get (d86_1 L xs) (kd := 1) (cj := 0) (k0 := 0) rfl (Or.inl rfl) F0 rfl ?_
  refine ag_invv (d86_4 L xs) (kd := 7) (mj := 46) (n := 0) rfl (Or.inl rfl) (xs := []) (r := []) rfl rfl F1 rfl (Nat.le_of_ble_eq_true rfl) (z46_24 L xs (d := d + 0) (h := _) hz F1) ?_
  refine ag_if_eq (d86_7 L xs) (t := 20) (by decide) (fun _ => ?_) (fun hn => absurd (by decide) hn)
  exact ag_thr (d86_20 L xs) rfl (d86_23 L xs) (d86_24 L xs) (d86_27 L xs) (by rw [hz]; decide) (Nat.le_of_ble_eq_true rfl) rfl
theorem z1_27 (L : Nat) (xs : Nat → Int32) {d : Nat} {h : ax_H} {k : Int32} (hz : h.2.1 = 167) (F0 : h.1 0 = some (.inr (0, [.ref 1, .ref 3, .ref 87, .ref 137]))) (F1 : h.1 1 = some (.inr (1, [.ref 2, .int 0]))) : ax_Ca (mgT L xs) (d + 4) 1 [.ref 0, .int k, .ref 166] h (.inl (some (.int 1)), (ax_one h)) := by
  refine ag_call (Nat.le_of_ble_eq_true rfl) ?_
  show ax_Go (mgT L xs) (d + 3) 1 0 [some (.ref 0), some (.int k), some (.ref 166), none] [] h _
  refine ag_aload_n (d1_0 L xs) rfl ?_
  refine ag_iconst (d1_1 L xs) (x := 0) (by decide) ?_
  refine ag_aload_n (d1_2 L xs) rfl ?_
  refine ag_iload_n (d1_3 L xs) rfl ?_
  refine ag_invc (d1_4 L xs) (mj := 35) (n := 1) rfl (xs := [.int k]) (r := [.int 0, .ref 166]) rfl rfl F0 rfl (Nat.le_of_ble_eq_true rfl) (z35_23 L xs (d := d + 0) (h := _) (k := k) hz F0 F1) (pc' := 12) rfl ?_
  refine ag_ref (b := 167) (by show (ax_one h).2.1 - 1 = _; rw [(ax_one_sz hz)]) ?_
  refine ag_astore_n (d1_12 L xs) (ls' := [some (.ref 0), some (.int k), some (.ref 166), some (.ref 167)]) (Nat.le_of_ble_eq_true rfl) rfl ?_
  refine ag_iconst (d1_13 L xs) (x := 1) (by decide) ?_
  exact ag_iret (d1_14 L xs) rfl rfl
theorem z2_28 (L : Nat) (xs : Nat → Int32) {d : Nat} {h : ax_H} {k : Int32} (hz : h.2.1 = 167) (F0 : h.1 0 = some (.inr (0, [.ref 1, .ref 3, .ref 87, .ref 137]))) (F1 : h.1 1 = some (.inr (1, [.ref 2, .int 0]))) : ax_Ca (mgT L xs) (d + 4) 2 [.ref 0, .int k, .ref 166] h (.inl (some (.int 1)), (ax_one h)) := by
  refine ag_call (Nat.le_of_ble_eq_true rfl) ?_
  show ax_Go (mgT L xs) (d + 3) 2 0 [some (.ref 0), some (.int k), some (.ref 166), none] [] h _
  refine ag_aload_n (d2_0 L xs) rfl ?_
  refine ag_iconst (d2_1 L xs) (x := 0) (by decide) ?_
  refine ag_aload_n (d2_2 L xs) rfl ?_
  refine ag_iload_n (d2_3 L xs) rfl ?_
  refine ag_invc (d2_4 L xs) (mj := 45) (n := 1) rfl (xs := [.int k]) (r := [.int 0, .ref 166]) rfl rfl F0 rfl (Nat.le_of_ble_eq_true rfl) (z45_25 L xs (d := d + 0) (h := _) (k := k) hz F0 F1) (pc' := 12) rfl ?_
  refine ag_ref (b := 167) (by show (ax_one h).2.1 - 1 = _; rw [(ax_one_sz hz)]) ?_
  refine ag_astore_n (d2_12 L xs) (ls' := [some (.ref 0), some (.int k), some (.ref 166), some (.ref 167)]) (Nat.le_of_ble_eq_true rfl) rfl ?_
  refine ag_iconst (d2_13 L xs) (x := 1) (by decide) ?_
  exact ag_iret (d2_14 L xs) rfl rfl
theorem z3_29 (L : Nat) (xs : Nat → Int32) {d : Nat} {h : ax_H} {k : Int32} (hz : h.2.1 = 167) (F0 : h.1 0 = some (.inr (0, [.ref 1, .ref 3, .ref 87, .ref 137]))) (F1 : h.1 1 = some (.inr (1, [.ref 2, .int 0]))) : ax_Ca (mgT L xs) (d + 4) 3 [.ref 0, .int k, .ref 166] h (.inl (some (.int 1)), (ax_one h)) := by
  refine ag_call (Nat.le_of_ble_eq_true rfl) ?_
  show ax_Go (mgT L xs) (d + 3) 3 0 [some (.ref 0), some (.int k), some (.ref 166), none] [] h _
  refine ag_aload_n (d3_0 L xs) rfl ?_
  refine ag_iconst (d3_1 L xs) (x := 0) (by decide) ?_
  refine ag_aload_n (d3_2 L xs) rfl ?_
  refine ag_iload_n (d3_3 L xs) rfl ?_
  refine ag_invc (d3_4 L xs) (mj := 86) (n := 1) rfl (xs := [.int k]) (r := [.int 0, .ref 166]) rfl rfl F0 rfl (Nat.le_of_ble_eq_true rfl) (z86_26 L xs (d := d + 0) (h := _) (k := k) hz F0 F1) (pc' := 12) rfl ?_
  refine ag_ref (b := 167) (by show (ax_one h).2.1 - 1 = _; rw [(ax_one_sz hz)]) ?_
  refine ag_astore_n (d3_12 L xs) (ls' := [some (.ref 0), some (.int k), some (.ref 166), some (.ref 167)]) (Nat.le_of_ble_eq_true rfl) rfl ?_
  refine ag_iconst (d3_13 L xs) (x := 1) (by decide) ?_
  exact ag_iret (d3_14 L xs) rfl rfl
theorem z107_30 (L : Nat) (xs : Nat → Int32) {d : Nat} {h : ax_H} (hz : h.2.1 = 167) (F141 : h.1 141 = some (.inr (9, [.int 0, .int 0, .ref 142, .int 0, .ref 143, .ref 144, .ref 145, .ref 146, .ref 147, .int 0, .int 0, .ref 148, .int 0, .ref 149, .int 0, .int 0, .ref 150, .int 0, .ref 151, .int 0, .ref 152, .ref 153, .int 0, .int 0, .ref 154, .ref 155, .ref 156, .ref 157, .ref 158, .ref 159, .ref 160, .ref 161, .ref 162, .int 0, .int 0, .int 0, .int 0, .int 0, .int 0, .int 0, .int 0, .int 0, .ref 163, .int 0, .int 0, .int 0, .int 0, .ref 164, .ref 165]))) : ax_Ca (mgT L xs) (d + 1) 107 [.ref 141] h (.inl none, (ax_up (ax_up h 141 (.inr (9, [.int 0, .int 0, .ref 142, .int 0, .ref 143, .ref 144, .ref 145, .ref 146, .ref 147, .int 0, .int 0, .ref 148, .int 0, .ref 149, .int 0, .int 0, .ref 150, .int 0, .ref 151, .int 0, .ref 152, .ref 153, .int 0, .int 0, .ref 154, .ref 155, .ref 156, .ref 157, .ref 158, .ref 159, .ref 160, .ref 161, .ref 162, .int 0, .int 0, .int 0, .int 0, .int 0, .int 0, .int 0, .int 0, .int 0, .ref 163, .int 0, .int 0, .int 0, .int 0, .ref 164, .ref 165]))) 141 (.inr (9, [.int 0, .int 0, .ref 142, .int 0, .ref 143, .ref 144, .ref 145, .ref 146, .ref 147, .int 0, .int 0, .ref 148, .int 0, .ref 149, .int 0, .int 0, .ref 150, .int 0, .ref 151, .int 0, .ref 152, .ref 153, .int 0, .int 0, .ref 154, .ref 155, .ref 156, .ref 157, .ref 158, .ref 159, .ref 160, .ref 161, .ref 162, .int 0, .int 0, .int 0, .int 0, .int 0, .int 0, .int 0, .int 0, .int 0, .ref 163, .int 0, .int 0, .int 0, .int 0, .ref 164, .ref 165])))) := by
  refine ag_call (Nat.le_of_ble_eq_true rfl) ?_
  show ax_Go (mgT L xs) (d + 0) 107 0 [some (.ref 141)] [] h _
  refine ag_aload_n (d107_0 L xs) rfl ?_
  refine ag_iconst (d107_1 L xs) (x := 0) (by decide) ?_
  refine ag_put (d107_2 L xs) (cj := 9) (k0 := 0) rfl F141 (ax_lt hz (Nat.le_of_ble_eq_true rfl)) (Nat.le_of_ble_eq_true rfl) rfl rfl ?_
  refine ag_aload_n (d107_5 L xs) rfl ?_
  refine ag_iconst (d107_6 L xs) (x := 0) (by decide) ?_
  refine ag_put (d107_7 L xs) (cj := 9) (k0 := 1) rfl (ax_up_at _ _ _) (ax_lt hz (Nat.le_of_ble_eq_true rfl)) (Nat.le_of_ble_eq_true rfl) rfl rfl ?_
  exact ag_vret (d107_10 L xs) rfl
theorem z108_31 (L : Nat) (xs : Nat → Int32) {d : Nat} {h : ax_H} (hz : h.2.1 = 167) (F141 : h.1 141 = some (.inr (9, [.int 0, .int 0, .ref 142, .int 0, .ref 143, .ref 144, .ref 145, .ref 146, .ref 147, .int 0, .int 0, .ref 148, .int 0, .ref 149, .int 0, .int 0, .ref 150, .int 0, .ref 151, .int 0, .ref 152, .ref 153, .int 0, .int 0, .ref 154, .ref 155, .ref 156, .ref 157, .ref 158, .ref 159, .ref 160, .ref 161, .ref 162, .int 0, .int 0, .int 0, .int 0, .int 0, .int 0, .int 0, .int 0, .int 0, .ref 163, .int 0, .int 0, .int 0, .int 0, .ref 164, .ref 165]))) : ax_Ca (mgT L xs) (d + 1) 108 [.ref 141] h (.inl (some (.int 0)), (ax_up h 141 (.inr (9, [.int 0, .int 0, .ref 142, .int 0, .ref 143, .ref 144, .ref 145, .ref 146, .ref 147, .int 0, .int 0, .ref 148, .int 0, .ref 149, .int 0, .int 0, .ref 150, .int 0, .ref 151, .int 0, .ref 152, .ref 153, .int 0, .int 0, .ref 154, .ref 155, .ref 156, .ref 157, .ref 158, .ref 159, .ref 160, .ref 161, .ref 162, .int 0, .int 0, .int 0, .int 0, .int 0, .int 0, .int 0, .int 0, .int 0, .ref 163, .int 0, .int 0, .int 0, .int 0, .ref 164, .ref 165])))) := by
  refine ag_call (Nat.le_of_ble_eq_true rfl) ?_
  show ax_Go (mgT L xs) (d + 0) 108 0 [some (.ref 141)] [] h _
  refine ag_aload_n (d108_0 L xs) rfl ?_
  refine ag_iconst (d108_1 L xs) (x := 0) (by decide) ?_
  refine ag_put (d108_2 L xs) (cj := 9) (k0 := 0) rfl F141 (ax_lt hz (Nat.le_of_ble_eq_true rfl)) (Nat.le_of_ble_eq_true rfl) rfl rfl ?_
  refine ag_aload_n (d108_5 L xs) rfl ?_
  refine ag_get (d108_6 L xs) (kd := 1) (cj := 9) (k0 := 1) rfl (Or.inl rfl) (ax_up_at _ _ _) rfl ?_
  exact ag_iret (d108_9 L xs) rfl rfl
theorem z115_32 (L : Nat) (xs : Nat → Int32) {d : Nat} {h : ax_H} {k : Int32} (hz : h.2.1 = 167) (F141 : h.1 141 = some (.inr (9, [.int 0, .int 0, .ref 142, .int 0, .ref 143, .ref 144, .ref 145, .ref 146, .ref 147, .int 0, .int 0, .ref 148, .int 0, .ref 149, .int 0, .int 0, .ref 150, .int 0, .ref 151, .int 0, .ref 152, .ref 153, .int 0, .int 0, .ref 154, .ref 155, .ref 156, .ref 157, .ref 158, .ref 159, .ref 160, .ref 161, .ref 162, .int 0, .int 0, .int 0, .int 0, .int 0, .int 0, .int 0, .int 0, .int 0, .ref 163, .int 0, .int 0, .int 0, .int 0, .ref 164, .ref 165]))) (hc_0 : k < 0) : ax_Ca (mgT L xs) (d + 1) 115 [.ref 141, .int k] h (.inl (some (.int 0)), (ax_up h 141 (.inr (9, [.int 0, .int 0, .ref 142, .int 0, .ref 143, .ref 144, .ref 145, .ref 146, .ref 147, .int 0, .int 0, .ref 148, .int 0, .ref 149, .int 0, .int 0, .ref 150, .int 0, .ref 151, .int 0, .ref 152, .ref 153, .int 0, .int 0, .ref 154, .ref 155, .ref 156, .ref 157, .ref 158, .ref 159, .ref 160, .ref 161, .ref 162, .int 0, .int 0, .int 0, .int 0, .int 0, .int 0, .int 0, .int 0, .int 0, .ref 163, .int 0, .int 0, .int 0, .int 0, .ref 164, .ref 165])))) := by
  refine ag_call (Nat.le_of_ble_eq_true rfl) ?_
  show ax_Go (mgT L xs) (d + 0) 115 0 [some (.ref 141), some (.int k), none, none] [] h _
  refine ag_aload_n (d115_0 L xs) rfl ?_
  refine ag_iconst (d115_1 L xs) (x := 0) (by decide) ?_
  refine ag_put (d115_2 L xs) (cj := 9) (k0 := 0) rfl F141 (ax_lt hz (Nat.le_of_ble_eq_true rfl)) (Nat.le_of_ble_eq_true rfl) rfl rfl ?_
  refine ag_iload_n (d115_5 L xs) rfl ?_
  refine ag_if_lt (d115_6 L xs) (t := 17) (by decide) (fun _ => ?_) (fun hn => absurd hc_0 hn)
  refine ag_iconst (d115_17 L xs) (x := 0) (by decide) ?_
  exact ag_iret (d115_18 L xs) rfl rfl
theorem z115_33 (L : Nat) (xs : Nat → Int32) {d : Nat} {h : ax_H} {k : Int32} (hz : h.2.1 = 167) (F141 : h.1 141 = some (.inr (9, [.int 0, .int 0, .ref 142, .int 0, .ref 143, .ref 144, .ref 145, .ref 146, .ref 147, .int 0, .int 0, .ref 148, .int 0, .ref 149, .int 0, .int 0, .ref 150, .int 0, .ref 151, .int 0, .ref 152, .ref 153, .int 0, .int 0, .ref 154, .ref 155, .ref 156, .ref 157, .ref 158, .ref 159, .ref 160, .ref 161, .ref 162, .int 0, .int 0, .int 0, .int 0, .int 0, .int 0, .int 0, .int 0, .int 0, .ref 163, .int 0, .int 0, .int 0, .int 0, .ref 164, .ref 165]))) (hc_0 : ¬ (k < 0)) : ax_Ca (mgT L xs) (d + 1) 115 [.ref 141, .int k] h (.inl (some (.int 0)), (ax_up h 141 (.inr (9, [.int 0, .int 0, .ref 142, .int 0, .ref 143, .ref 144, .ref 145, .ref 146, .ref 147, .int 0, .int 0, .ref 148, .int 0, .ref 149, .int 0, .int 0, .ref 150, .int 0, .ref 151, .int 0, .ref 152, .ref 153, .int 0, .int 0, .ref 154, .ref 155, .ref 156, .ref 157, .ref 158, .ref 159, .ref 160, .ref 161, .ref 162, .int 0, .int 0, .int 0, .int 0, .int 0, .int 0, .int 0, .int 0, .int 0, .ref 163, .int 0, .int 0, .int 0, .int 0, .ref 164, .ref 165])))) := by
  refine ag_call (Nat.le_of_ble_eq_true rfl) ?_
  show ax_Go (mgT L xs) (d + 0) 115 0 [some (.ref 141), some (.int k), none, none] [] h _
  refine ag_aload_n (d115_0 L xs) rfl ?_
  refine ag_iconst (d115_1 L xs) (x := 0) (by decide) ?_
  refine ag_put (d115_2 L xs) (cj := 9) (k0 := 0) rfl F141 (ax_lt hz (Nat.le_of_ble_eq_true rfl)) (Nat.le_of_ble_eq_true rfl) rfl rfl ?_
  refine ag_iload_n (d115_5 L xs) rfl ?_
  refine ag_if_lt (d115_6 L xs) (t := 17) (by decide) (fun hp => absurd hp hc_0) (fun _ => ?_)
  refine ag_iload_n (d115_9 L xs) rfl ?_
  refine ag_aload_n (d115_10 L xs) rfl ?_
  refine ag_get (d115_11 L xs) (kd := 1) (cj := 9) (k0 := 3) rfl (Or.inl rfl) (ax_up_at _ _ _) rfl ?_
  refine ag_icmp_lt (d115_14 L xs) (t := 19) (by decide) (fun hp => absurd hp hc_0) (fun _ => ?_)
  refine ag_iconst (d115_17 L xs) (x := 0) (by decide) ?_
  exact ag_iret (d115_18 L xs) rfl rfl
theorem z153_34 (L : Nat) (xs : Nat → Int32) {d : Nat} {h : ax_H} {k : Int32} (hz : h.2.1 = 167) (F141 : h.1 141 = some (.inr (9, [.int 0, .int 0, .ref 142, .int 0, .ref 143, .ref 144, .ref 145, .ref 146, .ref 147, .int 0, .int 0, .ref 148, .int 0, .ref 149, .int 0, .int 0, .ref 150, .int 0, .ref 151, .int 0, .ref 152, .ref 153, .int 0, .int 0, .ref 154, .ref 155, .ref 156, .ref 157, .ref 158, .ref 159, .ref 160, .ref 161, .ref 162, .int 0, .int 0, .int 0, .int 0, .int 0, .int 0, .int 0, .int 0, .int 0, .ref 163, .int 0, .int 0, .int 0, .int 0, .ref 164, .ref 165]))) : ax_Ca (mgT L xs) (d + 1) 153 [.ref 141, .int k] h (.inl (some (.int (-1))), (ax_up h 141 (.inr (9, [.int 0, .int 0, .ref 142, .int 0, .ref 143, .ref 144, .ref 145, .ref 146, .ref 147, .int 0, .int 0, .ref 148, .int 0, .ref 149, .int 0, .int 0, .ref 150, .int 0, .ref 151, .int 0, .ref 152, .ref 153, .int 0, .int 0, .ref 154, .ref 155, .ref 156, .ref 157, .ref 158, .ref 159, .ref 160, .ref 161, .ref 162, .int 0, .int 0, .int 0, .int 0, .int 0, .int 0, .int 0, .int 0, .int 0, .ref 163, .int 0, .int 0, .int 0, .int 0, .ref 164, .ref 165])))) := by
  refine ag_call (Nat.le_of_ble_eq_true rfl) ?_
  show ax_Go (mgT L xs) (d + 0) 153 0 [some (.ref 141), some (.int k)] [] h _
  refine ag_aload_n (d153_0 L xs) rfl ?_
  refine ag_iconst (d153_1 L xs) (x := 0) (by decide) ?_
  refine ag_put (d153_2 L xs) (cj := 9) (k0 := 0) rfl F141 (ax_lt hz (Nat.le_of_ble_eq_true rfl)) (Nat.le_of_ble_eq_true rfl) rfl rfl ?_
  refine ag_aload_n (d153_5 L xs) rfl ?_
  refine ag_get (d153_6 L xs) (kd := 1) (cj := 9) (k0 := 34) rfl (Or.inl rfl) (ax_up_at _ _ _) rfl ?_
  refine ag_if_ne (d153_9 L xs) (t := 14) (by decide) (fun hp => absurd hp (by decide)) (fun _ => ?_)
  refine ag_iconst (d153_12 L xs) (x := (-1)) (by decide) ?_
  exact ag_iret (d153_13 L xs) rfl rfl
theorem z154_35 (L : Nat) (xs : Nat → Int32) {d : Nat} {h : ax_H} {k : Int32} (hz : h.2.1 = 167) (F141 : h.1 141 = some (.inr (9, [.int 0, .int 0, .ref 142, .int 0, .ref 143, .ref 144, .ref 145, .ref 146, .ref 147, .int 0, .int 0, .ref 148, .int 0, .ref 149, .int 0, .int 0, .ref 150, .int 0, .ref 151, .int 0, .ref 152, .ref 153, .int 0, .int 0, .ref 154, .ref 155, .ref 156, .ref 157, .ref 158, .ref 159, .ref 160, .ref 161, .ref 162, .int 0, .int 0, .int 0, .int 0, .int 0, .int 0, .int 0, .int 0, .int 0, .ref 163, .int 0, .int 0, .int 0, .int 0, .ref 164, .ref 165]))) : ax_Ca (mgT L xs) (d + 1) 154 [.ref 141, .int k] h (.inl (some (.int (-1))), (ax_up h 141 (.inr (9, [.int 0, .int 0, .ref 142, .int 0, .ref 143, .ref 144, .ref 145, .ref 146, .ref 147, .int 0, .int 0, .ref 148, .int 0, .ref 149, .int 0, .int 0, .ref 150, .int 0, .ref 151, .int 0, .ref 152, .ref 153, .int 0, .int 0, .ref 154, .ref 155, .ref 156, .ref 157, .ref 158, .ref 159, .ref 160, .ref 161, .ref 162, .int 0, .int 0, .int 0, .int 0, .int 0, .int 0, .int 0, .int 0, .int 0, .ref 163, .int 0, .int 0, .int 0, .int 0, .ref 164, .ref 165])))) := by
  refine ag_call (Nat.le_of_ble_eq_true rfl) ?_
  show ax_Go (mgT L xs) (d + 0) 154 0 [some (.ref 141), some (.int k)] [] h _
  refine ag_aload_n (d154_0 L xs) rfl ?_
  refine ag_iconst (d154_1 L xs) (x := 0) (by decide) ?_
  refine ag_put (d154_2 L xs) (cj := 9) (k0 := 0) rfl F141 (ax_lt hz (Nat.le_of_ble_eq_true rfl)) (Nat.le_of_ble_eq_true rfl) rfl rfl ?_
  refine ag_aload_n (d154_5 L xs) rfl ?_
  refine ag_get (d154_6 L xs) (kd := 1) (cj := 9) (k0 := 14) rfl (Or.inl rfl) (ax_up_at _ _ _) rfl ?_
  refine ag_if_ne (d154_9 L xs) (t := 16) (by decide) (fun hp => absurd hp (by decide)) (fun _ => ?_)
  refine ag_iconst (d154_12 L xs) (x := (-1)) (by decide) ?_
  refine ag_goto (d154_13 L xs) (t := 50) (by decide) ?_
  exact ag_iret (d154_50 L xs) rfl rfl
theorem z163_36 (L : Nat) (xs : Nat → Int32) {d : Nat} {h : ax_H} {k : Int32} (hz : h.2.1 = 167) (F141 : h.1 141 = some (.inr (9, [.int 0, .int 0, .ref 142, .int 0, .ref 143, .ref 144, .ref 145, .ref 146, .ref 147, .int 0, .int 0, .ref 148, .int 0, .ref 149, .int 0, .int 0, .ref 150, .int 0, .ref 151, .int 0, .ref 152, .ref 153, .int 0, .int 0, .ref 154, .ref 155, .ref 156, .ref 157, .ref 158, .ref 159, .ref 160, .ref 161, .ref 162, .int 0, .int 0, .int 0, .int 0, .int 0, .int 0, .int 0, .int 0, .int 0, .ref 163, .int 0, .int 0, .int 0, .int 0, .ref 164, .ref 165]))) (hc_1 : k = (-1)) : ax_Ca (mgT L xs) (d + 1) 163 [.ref 141, .int k] h (.inl (some (.int 0)), (ax_up h 141 (.inr (9, [.int 0, .int 0, .ref 142, .int 0, .ref 143, .ref 144, .ref 145, .ref 146, .ref 147, .int 0, .int 0, .ref 148, .int 0, .ref 149, .int 0, .int 0, .ref 150, .int 0, .ref 151, .int 0, .ref 152, .ref 153, .int 0, .int 0, .ref 154, .ref 155, .ref 156, .ref 157, .ref 158, .ref 159, .ref 160, .ref 161, .ref 162, .int 0, .int 0, .int 0, .int 0, .int 0, .int 0, .int 0, .int 0, .int 0, .ref 163, .int 0, .int 0, .int 0, .int 0, .ref 164, .ref 165])))) := by
  refine ag_call (Nat.le_of_ble_eq_true rfl) ?_
  show ax_Go (mgT L xs) (d + 0) 163 0 [some (.ref 141), some (.int k)] [] h _
  refine ag_aload_n (d163_0 L xs) rfl ?_
  refine ag_iconst (d163_1 L xs) (x := 0) (by decide) ?_
  refine ag_put (d163_2 L xs) (cj := 9) (k0 := 0) rfl F141 (ax_lt hz (Nat.le_of_ble_eq_true rfl)) (Nat.le_of_ble_eq_true rfl) rfl rfl ?_
  refine ag_iload_n (d163_5 L xs) rfl ?_
  refine ag_iconst (d163_6 L xs) (x := (-1)) (by decide) ?_
  refine ag_icmp_ne (d163_7 L xs) (t := 17) (by decide) (fun hp => absurd hp (not_not_intro hc_1)) (fun _ => ?_)
  refine ag_aload_n (d163_10 L xs) rfl ?_
  refine ag_get (d163_11 L xs) (kd := 1) (cj := 9) (k0 := 3) rfl (Or.inl rfl) (ax_up_at _ _ _) rfl ?_
  refine ag_goto (d163_14 L xs) (t := 39) (by decide) ?_
  exact ag_iret (d163_39 L xs) rfl rfl
theorem z163_37 (L : Nat) (xs : Nat → Int32) {d : Nat} {h : ax_H} {k : Int32} (hz : h.2.1 = 167) (F141 : h.1 141 = some (.inr (9, [.int 0, .int 0, .ref 142, .int 0, .ref 143, .ref 144, .ref 145, .ref 146, .ref 147, .int 0, .int 0, .ref 148, .int 0, .ref 149, .int 0, .int 0, .ref 150, .int 0, .ref 151, .int 0, .ref 152, .ref 153, .int 0, .int 0, .ref 154, .ref 155, .ref 156, .ref 157, .ref 158, .ref 159, .ref 160, .ref 161, .ref 162, .int 0, .int 0, .int 0, .int 0, .int 0, .int 0, .int 0, .int 0, .int 0, .ref 163, .int 0, .int 0, .int 0, .int 0, .ref 164, .ref 165]))) (hc_0 : k < 0) (hc_1 : ¬ (k = (-1))) : ax_Ca (mgT L xs) (d + 1) 163 [.ref 141, .int k] h (.inl (some (.int (-1))), (ax_up h 141 (.inr (9, [.int 0, .int 0, .ref 142, .int 0, .ref 143, .ref 144, .ref 145, .ref 146, .ref 147, .int 0, .int 0, .ref 148, .int 0, .ref 149, .int 0, .int 0, .ref 150, .int 0, .ref 151, .int 0, .ref 152, .ref 153, .int 0, .int 0, .ref 154, .ref 155, .ref 156, .ref 157, .ref 158, .ref 159, .ref 160, .ref 161, .ref 162, .int 0, .int 0, .int 0, .int 0, .int 0, .int 0, .int 0, .int 0, .int 0, .ref 163, .int 0, .int 0, .int 0, .int 0, .ref 164, .ref 165])))) := by
  refine ag_call (Nat.le_of_ble_eq_true rfl) ?_
  show ax_Go (mgT L xs) (d + 0) 163 0 [some (.ref 141), some (.int k)] [] h _
  refine ag_aload_n (d163_0 L xs) rfl ?_
  refine ag_iconst (d163_1 L xs) (x := 0) (by decide) ?_
  refine ag_put (d163_2 L xs) (cj := 9) (k0 := 0) rfl F141 (ax_lt hz (Nat.le_of_ble_eq_true rfl)) (Nat.le_of_ble_eq_true rfl) rfl rfl ?_
  refine ag_iload_n (d163_5 L xs) rfl ?_
  refine ag_iconst (d163_6 L xs) (x := (-1)) (by decide) ?_
  refine ag_icmp_ne (d163_7 L xs) (t := 17) (by decide) (fun _ => ?_) (fun hn => absurd hc_1 hn)
  refine ag_iload_n (d163_17 L xs) rfl ?_
  refine ag_if_lt (d163_18 L xs) (t := 29) (by decide) (fun _ => ?_) (fun hn => absurd hc_0 hn)
  refine ag_iconst (d163_29 L xs) (x := (-1)) (by decide) ?_
  refine ag_goto (d163_30 L xs) (t := 39) (by decide) ?_
  exact ag_iret (d163_39 L xs) rfl rfl
theorem z163_38 (L : Nat) (xs : Nat → Int32) {d : Nat} {h : ax_H} {k : Int32} (hz : h.2.1 = 167) (F141 : h.1 141 = some (.inr (9, [.int 0, .int 0, .ref 142, .int 0, .ref 143, .ref 144, .ref 145, .ref 146, .ref 147, .int 0, .int 0, .ref 148, .int 0, .ref 149, .int 0, .int 0, .ref 150, .int 0, .ref 151, .int 0, .ref 152, .ref 153, .int 0, .int 0, .ref 154, .ref 155, .ref 156, .ref 157, .ref 158, .ref 159, .ref 160, .ref 161, .ref 162, .int 0, .int 0, .int 0, .int 0, .int 0, .int 0, .int 0, .int 0, .int 0, .ref 163, .int 0, .int 0, .int 0, .int 0, .ref 164, .ref 165]))) (hc_0 : ¬ (k < 0)) (hc_1 : ¬ (k = (-1))) : ax_Ca (mgT L xs) (d + 1) 163 [.ref 141, .int k] h (.inl (some (.int (-1))), (ax_up h 141 (.inr (9, [.int 0, .int 0, .ref 142, .int 0, .ref 143, .ref 144, .ref 145, .ref 146, .ref 147, .int 0, .int 0, .ref 148, .int 0, .ref 149, .int 0, .int 0, .ref 150, .int 0, .ref 151, .int 0, .ref 152, .ref 153, .int 0, .int 0, .ref 154, .ref 155, .ref 156, .ref 157, .ref 158, .ref 159, .ref 160, .ref 161, .ref 162, .int 0, .int 0, .int 0, .int 0, .int 0, .int 0, .int 0, .int 0, .int 0, .ref 163, .int 0, .int 0, .int 0, .int 0, .ref 164, .ref 165])))) := by
  refine ag_call (Nat.le_of_ble_eq_true rfl) ?_
  show ax_Go (mgT L xs) (d + 0) 163 0 [some (.ref 141), some (.int k)] [] h _
  refine ag_aload_n (d163_0 L xs) rfl ?_
  refine ag_iconst (d163_1 L xs) (x := 0) (by decide) ?_
  refine ag_put (d163_2 L xs) (cj := 9) (k0 := 0) rfl F141 (ax_lt hz (Nat.le_of_ble_eq_true rfl)) (Nat.le_of_ble_eq_true rfl) rfl rfl ?_
  refine ag_iload_n (d163_5 L xs) rfl ?_
  refine ag_iconst (d163_6 L xs) (x := (-1)) (by decide) ?_
  refine ag_icmp_ne (d163_7 L xs) (t := 17) (by decide) (fun _ => ?_) (fun hn => absurd hc_1 hn)
  refine ag_iload_n (d163_17 L xs) rfl ?_
  refine ag_if_lt (d163_18 L xs) (t := 29) (by decide) (fun hp => absurd hp hc_0) (fun _ => ?_)
  refine ag_iload_n (d163_21 L xs) rfl ?_
  refine ag_aload_n (d163_22 L xs) rfl ?_
  refine ag_get (d163_23 L xs) (kd := 1) (cj := 9) (k0 := 3) rfl (Or.inl rfl) (ax_up_at _ _ _) rfl ?_
  refine ag_icmp_lt (d163_26 L xs) (t := 33) (by decide) (fun hp => absurd hp hc_0) (fun _ => ?_)
  refine ag_iconst (d163_29 L xs) (x := (-1)) (by decide) ?_
  refine ag_goto (d163_30 L xs) (t := 39) (by decide) ?_
  exact ag_iret (d163_39 L xs) rfl rfl
theorem z109_39 (L : Nat) (xs : Nat → Int32) {d : Nat} {h : ax_H} {k : Int32} (hz : h.2.1 = 167) (F141 : h.1 141 = some (.inr (9, [.int 0, .int 0, .ref 142, .int 0, .ref 143, .ref 144, .ref 145, .ref 146, .ref 147, .int 0, .int 0, .ref 148, .int 0, .ref 149, .int 0, .int 0, .ref 150, .int 0, .ref 151, .int 0, .ref 152, .ref 153, .int 0, .int 0, .ref 154, .ref 155, .ref 156, .ref 157, .ref 158, .ref 159, .ref 160, .ref 161, .ref 162, .int 0, .int 0, .int 0, .int 0, .int 0, .int 0, .int 0, .int 0, .int 0, .ref 163, .int 0, .int 0, .int 0, .int 0, .ref 164, .ref 165]))) (hc_0 : k < 0) : ax_Ca (mgT L xs) (d + 1) 109 [.ref 141, .int k] h (.inl (some (.int 0)), (ax_up h 141 (.inr (9, [.int 1, .int 0, .ref 142, .int 0, .ref 143, .ref 144, .ref 145, .ref 146, .ref 147, .int 0, .int 0, .ref 148, .int 0, .ref 149, .int 0, .int 0, .ref 150, .int 0, .ref 151, .int 0, .ref 152, .ref 153, .int 0, .int 0, .ref 154, .ref 155, .ref 156, .ref 157, .ref 158, .ref 159, .ref 160, .ref 161, .ref 162, .int 0, .int 0, .int 0, .int 0, .int 0, .int 0, .int 0, .int 0, .int 0, .ref 163, .int 0, .int 0, .int 0, .int 0, .ref 164, .ref 165])))) := by
  refine ag_call (Nat.le_of_ble_eq_true rfl) ?_
  show ax_Go (mgT L xs) (d + 0) 109 0 [some (.ref 141), some (.int k), none, none, none, none] [] h _
  refine ag_aload_n (d109_0 L xs) rfl ?_
  refine ag_iload_n (d109_1 L xs) rfl ?_
  refine ag_if_lt (d109_2 L xs) (t := 10) (by decide) (fun _ => ?_) (fun hn => absurd hc_0 hn)
  refine ag_iconst (d109_10 L xs) (x := 1) (by decide) ?_
  refine ag_goto (d109_11 L xs) (t := 15) (by decide) ?_
  refine ag_put (d109_15 L xs) (cj := 9) (k0 := 0) rfl F141 (ax_lt hz (Nat.le_of_ble_eq_true rfl)) (Nat.le_of_ble_eq_true rfl) rfl rfl ?_
  refine ag_aload_n (d109_18 L xs) rfl ?_
  refine ag_get (d109_19 L xs) (kd := 1) (cj := 9) (k0 := 0) rfl (Or.inl rfl) (ax_up_at _ _ _) rfl ?_
  refine ag_if_le (d109_22 L xs) (t := 27) (by decide) (fun hp => absurd hp (by decide)) (fun _ => ?_)
  refine ag_iconst (d109_25 L xs) (x := 0) (by decide) ?_
  exact ag_iret (d109_26 L xs) rfl rfl
theorem z109_40 (L : Nat) (xs : Nat → Int32) {d : Nat} {h : ax_H} {k : Int32} (hz : h.2.1 = 167) (F141 : h.1 141 = some (.inr (9, [.int 0, .int 0, .ref 142, .int 0, .ref 143, .ref 144, .ref 145, .ref 146, .ref 147, .int 0, .int 0, .ref 148, .int 0, .ref 149, .int 0, .int 0, .ref 150, .int 0, .ref 151, .int 0, .ref 152, .ref 153, .int 0, .int 0, .ref 154, .ref 155, .ref 156, .ref 157, .ref 158, .ref 159, .ref 160, .ref 161, .ref 162, .int 0, .int 0, .int 0, .int 0, .int 0, .int 0, .int 0, .int 0, .int 0, .ref 163, .int 0, .int 0, .int 0, .int 0, .ref 164, .ref 165]))) (hc_0 : ¬ (k < 0)) (hc_2 : 4 < k) : ax_Ca (mgT L xs) (d + 1) 109 [.ref 141, .int k] h (.inl (some (.int 0)), (ax_up h 141 (.inr (9, [.int 1, .int 0, .ref 142, .int 0, .ref 143, .ref 144, .ref 145, .ref 146, .ref 147, .int 0, .int 0, .ref 148, .int 0, .ref 149, .int 0, .int 0, .ref 150, .int 0, .ref 151, .int 0, .ref 152, .ref 153, .int 0, .int 0, .ref 154, .ref 155, .ref 156, .ref 157, .ref 158, .ref 159, .ref 160, .ref 161, .ref 162, .int 0, .int 0, .int 0, .int 0, .int 0, .int 0, .int 0, .int 0, .int 0, .ref 163, .int 0, .int 0, .int 0, .int 0, .ref 164, .ref 165])))) := by
  refine ag_call (Nat.le_of_ble_eq_true rfl) ?_
  show ax_Go (mgT L xs) (d + 0) 109 0 [some (.ref 141), some (.int k), none, none, none, none] [] h _
  refine ag_aload_n (d109_0 L xs) rfl ?_
  refine ag_iload_n (d109_1 L xs) rfl ?_
  refine ag_if_lt (d109_2 L xs) (t := 10) (by decide) (fun hp => absurd hp hc_0) (fun _ => ?_)
  refine ag_iload_n (d109_5 L xs) rfl ?_
  refine ag_iconst (d109_6 L xs) (x := 4) (by decide) ?_
  refine ag_icmp_le (d109_7 L xs) (t := 14) (by decide) (fun hp => absurd hp (Int32.not_le.mpr hc_2)) (fun _ => ?_)
  refine ag_iconst (d109_10 L xs) (x := 1) (by decide) ?_
  refine ag_goto (d109_11 L xs) (t := 15) (by decide) ?_
  refine ag_put (d109_15 L xs) (cj := 9) (k0 := 0) rfl F141 (ax_lt hz (Nat.le_of_ble_eq_true rfl)) (Nat.le_of_ble_eq_true rfl) rfl rfl ?_
  refine ag_aload_n (d109_18 L xs) rfl ?_
  refine ag_get (d109_19 L xs) (kd := 1) (cj := 9) (k0 := 0) rfl (Or.inl rfl) (ax_up_at _ _ _) rfl ?_
  refine ag_if_le (d109_22 L xs) (t := 27) (by decide) (fun hp => absurd hp (by decide)) (fun _ => ?_)
  refine ag_iconst (d109_25 L xs) (x := 0) (by decide) ?_
  exact ag_iret (d109_26 L xs) rfl rfl
theorem z110_41 (L : Nat) (xs : Nat → Int32) {d : Nat} {h : ax_H} (hz : h.2.1 = 167) : ax_Ca (mgT L xs) (d + 1) 110 [.ref 142, .int 0, .int 0] h (.inl (some (.int 0)), h) := by
  refine ag_call (Nat.le_of_ble_eq_true rfl) ?_
  show ax_Go (mgT L xs) (d + 0) 110 0 [some (.ref 142), some (.int 0), some (.int 0), none, none, none, none] [] h _
  refine ag_iload_n (d110_0 L xs) rfl ?_
  refine ag_iload_n (d110_1 L xs) rfl ?_
  refine ag_isub (d110_2 L xs) ?_
  refine ag_top (y := 0) (by decide) ?_
  refine ag_iconst (d110_3 L xs) (x := 1) (by decide) ?_
  refine ag_icmp_lt (d110_4 L xs) (t := 15) (by decide) (fun _ => ?_) (fun hn => absurd (by decide) hn)
  refine ag_iconst (d110_15 L xs) (x := 0) (by decide) ?_
  exact ag_iret (d110_16 L xs) rfl rfl
theorem z109_42 (L : Nat) (xs : Nat → Int32) {d : Nat} {h : ax_H} {k : Int32} (hz : h.2.1 = 167) (F141 : h.1 141 = some (.inr (9, [.int 0, .int 0, .ref 142, .int 0, .ref 143, .ref 144, .ref 145, .ref 146, .ref 147, .int 0, .int 0, .ref 148, .int 0, .ref 149, .int 0, .int 0, .ref 150, .int 0, .ref 151, .int 0, .ref 152, .ref 153, .int 0, .int 0, .ref 154, .ref 155, .ref 156, .ref 157, .ref 158, .ref 159, .ref 160, .ref 161, .ref 162, .int 0, .int 0, .int 0, .int 0, .int 0, .int 0, .int 0, .int 0, .int 0, .ref 163, .int 0, .int 0, .int 0, .int 0, .ref 164, .ref 165]))) (hc_0 : ¬ (k < 0)) (hc_2 : ¬ (4 < k)) : ax_Ca (mgT L xs) (d + 2) 109 [.ref 141, .int k] h (.inl (some (.int 0)), (ax_up (ax_up h 141 (.inr (9, [.int 0, .int 0, .ref 142, .int 0, .ref 143, .ref 144, .ref 145, .ref 146, .ref 147, .int 0, .int 0, .ref 148, .int 0, .ref 149, .int 0, .int 0, .ref 150, .int 0, .ref 151, .int 0, .ref 152, .ref 153, .int 0, .int 0, .ref 154, .ref 155, .ref 156, .ref 157, .ref 158, .ref 159, .ref 160, .ref 161, .ref 162, .int 0, .int 0, .int 0, .int 0, .int 0, .int 0, .int 0, .int 0, .int 0, .ref 163, .int 0, .int 0, .int 0, .int 0, .ref 164, .ref 165]))) 141 (.inr (9, [.int 1, .int 0, .ref 142, .int 0, .ref 143, .ref 144, .ref 145, .ref 146, .ref 147, .int 0, .int 0, .ref 148, .int 0, .ref 149, .int 0, .int 0, .ref 150, .int 0, .ref 151, .int 0, .ref 152, .ref 153, .int 0, .int 0, .ref 154, .ref 155, .ref 156, .ref 157, .ref 158, .ref 159, .ref 160, .ref 161, .ref 162, .int 0, .int 0, .int 0, .int 0, .int 0, .int 0, .int 0, .int 0, .int 0, .ref 163, .int 0, .int 0, .int 0, .int 0, .ref 164, .ref 165])))) := by
  refine ag_call (Nat.le_of_ble_eq_true rfl) ?_
  show ax_Go (mgT L xs) (d + 1) 109 0 [some (.ref 141), some (.int k), none, none, none, none] [] h _
  refine ag_aload_n (d109_0 L xs) rfl ?_
  refine ag_iload_n (d109_1 L xs) rfl ?_
  refine ag_if_lt (d109_2 L xs) (t := 10) (by decide) (fun hp => absurd hp hc_0) (fun _ => ?_)
  refine ag_iload_n (d109_5 L xs) rfl ?_
  refine ag_iconst (d109_6 L xs) (x := 4) (by decide) ?_
  refine ag_icmp_le (d109_7 L xs) (t := 14) (by decide) (fun _ => ?_) (fun hn => absurd (Int32.not_lt.mp hc_2) hn)
  refine ag_iconst (d109_14 L xs) (x := 0) (by decide) ?_
  refine ag_put (d109_15 L xs) (cj := 9) (k0 := 0) rfl F141 (ax_lt hz (Nat.le_of_ble_eq_true rfl)) (Nat.le_of_ble_eq_true rfl) rfl rfl ?_
  refine ag_aload_n (d109_18 L xs) rfl ?_
  refine ag_get (d109_19 L xs) (kd := 1) (cj := 9) (k0 := 0) rfl (Or.inl rfl) (ax_up_at _ _ _) rfl ?_
  refine ag_if_le (d109_22 L xs) (t := 27) (by decide) (fun _ => ?_) (fun hn => absurd (by decide) hn)
  refine ag_iconst (d109_27 L xs) (x := 0) (by decide) ?_
  refine ag_istore_n (d109_28 L xs) (ls' := [some (.ref 141), some (.int k), some (.int 0), none, none, none]) (Nat.le_of_ble_eq_true rfl) rfl ?_
  refine ag_iload_n (d109_29 L xs) rfl ?_
  refine ag_aload_n (d109_30 L xs) rfl ?_
  refine ag_get (d109_31 L xs) (kd := 1) (cj := 9) (k0 := 1) rfl (Or.inl rfl) (ax_up_at _ _ _) rfl ?_
  refine ag_icmp_ge (d109_34 L xs) (t := 66) (by decide) (fun _ => ?_) (fun hn => absurd (by decide) hn)
  refine ag_aload_n (d109_66 L xs) rfl ?_
  refine ag_get (d109_67 L xs) (kd := 1) (cj := 9) (k0 := 2) rfl (Or.inl rfl) (ax_up_at _ _ _) rfl ?_
  refine ag_iconst (d109_70 L xs) (x := 0) (by decide) ?_
  refine ag_iload_n (d109_71 L xs) rfl ?_
  refine ag_invs (d109_72 L xs) (kd := 6) (mj := 110) (n := 3) rfl (Or.inl rfl) (xs := [.int 0, .int 0, .ref 142]) (r := []) rfl rfl (Nat.le_of_ble_eq_true rfl) (z110_41 L xs (d := d + 0) (h := _) hz ) ?_
  refine ag_if_eq (d109_75 L xs) (t := 108) (by decide) (fun _ => ?_) (fun hn => absurd (by decide) hn)
  refine ag_iconst (d109_108 L xs) (x := 0) (by decide) ?_
  refine ag_istore_n (d109_109 L xs) (ls' := [some (.ref 141), some (.int k), some (.int 0), some (.int 0), none, none]) (Nat.le_of_ble_eq_true rfl) rfl ?_
  refine ag_iconst (d109_110 L xs) (x := 0) (by decide) ?_
  refine ag_istore (d109_111 L xs) (ls' := [some (.ref 141), some (.int k), some (.int 0), some (.int 0), some (.int 0), none]) (Nat.le_of_ble_eq_true rfl) rfl ?_
  refine ag_iload_n (d109_113 L xs) rfl ?_
  refine ag_if_eq (d109_114 L xs) (t := 158) (by decide) (fun _ => ?_) (fun hn => absurd (by decide) hn)
  refine ag_iload_n (d109_158 L xs) rfl ?_
  refine ag_if_eq (d109_159 L xs) (t := 182) (by decide) (fun _ => ?_) (fun hn => absurd (by decide) hn)
  refine ag_aload_n (d109_182 L xs) rfl ?_
  refine ag_iload_n (d109_183 L xs) rfl ?_
  refine ag_if_ne (d109_184 L xs) (t := 191) (by decide) (fun hp => absurd hp (by decide)) (fun _ => ?_)
  refine ag_iconst (d109_187 L xs) (x := 1) (by decide) ?_
  refine ag_goto (d109_188 L xs) (t := 205) (by decide) ?_
  refine ag_put (d109_205 L xs) (cj := 9) (k0 := 0) rfl (ax_up_at _ _ _) (ax_lt hz (Nat.le_of_ble_eq_true rfl)) (Nat.le_of_ble_eq_true rfl) rfl rfl ?_
  refine ag_aload_n (d109_208 L xs) rfl ?_
  refine ag_get (d109_209 L xs) (kd := 1) (cj := 9) (k0 := 0) rfl (Or.inl rfl) (ax_up_at _ _ _) rfl ?_
  refine ag_if_le (d109_212 L xs) (t := 217) (by decide) (fun hp => absurd hp (by decide)) (fun _ => ?_)
  refine ag_iconst (d109_215 L xs) (x := 0) (by decide) ?_
  exact ag_iret (d109_216 L xs) rfl rfl
theorem z110_43 (L : Nat) (xs : Nat → Int32) {d : Nat} {h : ax_H} (hz : h.2.1 = 167) : ax_Ca (mgT L xs) (d + 1) 110 [.ref 142, .int 0, .int 0] h (.inl (some (.int 0)), h) := by
  refine ag_call (Nat.le_of_ble_eq_true rfl) ?_
  show ax_Go (mgT L xs) (d + 0) 110 0 [some (.ref 142), some (.int 0), some (.int 0), none, none, none, none] [] h _
  refine ag_iload_n (d110_0 L xs) rfl ?_
  refine ag_iload_n (d110_1 L xs) rfl ?_
  refine ag_isub (d110_2 L xs) ?_
  refine ag_top (y := 0) (by decide) ?_
  refine ag_iconst (d110_3 L xs) (x := 1) (by decide) ?_
  refine ag_icmp_lt (d110_4 L xs) (t := 15) (by decide) (fun _ => ?_) (fun hn => absurd (by decide) hn)
  refine ag_iconst (d110_15 L xs) (x := 0) (by decide) ?_
  exact ag_iret (d110_16 L xs) rfl rfl
theorem z116_44 (L : Nat) (xs : Nat → Int32) {d : Nat} {h : ax_H} {k : Int32} (hz : h.2.1 = 167) (F141 : h.1 141 = some (.inr (9, [.int 0, .int 0, .ref 142, .int 0, .ref 143, .ref 144, .ref 145, .ref 146, .ref 147, .int 0, .int 0, .ref 148, .int 0, .ref 149, .int 0, .int 0, .ref 150, .int 0, .ref 151, .int 0, .ref 152, .ref 153, .int 0, .int 0, .ref 154, .ref 155, .ref 156, .ref 157, .ref 158, .ref 159, .ref 160, .ref 161, .ref 162, .int 0, .int 0, .int 0, .int 0, .int 0, .int 0, .int 0, .int 0, .int 0, .ref 163, .int 0, .int 0, .int 0, .int 0, .ref 164, .ref 165]))) : ax_Ca (mgT L xs) (d + 2) 116 [.ref 141, .int k] h (.inl (some (.int 0)), (ax_up h 141 (.inr (9, [.int 1, .int 0, .ref 142, .int 0, .ref 143, .ref 144, .ref 145, .ref 146, .ref 147, .int 0, .int 0, .ref 148, .int 0, .ref 149, .int 0, .int 0, .ref 150, .int 0, .ref 151, .int 0, .ref 152, .ref 153, .int 0, .int 0, .ref 154, .ref 155, .ref 156, .ref 157, .ref 158, .ref 159, .ref 160, .ref 161, .ref 162, .int 0, .int 0, .int 0, .int 0, .int 0, .int 0, .int 0, .int 0, .int 0, .ref 163, .int 0, .int 0, .int 0, .int 0, .ref 164, .ref 165])))) := by
  refine ag_call (Nat.le_of_ble_eq_true rfl) ?_
  show ax_Go (mgT L xs) (d + 1) 116 0 [some (.ref 141), some (.int k), none] [] h _
  refine ag_aload_n (d116_0 L xs) rfl ?_
  refine ag_aload_n (d116_1 L xs) rfl ?_
  refine ag_get (d116_2 L xs) (kd := 1) (cj := 9) (k0 := 2) rfl (Or.inl rfl) F141 rfl ?_
  refine ag_iconst (d116_5 L xs) (x := 0) (by decide) ?_
  refine ag_aload_n (d116_6 L xs) rfl ?_
  refine ag_get (d116_7 L xs) (kd := 1) (cj := 9) (k0 := 1) rfl (Or.inl rfl) F141 rfl ?_
  refine ag_invs (d116_10 L xs) (kd := 6) (mj := 110) (n := 3) rfl (Or.inl rfl) (xs := [.int 0, .int 0, .ref 142]) (r := [.ref 141]) rfl rfl (Nat.le_of_ble_eq_true rfl) (z110_43 L xs (d := d + 0) (h := _) hz ) ?_
  refine ag_if_eq (d116_13 L xs) (t := 20) (by decide) (fun _ => ?_) (fun hn => absurd (by decide) hn)
  refine ag_iconst (d116_20 L xs) (x := 1) (by decide) ?_
  refine ag_put (d116_21 L xs) (cj := 9) (k0 := 0) rfl F141 (ax_lt hz (Nat.le_of_ble_eq_true rfl)) (Nat.le_of_ble_eq_true rfl) rfl rfl ?_
  refine ag_aload_n (d116_24 L xs) rfl ?_
  refine ag_get (d116_25 L xs) (kd := 1) (cj := 9) (k0 := 0) rfl (Or.inl rfl) (ax_up_at _ _ _) rfl ?_
  refine ag_if_le (d116_28 L xs) (t := 33) (by decide) (fun hp => absurd hp (by decide)) (fun _ => ?_)
  refine ag_iconst (d116_31 L xs) (x := 0) (by decide) ?_
  exact ag_iret (d116_32 L xs) rfl rfl
theorem z155_45 (L : Nat) (xs : Nat → Int32) {d : Nat} {h : ax_H} {k : Int32} (hz : h.2.1 = 167) (F141 : h.1 141 = some (.inr (9, [.int 0, .int 0, .ref 142, .int 0, .ref 143, .ref 144, .ref 145, .ref 146, .ref 147, .int 0, .int 0, .ref 148, .int 0, .ref 149, .int 0, .int 0, .ref 150, .int 0, .ref 151, .int 0, .ref 152, .ref 153, .int 0, .int 0, .ref 154, .ref 155, .ref 156, .ref 157, .ref 158, .ref 159, .ref 160, .ref 161, .ref 162, .int 0, .int 0, .int 0, .int 0, .int 0, .int 0, .int 0, .int 0, .int 0, .ref 163, .int 0, .int 0, .int 0, .int 0, .ref 164, .ref 165]))) : ax_Ca (mgT L xs) (d + 2) 155 [.ref 141, .int k] h (.inl (some (.int 0)), (ax_up h 141 (.inr (9, [.int 1, .int 0, .ref 142, .int 0, .ref 143, .ref 144, .ref 145, .ref 146, .ref 147, .int 0, .int 0, .ref 148, .int 0, .ref 149, .int 0, .int 0, .ref 150, .int 0, .ref 151, .int 0, .ref 152, .ref 153, .int 0, .int 0, .ref 154, .ref 155, .ref 156, .ref 157, .ref 158, .ref 159, .ref 160, .ref 161, .ref 162, .int 0, .int 0, .int 0, .int 0, .int 0, .int 0, .int 0, .int 0, .int 0, .ref 163, .int 0, .int 0, .int 0, .int 0, .ref 164, .ref 165])))) := by
  refine ag_call (Nat.le_of_ble_eq_true rfl) ?_
  show ax_Go (mgT L xs) (d + 1) 155 0 [some (.ref 141), some (.int k), none, none, none, none, none, none, none, none, none] [] h _
  refine ag_aload_n (d155_0 L xs) rfl ?_
  refine ag_aload_n (d155_1 L xs) rfl ?_
  refine ag_get (d155_2 L xs) (kd := 1) (cj := 9) (k0 := 2) rfl (Or.inl rfl) F141 rfl ?_
  refine ag_iconst (d155_5 L xs) (x := 0) (by decide) ?_
  refine ag_aload_n (d155_6 L xs) rfl ?_
  refine ag_get (d155_7 L xs) (kd := 1) (cj := 9) (k0 := 1) rfl (Or.inl rfl) F141 rfl ?_
  refine ag_invs (d155_10 L xs) (kd := 6) (mj := 110) (n := 3) rfl (Or.inl rfl) (xs := [.int 0, .int 0, .ref 142]) (r := [.ref 141]) rfl rfl (Nat.le_of_ble_eq_true rfl) (z110_43 L xs (d := d + 0) (h := _) hz ) ?_
  refine ag_if_eq (d155_13 L xs) (t := 26) (by decide) (fun _ => ?_) (fun hn => absurd (by decide) hn)
  refine ag_iconst (d155_26 L xs) (x := 1) (by decide) ?_
  refine ag_goto (d155_27 L xs) (t := 42) (by decide) ?_
  refine ag_put (d155_42 L xs) (cj := 9) (k0 := 0) rfl F141 (ax_lt hz (Nat.le_of_ble_eq_true rfl)) (Nat.le_of_ble_eq_true rfl) rfl rfl ?_
  refine ag_aload_n (d155_45 L xs) rfl ?_
  refine ag_get (d155_46 L xs) (kd := 1) (cj := 9) (k0 := 0) rfl (Or.inl rfl) (ax_up_at _ _ _) rfl ?_
  refine ag_if_le (d155_49 L xs) (t := 54) (by decide) (fun hp => absurd hp (by decide)) (fun _ => ?_)
  refine ag_iconst (d155_52 L xs) (x := 0) (by decide) ?_
  exact ag_iret (d155_53 L xs) rfl rfl
theorem z107_46 (L : Nat) (xs : Nat → Int32) {d : Nat} {h : ax_H} (hz : h.2.1 = 167) (F141 : h.1 141 = some (.inr (9, [.int 0, .int 0, .ref 142, .int 0, .ref 143, .ref 144, .ref 145, .ref 146, .ref 147, .int 0, .int 0, .ref 148, .int 0, .ref 149, .int 0, .int 0, .ref 150, .int 0, .ref 151, .int 0, .ref 152, .ref 153, .int 0, .int 0, .ref 154, .ref 155, .ref 156, .ref 157, .ref 158, .ref 159, .ref 160, .ref 161, .ref 162, .int 0, .int 0, .int 0, .int 0, .int 0, .int 0, .int 0, .int 0, .int 0, .ref 163, .int 0, .int 0, .int 0, .int 0, .ref 164, .ref 165]))) : ax_Ca (mgT L xs) (d + 1) 107 [.ref 141] h (.inl none, (ax_up (ax_up h 141 (.inr (9, [.int 0, .int 0, .ref 142, .int 0, .ref 143, .ref 144, .ref 145, .ref 146, .ref 147, .int 0, .int 0, .ref 148, .int 0, .ref 149, .int 0, .int 0, .ref 150, .int 0, .ref 151, .int 0, .ref 152, .ref 153, .int 0, .int 0, .ref 154, .ref 155, .ref 156, .ref 157, .ref 158, .ref 159, .ref 160, .ref 161, .ref 162, .int 0, .int 0, .int 0, .int 0, .int 0, .int 0, .int 0, .int 0, .int 0, .ref 163, .int 0, .int 0, .int 0, .int 0, .ref 164, .ref 165]))) 141 (.inr (9, [.int 0, .int 0, .ref 142, .int 0, .ref 143, .ref 144, .ref 145, .ref 146, .ref 147, .int 0, .int 0, .ref 148, .int 0, .ref 149, .int 0, .int 0, .ref 150, .int 0, .ref 151, .int 0, .ref 152, .ref 153, .int 0, .int 0, .ref 154, .ref 155, .ref 156, .ref 157, .ref 158, .ref 159, .ref 160, .ref 161, .ref 162, .int 0, .int 0, .int 0, .int 0, .int 0, .int 0, .int 0, .int 0, .int 0, .ref 163, .int 0, .int 0, .int 0, .int 0, .ref 164, .ref 165])))) := by
  refine ag_call (Nat.le_of_ble_eq_true rfl) ?_
  show ax_Go (mgT L xs) (d + 0) 107 0 [some (.ref 141)] [] h _
  refine ag_aload_n (d107_0 L xs) rfl ?_
  refine ag_iconst (d107_1 L xs) (x := 0) (by decide) ?_
  refine ag_put (d107_2 L xs) (cj := 9) (k0 := 0) rfl F141 (ax_lt hz (Nat.le_of_ble_eq_true rfl)) (Nat.le_of_ble_eq_true rfl) rfl rfl ?_
  refine ag_aload_n (d107_5 L xs) rfl ?_
  refine ag_iconst (d107_6 L xs) (x := 0) (by decide) ?_
  refine ag_put (d107_7 L xs) (cj := 9) (k0 := 1) rfl (ax_up_at _ _ _) (ax_lt hz (Nat.le_of_ble_eq_true rfl)) (Nat.le_of_ble_eq_true rfl) rfl rfl ?_
  exact ag_vret (d107_10 L xs) rfl
theorem z0_47 (xs : Nat → Int32) {d : Nat} {h : ax_H} {s0 : Int32} (hs0 : xs 0 = s0) (hz : h.2.1 = 167) (F0 : h.1 0 = some (.inr (0, [.ref 1, .ref 3, .ref 87, .ref 137]))) (F1 : h.1 1 = some (.inr (1, [.ref 2, .int 0]))) (F141 : h.1 141 = some (.inr (9, [.int 0, .int 0, .ref 142, .int 0, .ref 143, .ref 144, .ref 145, .ref 146, .ref 147, .int 0, .int 0, .ref 148, .int 0, .ref 149, .int 0, .int 0, .ref 150, .int 0, .ref 151, .int 0, .ref 152, .ref 153, .int 0, .int 0, .ref 154, .ref 155, .ref 156, .ref 157, .ref 158, .ref 159, .ref 160, .ref 161, .ref 162, .int 0, .int 0, .int 0, .int 0, .int 0, .int 0, .int 0, .int 0, .int 0, .ref 163, .int 0, .int 0, .int 0, .int 0, .ref 164, .ref 165]))) (hj : s0 &&& 15 = 1) : ax_Go (mgT 3 xs) (d + 2) 0 23 [some (.ref ax_big), some (.ref 0), some (.ref 141), some (.ref 166), some (.int 0), none, none] [] h (.inl (some (.int 1)), (ax_up (ax_up (ax_up h 1 (.inr (1, [.ref 2, .int 0]))) 141 (.inr (9, [.int 0, .int 0, .ref 142, .int 0, .ref 143, .ref 144, .ref 145, .ref 146, .ref 147, .int 0, .int 0, .ref 148, .int 0, .ref 149, .int 0, .int 0, .ref 150, .int 0, .ref 151, .int 0, .ref 152, .ref 153, .int 0, .int 0, .ref 154, .ref 155, .ref 156, .ref 157, .ref 158, .ref 159, .ref 160, .ref 161, .ref 162, .int 0, .int 0, .int 0, .int 0, .int 0, .int 0, .int 0, .int 0, .int 0, .ref 163, .int 0, .int 0, .int 0, .int 0, .ref 164, .ref 165]))) 141 (.inr (9, [.int 0, .int 0, .ref 142, .int 0, .ref 143, .ref 144, .ref 145, .ref 146, .ref 147, .int 0, .int 0, .ref 148, .int 0, .ref 149, .int 0, .int 0, .ref 150, .int 0, .ref 151, .int 0, .ref 152, .ref 153, .int 0, .int 0, .ref 154, .ref 155, .ref 156, .ref 157, .ref 158, .ref 159, .ref 160, .ref 161, .ref 162, .int 0, .int 0, .int 0, .int 0, .int 0, .int 0, .int 0, .int 0, .int 0, .ref 163, .int 0, .int 0, .int 0, .int 0, .ref 164, .ref 165])))) := by
  refine ag_iload (d0_23 3 xs) rfl ?_
  refine ag_aload_n (d0_25 3 xs) rfl ?_
  refine ag_slen rfl (d0_26 3 xs) ?_
  refine ag_top (y := 3) (by decide) ?_
  refine ag_iconst (d0_27 3 xs) (x := 3) (by decide) ?_
  refine ag_isub (d0_28 3 xs) ?_
  refine ag_top (y := 0) (by decide) ?_
  refine ag_icmp_gt (d0_29 3 xs) (t := 447) (by decide) (fun hp => absurd hp (by decide)) (fun _ => ?_)
  refine ag_aload_n (d0_32 3 xs) rfl ?_
  refine ag_iload (d0_33 3 xs) rfl ?_
  refine ag_sald rfl (d0_35 3 xs) (x := s0) (show ¬ ((0 : Int32) < 0 ∨ 3 ≤ (0 : Int32).toNatClampNeg) from by decide) hs0 ?_
  refine ag_bipush (d0_36 3 xs) (x := 15) (by decide) ?_
  refine ag_iand (d0_38 3 xs) ?_
  refine ag_top (y := 1) hj ?_
  refine ag_tswIn (d0_39 3 xs) (of := 110) (t := 149) (by decide) (by decide) (by decide) ?_
  refine ag_aload_n (d0_149 3 xs) rfl ?_
  refine ag_invv (d0_150 3 xs) (kd := 7) (mj := 17) (n := 0) rfl (Or.inl rfl) (xs := []) (r := []) rfl rfl F0 rfl (Nat.le_of_ble_eq_true rfl) (z17_2 3 xs (d := d + 0) (h := _) hz F0 F1) ?_
  refine ag_aload_n (d0_153 3 xs) rfl ?_
  refine ag_invv (d0_154 3 xs) (kd := 7) (mj := 107) (n := 0) rfl (Or.inl rfl) (xs := []) (r := []) rfl rfl ((ax_up_ne _ _ (by decide)).trans F141) rfl (Nat.le_of_ble_eq_true rfl) (z107_46 3 xs (d := d + 1) (h := _) hz ((ax_up_ne _ _ (by decide)).trans F141)) ?_
  refine ag_goto (d0_157 3 xs) (t := 441) (by decide) ?_
  refine ag_iinc (d0_441 3 xs) (y := 3) (ls' := [some (.ref ax_big), some (.ref 0), some (.ref 141), some (.ref 166), some (.int 3), none, none]) rfl (by decide) rfl ?_
  refine ag_goto (d0_444 3 xs) (t := 23) (by decide) ?_
  refine ag_iload (d0_23 3 xs) rfl ?_
  refine ag_aload_n (d0_25 3 xs) rfl ?_
  refine ag_slen rfl (d0_26 3 xs) ?_
  refine ag_top (y := 3) (by decide) ?_
  refine ag_iconst (d0_27 3 xs) (x := 3) (by decide) ?_
  refine ag_isub (d0_28 3 xs) ?_
  refine ag_top (y := 0) (by decide) ?_
  refine ag_icmp_gt (d0_29 3 xs) (t := 447) (by decide) (fun _ => ?_) (fun hn => absurd (by decide) hn)
  refine ag_iconst (d0_447 3 xs) (x := 1) (by decide) ?_
  exact ag_iret (d0_448 3 xs) rfl rfl
theorem z0_48 (xs : Nat → Int32) {d : Nat} {h : ax_H} {s0 : Int32} (hs0 : xs 0 = s0) (hz : h.2.1 = 167) (F0 : h.1 0 = some (.inr (0, [.ref 1, .ref 3, .ref 87, .ref 137]))) (F1 : h.1 1 = some (.inr (1, [.ref 2, .int 0]))) (F141 : h.1 141 = some (.inr (9, [.int 0, .int 0, .ref 142, .int 0, .ref 143, .ref 144, .ref 145, .ref 146, .ref 147, .int 0, .int 0, .ref 148, .int 0, .ref 149, .int 0, .int 0, .ref 150, .int 0, .ref 151, .int 0, .ref 152, .ref 153, .int 0, .int 0, .ref 154, .ref 155, .ref 156, .ref 157, .ref 158, .ref 159, .ref 160, .ref 161, .ref 162, .int 0, .int 0, .int 0, .int 0, .int 0, .int 0, .int 0, .int 0, .int 0, .ref 163, .int 0, .int 0, .int 0, .int 0, .ref 164, .ref 165]))) (hj : s0 &&& 15 = 2) : ax_Go (mgT 3 xs) (d + 2) 0 23 [some (.ref ax_big), some (.ref 0), some (.ref 141), some (.ref 166), some (.int 0), none, none] [] h (.inl (some (.int 1)), (ax_up h 141 (.inr (9, [.int 0, .int 0, .ref 142, .int 0, .ref 143, .ref 144, .ref 145, .ref 146, .ref 147, .int 0, .int 0, .ref 148, .int 0, .ref 149, .int 0, .int 0, .ref 150, .int 0, .ref 151, .int 0, .ref 152, .ref 153, .int 0, .int 0, .ref 154, .ref 155, .ref 156, .ref 157, .ref 158, .ref 159, .ref 160, .ref 161, .ref 162, .int 0, .int 0, .int 0, .int 0, .int 0, .int 0, .int 0, .int 0, .int 0, .ref 163, .int 0, .int 0, .int 0, .int 0, .ref 164, .ref 165])))) := by
  refine ag_iload (d0_23 3 xs) rfl ?_
  refine ag_aload_n (d0_25 3 xs) rfl ?_
  refine ag_slen rfl (d0_26 3 xs) ?_
  refine ag_top (y := 3) (by decide) ?_
  refine ag_iconst (d0_27 3 xs) (x := 3) (by decide) ?_
  refine ag_isub (d0_28 3 xs) ?_
  refine ag_top (y := 0) (by decide) ?_
  refine ag_icmp_gt (d0_29 3 xs) (t := 447) (by decide) (fun hp => absurd hp (by decide)) (fun _ => ?_)
  refine ag_aload_n (d0_32 3 xs) rfl ?_
  refine ag_iload (d0_33 3 xs) rfl ?_
  refine ag_sald rfl (d0_35 3 xs) (x := s0) (show ¬ ((0 : Int32) < 0 ∨ 3 ≤ (0 : Int32).toNatClampNeg) from by decide) hs0 ?_
  refine ag_bipush (d0_36 3 xs) (x := 15) (by decide) ?_
  refine ag_iand (d0_38 3 xs) ?_
  refine ag_top (y := 2) hj ?_
  refine ag_tswIn (d0_39 3 xs) (of := 121) (t := 160) (by decide) (by decide) (by decide) ?_
  refine ag_aload_n (d0_160 3 xs) rfl ?_
  refine ag_invv (d0_161 3 xs) (kd := 7) (mj := 19) (n := 0) rfl (Or.inl rfl) (xs := []) (r := []) rfl rfl F0 rfl (Nat.le_of_ble_eq_true rfl) (z19_4 3 xs (d := d + 0) (h := _) hz F0 F1) ?_
  refine ag_aload_n (d0_164 3 xs) rfl ?_
  refine ag_invv (d0_165 3 xs) (kd := 7) (mj := 108) (n := 0) rfl (Or.inl rfl) (xs := []) (r := [.int 0]) rfl rfl F141 rfl (Nat.le_of_ble_eq_true rfl) (z108_31 3 xs (d := d + 1) (h := _) hz F141) ?_
  refine ag_icmp_eq (d0_168 3 xs) (t := 441) (by decide) (fun _ => ?_) (fun hn => absurd (by decide) hn)
  refine ag_iinc (d0_441 3 xs) (y := 3) (ls' := [some (.ref ax_big), some (.ref 0), some (.ref 141), some (.ref 166), some (.int 3), none, none]) rfl (by decide) rfl ?_
  refine ag_goto (d0_444 3 xs) (t := 23) (by decide) ?_
  refine ag_iload (d0_23 3 xs) rfl ?_
  refine ag_aload_n (d0_25 3 xs) rfl ?_
  refine ag_slen rfl (d0_26 3 xs) ?_
  refine ag_top (y := 3) (by decide) ?_
  refine ag_iconst (d0_27 3 xs) (x := 3) (by decide) ?_
  refine ag_isub (d0_28 3 xs) ?_
  refine ag_top (y := 0) (by decide) ?_
  refine ag_icmp_gt (d0_29 3 xs) (t := 447) (by decide) (fun _ => ?_) (fun hn => absurd (by decide) hn)
  refine ag_iconst (d0_447 3 xs) (x := 1) (by decide) ?_
  exact ag_iret (d0_448 3 xs) rfl rfl
theorem z36_49 (L : Nat) (xs : Nat → Int32) {d : Nat} {h : ax_H} {s1 : Int32} (hz : h.2.1 = 167) (F0 : h.1 0 = some (.inr (0, [.ref 1, .ref 3, .ref 87, .ref 137]))) (F1 : h.1 1 = some (.inr (1, [.ref 2, .int 0]))) : ax_Ca (mgT L xs) (d + 2) 36 [.ref 0, .int s1] h (.inl (some (.int 0)), h) := by
  refine ag_call (Nat.le_of_ble_eq_true rfl) ?_
  show ax_Go (mgT L xs) (d + 1) 36 0 [some (.ref 0), some (.int s1), none, none] [] h _
  refine ag_aload_n (d36_0 L xs) rfl ?_
  refine ag_get (d36_1 L xs) (kd := 1) (cj := 0) (k0 := 0) rfl (Or.inl rfl) F0 rfl ?_
  refine ag_bipush (d36_4 L xs) (x := 32) (by decide) ?_
  refine ag_iconst (d36_6 L xs) (x := 0) (by decide) ?_
  refine ag_aload_n (d36_7 L xs) rfl ?_
  refine ag_get (d36_8 L xs) (kd := 1) (cj := 0) (k0 := 0) rfl (Or.inl rfl) F0 rfl ?_
  refine ag_invv (d36_11 L xs) (kd := 7) (mj := 15) (n := 0) rfl (Or.inl rfl) (xs := []) (r := [.int 0, .int 32, .ref 1]) rfl rfl F1 rfl (Nat.le_of_ble_eq_true rfl) (z15_3 L xs (d := d + 0) (h := _) hz F1) ?_
  refine ag_invv (d36_14 L xs) (kd := 7) (mj := 37) (n := 3) rfl (Or.inl rfl) (xs := [.int 0, .int 0, .int 32]) (r := []) rfl rfl F1 rfl (Nat.le_of_ble_eq_true rfl) (z37_20 L xs (d := d + 0) (h := _) hz ) ?_
  refine ag_istore_n (d36_17 L xs) (ls' := [some (.ref 0), some (.int s1), some (.int 0), none]) (Nat.le_of_ble_eq_true rfl) rfl ?_
  refine ag_aload_n (d36_18 L xs) rfl ?_
  refine ag_get (d36_19 L xs) (kd := 1) (cj := 0) (k0 := 0) rfl (Or.inl rfl) F0 rfl ?_
  refine ag_iconst (d36_22 L xs) (x := 0) (by decide) ?_
  refine ag_iload_n (d36_23 L xs) rfl ?_
  refine ag_invv (d36_24 L xs) (kd := 7) (mj := 38) (n := 2) rfl (Or.inl rfl) (xs := [.int 0, .int 0]) (r := []) rfl rfl F1 rfl (Nat.le_of_ble_eq_true rfl) (z38_21 L xs (d := d + 0) (h := _) hz ) ?_
  refine ag_if_ne (d36_27 L xs) (t := 32) (by decide) (fun hp => absurd hp (by decide)) (fun _ => ?_)
  refine ag_iconst (d36_30 L xs) (x := 0) (by decide) ?_
  exact ag_iret (d36_31 L xs) rfl rfl
theorem z35_50 (L : Nat) (xs : Nat → Int32) {d : Nat} {h : ax_H} {s1 : Int32} (hz : h.2.1 = 167) (F0 : h.1 0 = some (.inr (0, [.ref 1, .ref 3, .ref 87, .ref 137]))) (F1 : h.1 1 = some (.inr (1, [.ref 2, .int 0]))) : ax_Ca (mgT L xs) (d + 3) 35 [.ref 0, .int s1] h (.inr 1, (ax_one h)) := by
  refine ag_callT (Nat.le_of_ble_eq_true rfl) ?_
  show ax_Go (mgT L xs) (d + 2) 35 0 [some (.ref 0), some (.int s1)] [] h _
  refine ag_aload_n (d35_0 L xs) rfl ?_
  refine ag_iload_n (d35_1 L xs) rfl ?_
  refine ag_invv (d35_2 L xs) (kd := 7) (mj := 36) (n := 1) rfl (Or.inl rfl) (xs := [.int s1]) (r := []) rfl rfl F0 rfl (Nat.le_of_ble_eq_true rfl) (z36_49 L xs (d := d + 0) (h := _) (s1 := s1) hz F0 F1) ?_
  refine ag_if_ne (d35_5 L xs) (t := 16) (by decide) (fun hp => absurd hp (by decide)) (fun _ => ?_)
  exact ag_thr (d35_8 L xs) rfl (d35_11 L xs) (d35_12 L xs) (d35_15 L xs) (by rw [hz]; decide) (Nat.le_of_ble_eq_true rfl) rfl
theorem z1_51 (L : Nat) (xs : Nat → Int32) {d : Nat} {h : ax_H} {s1 : Int32} (hz : h.2.1 = 167) (F0 : h.1 0 = some (.inr (0, [.ref 1, .ref 3, .ref 87, .ref 137]))) (F1 : h.1 1 = some (.inr (1, [.ref 2, .int 0]))) : ax_Ca (mgT L xs) (d + 4) 1 [.ref 0, .int s1, .ref 166] h (.inl (some (.int 1)), (ax_one h)) := by
  refine ag_call (Nat.le_of_ble_eq_true rfl) ?_
  show ax_Go (mgT L xs) (d + 3) 1 0 [some (.ref 0), some (.int s1), some (.ref 166), none] [] h _
  refine ag_aload_n (d1_0 L xs) rfl ?_
  refine ag_iconst (d1_1 L xs) (x := 0) (by decide) ?_
  refine ag_aload_n (d1_2 L xs) rfl ?_
  refine ag_iload_n (d1_3 L xs) rfl ?_
  refine ag_invc (d1_4 L xs) (mj := 35) (n := 1) rfl (xs := [.int s1]) (r := [.int 0, .ref 166]) rfl rfl F0 rfl (Nat.le_of_ble_eq_true rfl) (z35_50 L xs (d := d + 0) (h := _) (s1 := s1) hz F0 F1) (pc' := 12) rfl ?_
  refine ag_ref (b := 167) (by show (ax_one h).2.1 - 1 = _; rw [(ax_one_sz hz)]) ?_
  refine ag_astore_n (d1_12 L xs) (ls' := [some (.ref 0), some (.int s1), some (.ref 166), some (.ref 167)]) (Nat.le_of_ble_eq_true rfl) rfl ?_
  refine ag_iconst (d1_13 L xs) (x := 1) (by decide) ?_
  exact ag_iret (d1_14 L xs) rfl rfl
theorem z109_52 (L : Nat) (xs : Nat → Int32) {d : Nat} {h : ax_H} {s1 : Int32} (hz : h.2.1 = 168) (F141 : h.1 141 = some (.inr (9, [.int 0, .int 0, .ref 142, .int 0, .ref 143, .ref 144, .ref 145, .ref 146, .ref 147, .int 0, .int 0, .ref 148, .int 0, .ref 149, .int 0, .int 0, .ref 150, .int 0, .ref 151, .int 0, .ref 152, .ref 153, .int 0, .int 0, .ref 154, .ref 155, .ref 156, .ref 157, .ref 158, .ref 159, .ref 160, .ref 161, .ref 162, .int 0, .int 0, .int 0, .int 0, .int 0, .int 0, .int 0, .int 0, .int 0, .ref 163, .int 0, .int 0, .int 0, .int 0, .ref 164, .ref 165]))) (hc_3 : s1 < 0) : ax_Ca (mgT L xs) (d + 1) 109 [.ref 141, .int s1] h (.inl (some (.int 0)), (ax_up h 141 (.inr (9, [.int 1, .int 0, .ref 142, .int 0, .ref 143, .ref 144, .ref 145, .ref 146, .ref 147, .int 0, .int 0, .ref 148, .int 0, .ref 149, .int 0, .int 0, .ref 150, .int 0, .ref 151, .int 0, .ref 152, .ref 153, .int 0, .int 0, .ref 154, .ref 155, .ref 156, .ref 157, .ref 158, .ref 159, .ref 160, .ref 161, .ref 162, .int 0, .int 0, .int 0, .int 0, .int 0, .int 0, .int 0, .int 0, .int 0, .ref 163, .int 0, .int 0, .int 0, .int 0, .ref 164, .ref 165])))) := by
  refine ag_call (Nat.le_of_ble_eq_true rfl) ?_
  show ax_Go (mgT L xs) (d + 0) 109 0 [some (.ref 141), some (.int s1), none, none, none, none] [] h _
  refine ag_aload_n (d109_0 L xs) rfl ?_
  refine ag_iload_n (d109_1 L xs) rfl ?_
  refine ag_if_lt (d109_2 L xs) (t := 10) (by decide) (fun _ => ?_) (fun hn => absurd hc_3 hn)
  refine ag_iconst (d109_10 L xs) (x := 1) (by decide) ?_
  refine ag_goto (d109_11 L xs) (t := 15) (by decide) ?_
  refine ag_put (d109_15 L xs) (cj := 9) (k0 := 0) rfl F141 (ax_lt hz (Nat.le_of_ble_eq_true rfl)) (Nat.le_of_ble_eq_true rfl) rfl rfl ?_
  refine ag_aload_n (d109_18 L xs) rfl ?_
  refine ag_get (d109_19 L xs) (kd := 1) (cj := 9) (k0 := 0) rfl (Or.inl rfl) (ax_up_at _ _ _) rfl ?_
  refine ag_if_le (d109_22 L xs) (t := 27) (by decide) (fun hp => absurd hp (by decide)) (fun _ => ?_)
  refine ag_iconst (d109_25 L xs) (x := 0) (by decide) ?_
  exact ag_iret (d109_26 L xs) rfl rfl
theorem z109_53 (L : Nat) (xs : Nat → Int32) {d : Nat} {h : ax_H} {s1 : Int32} (hz : h.2.1 = 168) (F141 : h.1 141 = some (.inr (9, [.int 0, .int 0, .ref 142, .int 0, .ref 143, .ref 144, .ref 145, .ref 146, .ref 147, .int 0, .int 0, .ref 148, .int 0, .ref 149, .int 0, .int 0, .ref 150, .int 0, .ref 151, .int 0, .ref 152, .ref 153, .int 0, .int 0, .ref 154, .ref 155, .ref 156, .ref 157, .ref 158, .ref 159, .ref 160, .ref 161, .ref 162, .int 0, .int 0, .int 0, .int 0, .int 0, .int 0, .int 0, .int 0, .int 0, .ref 163, .int 0, .int 0, .int 0, .int 0, .ref 164, .ref 165]))) (hc_3 : ¬ (s1 < 0)) (hc_4 : 4 < s1) : ax_Ca (mgT L xs) (d + 1) 109 [.ref 141, .int s1] h (.inl (some (.int 0)), (ax_up h 141 (.inr (9, [.int 1, .int 0, .ref 142, .int 0, .ref 143, .ref 144, .ref 145, .ref 146, .ref 147, .int 0, .int 0, .ref 148, .int 0, .ref 149, .int 0, .int 0, .ref 150, .int 0, .ref 151, .int 0, .ref 152, .ref 153, .int 0, .int 0, .ref 154, .ref 155, .ref 156, .ref 157, .ref 158, .ref 159, .ref 160, .ref 161, .ref 162, .int 0, .int 0, .int 0, .int 0, .int 0, .int 0, .int 0, .int 0, .int 0, .ref 163, .int 0, .int 0, .int 0, .int 0, .ref 164, .ref 165])))) := by
  refine ag_call (Nat.le_of_ble_eq_true rfl) ?_
  show ax_Go (mgT L xs) (d + 0) 109 0 [some (.ref 141), some (.int s1), none, none, none, none] [] h _
  refine ag_aload_n (d109_0 L xs) rfl ?_
  refine ag_iload_n (d109_1 L xs) rfl ?_
  refine ag_if_lt (d109_2 L xs) (t := 10) (by decide) (fun hp => absurd hp hc_3) (fun _ => ?_)
  refine ag_iload_n (d109_5 L xs) rfl ?_
  refine ag_iconst (d109_6 L xs) (x := 4) (by decide) ?_
  refine ag_icmp_le (d109_7 L xs) (t := 14) (by decide) (fun hp => absurd hp (Int32.not_le.mpr hc_4)) (fun _ => ?_)
  refine ag_iconst (d109_10 L xs) (x := 1) (by decide) ?_
  refine ag_goto (d109_11 L xs) (t := 15) (by decide) ?_
  refine ag_put (d109_15 L xs) (cj := 9) (k0 := 0) rfl F141 (ax_lt hz (Nat.le_of_ble_eq_true rfl)) (Nat.le_of_ble_eq_true rfl) rfl rfl ?_
  refine ag_aload_n (d109_18 L xs) rfl ?_
  refine ag_get (d109_19 L xs) (kd := 1) (cj := 9) (k0 := 0) rfl (Or.inl rfl) (ax_up_at _ _ _) rfl ?_
  refine ag_if_le (d109_22 L xs) (t := 27) (by decide) (fun hp => absurd hp (by decide)) (fun _ => ?_)
  refine ag_iconst (d109_25 L xs) (x := 0) (by decide) ?_
  exact ag_iret (d109_26 L xs) rfl rfl
theorem z110_54 (L : Nat) (xs : Nat → Int32) {d : Nat} {h : ax_H} (hz : h.2.1 = 168) : ax_Ca (mgT L xs) (d + 1) 110 [.ref 142, .int 0, .int 0] h (.inl (some (.int 0)), h) := by
  refine ag_call (Nat.le_of_ble_eq_true rfl) ?_
  show ax_Go (mgT L xs) (d + 0) 110 0 [some (.ref 142), some (.int 0), some (.int 0), none, none, none, none] [] h _
  refine ag_iload_n (d110_0 L xs) rfl ?_
  refine ag_iload_n (d110_1 L xs) rfl ?_
  refine ag_isub (d110_2 L xs) ?_
  refine ag_top (y := 0) (by decide) ?_
  refine ag_iconst (d110_3 L xs) (x := 1) (by decide) ?_
  refine ag_icmp_lt (d110_4 L xs) (t := 15) (by decide) (fun _ => ?_) (fun hn => absurd (by decide) hn)
  refine ag_iconst (d110_15 L xs) (x := 0) (by decide) ?_
  exact ag_iret (d110_16 L xs) rfl rfl
theorem z109_55 (L : Nat) (xs : Nat → Int32) {d : Nat} {h : ax_H} {s1 : Int32} (hz : h.2.1 = 168) (F141 : h.1 141 = some (.inr (9, [.int 0, .int 0, .ref 142, .int 0, .ref 143, .ref 144, .ref 145, .ref 146, .ref 147, .int 0, .int 0, .ref 148, .int 0, .ref 149, .int 0, .int 0, .ref 150, .int 0, .ref 151, .int 0, .ref 152, .ref 153, .int 0, .int 0, .ref 154, .ref 155, .ref 156, .ref 157, .ref 158, .ref 159, .ref 160, .ref 161, .ref 162, .int 0, .int 0, .int 0, .int 0, .int 0, .int 0, .int 0, .int 0, .int 0, .ref 163, .int 0, .int 0, .int 0, .int 0, .ref 164, .ref 165]))) (hc_3 : ¬ (s1 < 0)) (hc_4 : ¬ (4 < s1)) : ax_Ca (mgT L xs) (d + 2) 109 [.ref 141, .int s1] h (.inl (some (.int 0)), (ax_up (ax_up h 141 (.inr (9, [.int 0, .int 0, .ref 142, .int 0, .ref 143, .ref 144, .ref 145, .ref 146, .ref 147, .int 0, .int 0, .ref 148, .int 0, .ref 149, .int 0, .int 0, .ref 150, .int 0, .ref 151, .int 0, .ref 152, .ref 153, .int 0, .int 0, .ref 154, .ref 155, .ref 156, .ref 157, .ref 158, .ref 159, .ref 160, .ref 161, .ref 162, .int 0, .int 0, .int 0, .int 0, .int 0, .int 0, .int 0, .int 0, .int 0, .ref 163, .int 0, .int 0, .int 0, .int 0, .ref 164, .ref 165]))) 141 (.inr (9, [.int 1, .int 0, .ref 142, .int 0, .ref 143, .ref 144, .ref 145, .ref 146, .ref 147, .int 0, .int 0, .ref 148, .int 0, .ref 149, .int 0, .int 0, .ref 150, .int 0, .ref 151, .int 0, .ref 152, .ref 153, .int 0, .int 0, .ref 154, .ref 155, .ref 156, .ref 157, .ref 158, .ref 159, .ref 160, .ref 161, .ref 162, .int 0, .int 0, .int 0, .int 0, .int 0, .int 0, .int 0, .int 0, .int 0, .ref 163, .int 0, .int 0, .int 0, .int 0, .ref 164, .ref 165])))) := by
  refine ag_call (Nat.le_of_ble_eq_true rfl) ?_
  show ax_Go (mgT L xs) (d + 1) 109 0 [some (.ref 141), some (.int s1), none, none, none, none] [] h _
  refine ag_aload_n (d109_0 L xs) rfl ?_
  refine ag_iload_n (d109_1 L xs) rfl ?_
  refine ag_if_lt (d109_2 L xs) (t := 10) (by decide) (fun hp => absurd hp hc_3) (fun _ => ?_)
  refine ag_iload_n (d109_5 L xs) rfl ?_
  refine ag_iconst (d109_6 L xs) (x := 4) (by decide) ?_
  refine ag_icmp_le (d109_7 L xs) (t := 14) (by decide) (fun _ => ?_) (fun hn => absurd (Int32.not_lt.mp hc_4) hn)
  refine ag_iconst (d109_14 L xs) (x := 0) (by decide) ?_
  refine ag_put (d109_15 L xs) (cj := 9) (k0 := 0) rfl F141 (ax_lt hz (Nat.le_of_ble_eq_true rfl)) (Nat.le_of_ble_eq_true rfl) rfl rfl ?_
  refine ag_aload_n (d109_18 L xs) rfl ?_
  refine ag_get (d109_19 L xs) (kd := 1) (cj := 9) (k0 := 0) rfl (Or.inl rfl) (ax_up_at _ _ _) rfl ?_
  refine ag_if_le (d109_22 L xs) (t := 27) (by decide) (fun _ => ?_) (fun hn => absurd (by decide) hn)
  refine ag_iconst (d109_27 L xs) (x := 0) (by decide) ?_
  refine ag_istore_n (d109_28 L xs) (ls' := [some (.ref 141), some (.int s1), some (.int 0), none, none, none]) (Nat.le_of_ble_eq_true rfl) rfl ?_
  refine ag_iload_n (d109_29 L xs) rfl ?_
  refine ag_aload_n (d109_30 L xs) rfl ?_
  refine ag_get (d109_31 L xs) (kd := 1) (cj := 9) (k0 := 1) rfl (Or.inl rfl) (ax_up_at _ _ _) rfl ?_
  refine ag_icmp_ge (d109_34 L xs) (t := 66) (by decide) (fun _ => ?_) (fun hn => absurd (by decide) hn)
  refine ag_aload_n (d109_66 L xs) rfl ?_
  refine ag_get (d109_67 L xs) (kd := 1) (cj := 9) (k0 := 2) rfl (Or.inl rfl) (ax_up_at _ _ _) rfl ?_
  refine ag_iconst (d109_70 L xs) (x := 0) (by decide) ?_
  refine ag_iload_n (d109_71 L xs) rfl ?_
  refine ag_invs (d109_72 L xs) (kd := 6) (mj := 110) (n := 3) rfl (Or.inl rfl) (xs := [.int 0, .int 0, .ref 142]) (r := []) rfl rfl (Nat.le_of_ble_eq_true rfl) (z110_54 L xs (d := d + 0) (h := _) hz ) ?_
  refine ag_if_eq (d109_75 L xs) (t := 108) (by decide) (fun _ => ?_) (fun hn => absurd (by decide) hn)
  refine ag_iconst (d109_108 L xs) (x := 0) (by decide) ?_
  refine ag_istore_n (d109_109 L xs) (ls' := [some (.ref 141), some (.int s1), some (.int 0), some (.int 0), none, none]) (Nat.le_of_ble_eq_true rfl) rfl ?_
  refine ag_iconst (d109_110 L xs) (x := 0) (by decide) ?_
  refine ag_istore (d109_111 L xs) (ls' := [some (.ref 141), some (.int s1), some (.int 0), some (.int 0), some (.int 0), none]) (Nat.le_of_ble_eq_true rfl) rfl ?_
  refine ag_iload_n (d109_113 L xs) rfl ?_
  refine ag_if_eq (d109_114 L xs) (t := 158) (by decide) (fun _ => ?_) (fun hn => absurd (by decide) hn)
  refine ag_iload_n (d109_158 L xs) rfl ?_
  refine ag_if_eq (d109_159 L xs) (t := 182) (by decide) (fun _ => ?_) (fun hn => absurd (by decide) hn)
  refine ag_aload_n (d109_182 L xs) rfl ?_
  refine ag_iload_n (d109_183 L xs) rfl ?_
  refine ag_if_ne (d109_184 L xs) (t := 191) (by decide) (fun hp => absurd hp (by decide)) (fun _ => ?_)
  refine ag_iconst (d109_187 L xs) (x := 1) (by decide) ?_
  refine ag_goto (d109_188 L xs) (t := 205) (by decide) ?_
  refine ag_put (d109_205 L xs) (cj := 9) (k0 := 0) rfl (ax_up_at _ _ _) (ax_lt hz (Nat.le_of_ble_eq_true rfl)) (Nat.le_of_ble_eq_true rfl) rfl rfl ?_
  refine ag_aload_n (d109_208 L xs) rfl ?_
  refine ag_get (d109_209 L xs) (kd := 1) (cj := 9) (k0 := 0) rfl (Or.inl rfl) (ax_up_at _ _ _) rfl ?_
  refine ag_if_le (d109_212 L xs) (t := 217) (by decide) (fun hp => absurd hp (by decide)) (fun _ => ?_)
  refine ag_iconst (d109_215 L xs) (x := 0) (by decide) ?_
  exact ag_iret (d109_216 L xs) rfl rfl
theorem z15_56 (L : Nat) (xs : Nat → Int32) {d : Nat} {h : ax_H} (hz : h.2.1 = 167) (F1 : h.1 1 = some (.inr (1, [.ref 2, .int 0]))) : ax_Ca (mgT L xs) (d + 1) 15 [.ref 1] h (.inl (some (.int 0)), h) := by
  refine ag_call (Nat.le_of_ble_eq_true rfl) ?_
  show ax_Go (mgT L xs) (d + 0) 15 0 [some (.ref 1)] [] h _
  refine ag_aload_n (d15_0 L xs) rfl ?_
  refine ag_get (d15_1 L xs) (kd := 1) (cj := 1) (k0 := 1) rfl (Or.inl rfl) F1 rfl ?_
  exact ag_iret (d15_4 L xs) rfl rfl
theorem z37_57 (L : Nat) (xs : Nat → Int32) {d : Nat} {h : ax_H} (hz : h.2.1 = 167) : ax_Ca (mgT L xs) (d + 1) 37 [.ref 1, .int 32, .int 0, .int 0] h (.inl (some (.int 0)), h) := by
  refine ag_call (Nat.le_of_ble_eq_true rfl) ?_
  show ax_Go (mgT L xs) (d + 0) 37 0 [some (.ref 1), some (.int 32), some (.int 0), some (.int 0), none] [] h _
  refine ag_iload_n (d37_0 L xs) rfl ?_
  refine ag_istore (d37_1 L xs) (ls' := [some (.ref 1), some (.int 32), some (.int 0), some (.int 0), some (.int 0)]) (Nat.le_of_ble_eq_true rfl) rfl ?_
  refine ag_iload (d37_3 L xs) rfl ?_
  refine ag_iload_n (d37_5 L xs) rfl ?_
  refine ag_icmp_ge (d37_6 L xs) (t := 28) (by decide) (fun _ => ?_) (fun hn => absurd (by decide) hn)
  refine ag_iload_n (d37_28 L xs) rfl ?_
  exact ag_iret (d37_29 L xs) rfl rfl
theorem z38_58 (L : Nat) (xs : Nat → Int32) {d : Nat} {h : ax_H} (hz : h.2.1 = 167) : ax_Ca (mgT L xs) (d + 1) 38 [.ref 1, .int 0, .int 0] h (.inl (some (.int 0)), h) := by
  refine ag_call (Nat.le_of_ble_eq_true rfl) ?_
  show ax_Go (mgT L xs) (d + 0) 38 0 [some (.ref 1), some (.int 0), some (.int 0), none, none, none] [] h _
  refine ag_iload_n (d38_0 L xs) rfl ?_
  refine ag_iload_n (d38_1 L xs) rfl ?_
  refine ag_isub (d38_2 L xs) ?_
  refine ag_top (y := 0) (by decide) ?_
  refine ag_bipush (d38_3 L xs) (x := 48) (by decide) ?_
  refine ag_icmp_le (d38_5 L xs) (t := 10) (by decide) (fun _ => ?_) (fun hn => absurd (by decide) hn)
  refine ag_iconst (d38_10 L xs) (x := 0) (by decide) ?_
  refine ag_istore_n (d38_11 L xs) (ls' := [some (.ref 1), some (.int 0), some (.int 0), some (.int 0), none, none]) (Nat.le_of_ble_eq_true rfl) rfl ?_
  refine ag_iload_n (d38_12 L xs) rfl ?_
  refine ag_istore (d38_13 L xs) (ls' := [some (.ref 1), some (.int 0), some (.int 0), some (.int 0), some (.int 0), none]) (Nat.le_of_ble_eq_true rfl) rfl ?_
  refine ag_iload (d38_15 L xs) rfl ?_
  refine ag_iload_n (d38_17 L xs) rfl ?_
  refine ag_icmp_ge (d38_18 L xs) (t := 72) (by decide) (fun _ => ?_) (fun hn => absurd (by decide) hn)
  refine ag_iload_n (d38_72 L xs) rfl ?_
  refine ag_if_le (d38_73 L xs) (t := 80) (by decide) (fun _ => ?_) (fun hn => absurd (by decide) hn)
  refine ag_iconst (d38_80 L xs) (x := 0) (by decide) ?_
  exact ag_iret (d38_81 L xs) rfl rfl
theorem z36_59 (L : Nat) (xs : Nat → Int32) {d : Nat} {h : ax_H} {s1 : Int32} (hz : h.2.1 = 167) (F0 : h.1 0 = some (.inr (0, [.ref 1, .ref 3, .ref 87, .ref 137]))) (F1 : h.1 1 = some (.inr (1, [.ref 2, .int 0]))) : ax_Ca (mgT L xs) (d + 2) 36 [.ref 0, .int s1] h (.inl (some (.int 0)), h) := by
  refine ag_call (Nat.le_of_ble_eq_true rfl) ?_
  show ax_Go (mgT L xs) (d + 1) 36 0 [some (.ref 0), some (.int s1), none, none] [] h _
  refine ag_aload_n (d36_0 L xs) rfl ?_
  refine ag_get (d36_1 L xs) (kd := 1) (cj := 0) (k0 := 0) rfl (Or.inl rfl) F0 rfl ?_
  refine ag_bipush (d36_4 L xs) (x := 32) (by decide) ?_
  refine ag_iconst (d36_6 L xs) (x := 0) (by decide) ?_
  refine ag_aload_n (d36_7 L xs) rfl ?_
  refine ag_get (d36_8 L xs) (kd := 1) (cj := 0) (k0 := 0) rfl (Or.inl rfl) F0 rfl ?_
  refine ag_invv (d36_11 L xs) (kd := 7) (mj := 15) (n := 0) rfl (Or.inl rfl) (xs := []) (r := [.int 0, .int 32, .ref 1]) rfl rfl F1 rfl (Nat.le_of_ble_eq_true rfl) (z15_56 L xs (d := d + 0) (h := _) hz F1) ?_
  refine ag_invv (d36_14 L xs) (kd := 7) (mj := 37) (n := 3) rfl (Or.inl rfl) (xs := [.int 0, .int 0, .int 32]) (r := []) rfl rfl F1 rfl (Nat.le_of_ble_eq_true rfl) (z37_57 L xs (d := d + 0) (h := _) hz ) ?_
  refine ag_istore_n (d36_17 L xs) (ls' := [some (.ref 0), some (.int s1), some (.int 0), none]) (Nat.le_of_ble_eq_true rfl) rfl ?_
  refine ag_aload_n (d36_18 L xs) rfl ?_
  refine ag_get (d36_19 L xs) (kd := 1) (cj := 0) (k0 := 0) rfl (Or.inl rfl) F0 rfl ?_
  refine ag_iconst (d36_22 L xs) (x := 0) (by decide) ?_
  refine ag_iload_n (d36_23 L xs) rfl ?_
  refine ag_invv (d36_24 L xs) (kd := 7) (mj := 38) (n := 2) rfl (Or.inl rfl) (xs := [.int 0, .int 0]) (r := []) rfl rfl F1 rfl (Nat.le_of_ble_eq_true rfl) (z38_58 L xs (d := d + 0) (h := _) hz ) ?_
  refine ag_if_ne (d36_27 L xs) (t := 32) (by decide) (fun hp => absurd hp (by decide)) (fun _ => ?_)
  refine ag_iconst (d36_30 L xs) (x := 0) (by decide) ?_
  exact ag_iret (d36_31 L xs) rfl rfl
theorem z35_60 (L : Nat) (xs : Nat → Int32) {d : Nat} {h : ax_H} {s1 : Int32} (hz : h.2.1 = 167) (F0 : h.1 0 = some (.inr (0, [.ref 1, .ref 3, .ref 87, .ref 137]))) (F1 : h.1 1 = some (.inr (1, [.ref 2, .int 0]))) : ax_Ca (mgT L xs) (d + 3) 35 [.ref 0, .int s1] h (.inr 1, (ax_one h)) := by
  refine ag_callT (Nat.le_of_ble_eq_true rfl) ?_
  show ax_Go (mgT L xs) (d + 2) 35 0 [some (.ref 0), some (.int s1)] [] h _
  refine ag_aload_n (d35_0 L xs) rfl ?_
  refine ag_iload_n (d35_1 L xs) rfl ?_
  refine ag_invv (d35_2 L xs) (kd := 7) (mj := 36) (n := 1) rfl (Or.inl rfl) (xs := [.int s1]) (r := []) rfl rfl F0 rfl (Nat.le_of_ble_eq_true rfl) (z36_59 L xs (d := d + 0) (h := _) (s1 := s1) hz F0 F1) ?_
  refine ag_if_ne (d35_5 L xs) (t := 16) (by decide) (fun hp => absurd hp (by decide)) (fun _ => ?_)
  exact ag_thr (d35_8 L xs) rfl (d35_11 L xs) (d35_12 L xs) (d35_15 L xs) (by rw [hz]; decide) (Nat.le_of_ble_eq_true rfl) rfl
theorem z1_61 (L : Nat) (xs : Nat → Int32) {d : Nat} {h : ax_H} {s1 : Int32} (hz : h.2.1 = 167) (F0 : h.1 0 = some (.inr (0, [.ref 1, .ref 3, .ref 87, .ref 137]))) (F1 : h.1 1 = some (.inr (1, [.ref 2, .int 0]))) : ax_Ca (mgT L xs) (d + 4) 1 [.ref 0, .int s1, .ref 166] h (.inl (some (.int 1)), (ax_one h)) := by
  refine ag_call (Nat.le_of_ble_eq_true rfl) ?_
  show ax_Go (mgT L xs) (d + 3) 1 0 [some (.ref 0), some (.int s1), some (.ref 166), none] [] h _
  refine ag_aload_n (d1_0 L xs) rfl ?_
  refine ag_iconst (d1_1 L xs) (x := 0) (by decide) ?_
  refine ag_aload_n (d1_2 L xs) rfl ?_
  refine ag_iload_n (d1_3 L xs) rfl ?_
  refine ag_invc (d1_4 L xs) (mj := 35) (n := 1) rfl (xs := [.int s1]) (r := [.int 0, .ref 166]) rfl rfl F0 rfl (Nat.le_of_ble_eq_true rfl) (z35_60 L xs (d := d + 0) (h := _) (s1 := s1) hz F0 F1) (pc' := 12) rfl ?_
  refine ag_ref (b := 167) (by show (ax_one h).2.1 - 1 = _; rw [(ax_one_sz hz)]) ?_
  refine ag_astore_n (d1_12 L xs) (ls' := [some (.ref 0), some (.int s1), some (.ref 166), some (.ref 167)]) (Nat.le_of_ble_eq_true rfl) rfl ?_
  refine ag_iconst (d1_13 L xs) (x := 1) (by decide) ?_
  exact ag_iret (d1_14 L xs) rfl rfl
theorem z105_62 (L : Nat) (xs : Nat → Int32) {d : Nat} {h : ax_H} (hz : h.2.1 = 168) (F141 : h.1 141 = some (.inr (9, [.int 1, .int 0, .ref 142, .int 0, .ref 143, .ref 144, .ref 145, .ref 146, .ref 147, .int 0, .int 0, .ref 148, .int 0, .ref 149, .int 0, .int 0, .ref 150, .int 0, .ref 151, .int 0, .ref 152, .ref 153, .int 0, .int 0, .ref 154, .ref 155, .ref 156, .ref 157, .ref 158, .ref 159, .ref 160, .ref 161, .ref 162, .int 0, .int 0, .int 0, .int 0, .int 0, .int 0, .int 0, .int 0, .int 0, .ref 163, .int 0, .int 0, .int 0, .int 0, .ref 164, .ref 165]))) : ax_Ca (mgT L xs) (d + 1) 105 [.ref 141] h (.inl (some (.int 1)), h) := by
  refine ag_call (Nat.le_of_ble_eq_true rfl) ?_
  show ax_Go (mgT L xs) (d + 0) 105 0 [some (.ref 141)] [] h _
  refine ag_aload_n (d105_0 L xs) rfl ?_
  refine ag_get (d105_1 L xs) (kd := 1) (cj := 9) (k0 := 0) rfl (Or.inl rfl) F141 rfl ?_
  exact ag_iret (d105_4 L xs) rfl rfl
theorem z0_63 (xs : Nat → Int32) {d : Nat} {h : ax_H} {s0 : Int32} (hs0 : xs 0 = s0) {s1 : Int32} (hs1 : xs 1 = s1) (hz : h.2.1 = 167) (F0 : h.1 0 = some (.inr (0, [.ref 1, .ref 3, .ref 87, .ref 137]))) (F1 : h.1 1 = some (.inr (1, [.ref 2, .int 0]))) (F141 : h.1 141 = some (.inr (9, [.int 0, .int 0, .ref 142, .int 0, .ref 143, .ref 144, .ref 145, .ref 146, .ref 147, .int 0, .int 0, .ref 148, .int 0, .ref 149, .int 0, .int 0, .ref 150, .int 0, .ref 151, .int 0, .ref 152, .ref 153, .int 0, .int 0, .ref 154, .ref 155, .ref 156, .ref 157, .ref 158, .ref 159, .ref 160, .ref 161, .ref 162, .int 0, .int 0, .int 0, .int 0, .int 0, .int 0, .int 0, .int 0, .int 0, .ref 163, .int 0, .int 0, .int 0, .int 0, .ref 164, .ref 165]))) (hc_3 : s1 < 0) (hj : s0 &&& 15 = 3) : ax_Go (mgT 3 xs) (d + 4) 0 23 [some (.ref ax_big), some (.ref 0), some (.ref 141), some (.ref 166), some (.int 0), none, none] [] h (.inl (some (.int 1)), (ax_up (ax_one h) 141 (.inr (9, [.int 1, .int 0, .ref 142, .int 0, .ref 143, .ref 144, .ref 145, .ref 146, .ref 147, .int 0, .int 0, .ref 148, .int 0, .ref 149, .int 0, .int 0, .ref 150, .int 0, .ref 151, .int 0, .ref 152, .ref 153, .int 0, .int 0, .ref 154, .ref 155, .ref 156, .ref 157, .ref 158, .ref 159, .ref 160, .ref 161, .ref 162, .int 0, .int 0, .int 0, .int 0, .int 0, .int 0, .int 0, .int 0, .int 0, .ref 163, .int 0, .int 0, .int 0, .int 0, .ref 164, .ref 165])))) := by
  refine ag_iload (d0_23 3 xs) rfl ?_
  refine ag_aload_n (d0_25 3 xs) rfl ?_
  refine ag_slen rfl (d0_26 3 xs) ?_
  refine ag_top (y := 3) (by decide) ?_
  refine ag_iconst (d0_27 3 xs) (x := 3) (by decide) ?_
  refine ag_isub (d0_28 3 xs) ?_
  refine ag_top (y := 0) (by decide) ?_
  refine ag_icmp_gt (d0_29 3 xs) (t := 447) (by decide) (fun hp => absurd hp (by decide)) (fun _ => ?_)
  refine ag_aload_n (d0_32 3 xs) rfl ?_
  refine ag_iload (d0_33 3 xs) rfl ?_
  refine ag_sald rfl (d0_35 3 xs) (x := s0) (show ¬ ((0 : Int32) < 0 ∨ 3 ≤ (0 : Int32).toNatClampNeg) from by decide) hs0 ?_
  refine ag_bipush (d0_36 3 xs) (x := 15) (by decide) ?_
  refine ag_iand (d0_38 3 xs) ?_
  refine ag_top (y := 3) hj ?_
  refine ag_tswIn (d0_39 3 xs) (of := 134) (t := 173) (by decide) (by decide) (by decide) ?_
  refine ag_aload_n (d0_173 3 xs) rfl ?_
  refine ag_aload_n (d0_174 3 xs) rfl ?_
  refine ag_iload (d0_175 3 xs) rfl ?_
  refine ag_iconst (d0_177 3 xs) (x := 1) (by decide) ?_
  refine ag_iadd (d0_178 3 xs) ?_
  refine ag_top (y := 1) (by decide) ?_
  refine ag_sald rfl (d0_179 3 xs) (x := s1) (show ¬ ((1 : Int32) < 0 ∨ 3 ≤ (1 : Int32).toNatClampNeg) from by decide) hs1 ?_
  refine ag_aload_n (d0_180 3 xs) rfl ?_
  refine ag_invs (d0_181 3 xs) (kd := 26) (mj := 1) (n := 3) rfl (Or.inr (Or.inr rfl)) (xs := [.ref 166, .int s1, .ref 0]) (r := []) rfl rfl (Nat.le_of_ble_eq_true rfl) (z1_61 3 xs (d := d + 0) (h := _) (s1 := s1) hz F0 F1) ?_
  refine ag_istore (d0_184 3 xs) (ls' := [some (.ref ax_big), some (.ref 0), some (.ref 141), some (.ref 166), some (.int 0), some (.int 1), none]) (Nat.le_of_ble_eq_true rfl) rfl ?_
  refine ag_aload_n (d0_186 3 xs) rfl ?_
  refine ag_aload_n (d0_187 3 xs) rfl ?_
  refine ag_iload (d0_188 3 xs) rfl ?_
  refine ag_iconst (d0_190 3 xs) (x := 1) (by decide) ?_
  refine ag_iadd (d0_191 3 xs) ?_
  refine ag_top (y := 1) (by decide) ?_
  refine ag_sald rfl (d0_192 3 xs) (x := s1) (show ¬ ((1 : Int32) < 0 ∨ 3 ≤ (1 : Int32).toNatClampNeg) from by decide) hs1 ?_
  refine ag_invv (d0_193 3 xs) (kd := 7) (mj := 109) (n := 1) rfl (Or.inl rfl) (xs := [.int s1]) (r := []) rfl rfl ((ax_one_at _ 141).trans F141) rfl (Nat.le_of_ble_eq_true rfl) (z109_52 3 xs (d := d + 3) (h := _) (s1 := s1) (ax_one_sz hz) ((ax_one_at _ 141).trans F141) hc_3) ?_
  refine ag_istore (d0_196 3 xs) (ls' := [some (.ref ax_big), some (.ref 0), some (.ref 141), some (.ref 166), some (.int 0), some (.int 1), some (.int 0)]) (Nat.le_of_ble_eq_true rfl) rfl ?_
  refine ag_aload_n (d0_198 3 xs) rfl ?_
  refine ag_invv (d0_199 3 xs) (kd := 7) (mj := 105) (n := 0) rfl (Or.inl rfl) (xs := []) (r := []) rfl rfl (ax_up_at _ _ _) rfl (Nat.le_of_ble_eq_true rfl) (z105_62 3 xs (d := d + 3) (h := _) (ax_one_sz hz) (ax_up_at _ _ _)) ?_
  refine ag_iload (d0_202 3 xs) rfl ?_
  refine ag_icmp_eq (d0_204 3 xs) (t := 209) (by decide) (fun _ => ?_) (fun hn => absurd (by decide) hn)
  refine ag_iload (d0_209 3 xs) rfl ?_
  refine ag_if_ne (d0_211 3 xs) (t := 226) (by decide) (fun _ => ?_) (fun hn => absurd (by decide) hn)
  refine ag_goto (d0_226 3 xs) (t := 441) (by decide) ?_
  refine ag_iinc (d0_441 3 xs) (y := 3) (ls' := [some (.ref ax_big), some (.ref 0), some (.ref 141), some (.ref 166), some (.int 3), some (.int 1), some (.int 0)]) rfl (by decide) rfl ?_
  refine ag_goto (d0_444 3 xs) (t := 23) (by decide) ?_
  refine ag_iload (d0_23 3 xs) rfl ?_
  refine ag_aload_n (d0_25 3 xs) rfl ?_
  refine ag_slen rfl (d0_26 3 xs) ?_
  refine ag_top (y := 3) (by decide) ?_
  refine ag_iconst (d0_27 3 xs) (x := 3) (by decide) ?_
  refine ag_isub (d0_28 3 xs) ?_
  refine ag_top (y := 0) (by decide) ?_
  refine ag_icmp_gt (d0_29 3 xs) (t := 447) (by decide) (fun _ => ?_) (fun hn => absurd (by decide) hn)
  refine ag_iconst (d0_447 3 xs) (x := 1) (by decide) ?_
  exact ag_iret (d0_448 3 xs) rfl rfl
theorem z15_64 (L : Nat) (xs : Nat → Int32) {d : Nat} {h : ax_H} (hz : h.2.1 = 167) (F1 : h.1 1 = some (.inr (1, [.ref 2, .int 0]))) : ax_Ca (mgT L xs) (d + 1) 15 [.ref 1] h (.inl (some (.int 0)), h) := by
  refine ag_call (Nat.le_of_ble_eq_true rfl) ?_
  show ax_Go (mgT L xs) (d + 0) 15 0 [some (.ref 1)] [] h _
  refine ag_aload_n (d15_0 L xs) rfl ?_
  refine ag_get (d15_1 L xs) (kd := 1) (cj := 1) (k0 := 1) rfl (Or.inl rfl) F1 rfl ?_
  exact ag_iret (d15_4 L xs) rfl rfl
theorem z37_65 (L : Nat) (xs : Nat → Int32) {d : Nat} {h : ax_H} (hz : h.2.1 = 167) : ax_Ca (mgT L xs) (d + 1) 37 [.ref 1, .int 32, .int 0, .int 0] h (.inl (some (.int 0)), h) := by
  refine ag_call (Nat.le_of_ble_eq_true rfl) ?_
  show ax_Go (mgT L xs) (d + 0) 37 0 [some (.ref 1), some (.int 32), some (.int 0), some (.int 0), none] [] h _
  refine ag_iload_n (d37_0 L xs) rfl ?_
  refine ag_istore (d37_1 L xs) (ls' := [some (.ref 1), some (.int 32), some (.int 0), some (.int 0), some (.int 0)]) (Nat.le_of_ble_eq_true rfl) rfl ?_
  refine ag_iload (d37_3 L xs) rfl ?_
  refine ag_iload_n (d37_5 L xs) rfl ?_
  refine ag_icmp_ge (d37_6 L xs) (t := 28) (by decide) (fun _ => ?_) (fun hn => absurd (by decide) hn)
  refine ag_iload_n (d37_28 L xs) rfl ?_
  exact ag_iret (d37_29 L xs) rfl rfl
theorem z38_66 (L : Nat) (xs : Nat → Int32) {d : Nat} {h : ax_H} (hz : h.2.1 = 167) : ax_Ca (mgT L xs) (d + 1) 38 [.ref 1, .int 0, .int 0] h (.inl (some (.int 0)), h) := by
  refine ag_call (Nat.le_of_ble_eq_true rfl) ?_
  show ax_Go (mgT L xs) (d + 0) 38 0 [some (.ref 1), some (.int 0), some (.int 0), none, none, none] [] h _
  refine ag_iload_n (d38_0 L xs) rfl ?_
  refine ag_iload_n (d38_1 L xs) rfl ?_
  refine ag_isub (d38_2 L xs) ?_
  refine ag_top (y := 0) (by decide) ?_
  refine ag_bipush (d38_3 L xs) (x := 48) (by decide) ?_
  refine ag_icmp_le (d38_5 L xs) (t := 10) (by decide) (fun _ => ?_) (fun hn => absurd (by decide) hn)
  refine ag_iconst (d38_10 L xs) (x := 0) (by decide) ?_
  refine ag_istore_n (d38_11 L xs) (ls' := [some (.ref 1), some (.int 0), some (.int 0), some (.int 0), none, none]) (Nat.le_of_ble_eq_true rfl) rfl ?_
  refine ag_iload_n (d38_12 L xs) rfl ?_
  refine ag_istore (d38_13 L xs) (ls' := [some (.ref 1), some (.int 0), some (.int 0), some (.int 0), some (.int 0), none]) (Nat.le_of_ble_eq_true rfl) rfl ?_
  refine ag_iload (d38_15 L xs) rfl ?_
  refine ag_iload_n (d38_17 L xs) rfl ?_
  refine ag_icmp_ge (d38_18 L xs) (t := 72) (by decide) (fun _ => ?_) (fun hn => absurd (by decide) hn)
  refine ag_iload_n (d38_72 L xs) rfl ?_
  refine ag_if_le (d38_73 L xs) (t := 80) (by decide) (fun _ => ?_) (fun hn => absurd (by decide) hn)
  refine ag_iconst (d38_80 L xs) (x := 0) (by decide) ?_
  exact ag_iret (d38_81 L xs) rfl rfl
theorem z36_67 (L : Nat) (xs : Nat → Int32) {d : Nat} {h : ax_H} {s1 : Int32} (hz : h.2.1 = 167) (F0 : h.1 0 = some (.inr (0, [.ref 1, .ref 3, .ref 87, .ref 137]))) (F1 : h.1 1 = some (.inr (1, [.ref 2, .int 0]))) : ax_Ca (mgT L xs) (d + 2) 36 [.ref 0, .int s1] h (.inl (some (.int 0)), h) := by
  refine ag_call (Nat.le_of_ble_eq_true rfl) ?_
  show ax_Go (mgT L xs) (d + 1) 36 0 [some (.ref 0), some (.int s1), none, none] [] h _
  refine ag_aload_n (d36_0 L xs) rfl ?_
  refine ag_get (d36_1 L xs) (kd := 1) (cj := 0) (k0 := 0) rfl (Or.inl rfl) F0 rfl ?_
  refine ag_bipush (d36_4 L xs) (x := 32) (by decide) ?_
  refine ag_iconst (d36_6 L xs) (x := 0) (by decide) ?_
  refine ag_aload_n (d36_7 L xs) rfl ?_
  refine ag_get (d36_8 L xs) (kd := 1) (cj := 0) (k0 := 0) rfl (Or.inl rfl) F0 rfl ?_
  refine ag_invv (d36_11 L xs) (kd := 7) (mj := 15) (n := 0) rfl (Or.inl rfl) (xs := []) (r := [.int 0, .int 32, .ref 1]) rfl rfl F1 rfl (Nat.le_of_ble_eq_true rfl) (z15_64 L xs (d := d + 0) (h := _) hz F1) ?_
  refine ag_invv (d36_14 L xs) (kd := 7) (mj := 37) (n := 3) rfl (Or.inl rfl) (xs := [.int 0, .int 0, .int 32]) (r := []) rfl rfl F1 rfl (Nat.le_of_ble_eq_true rfl) (z37_65 L xs (d := d + 0) (h := _) hz ) ?_
  refine ag_istore_n (d36_17 L xs) (ls' := [some (.ref 0), some (.int s1), some (.int 0), none]) (Nat.le_of_ble_eq_true rfl) rfl ?_
  refine ag_aload_n (d36_18 L xs) rfl ?_
  refine ag_get (d36_19 L xs) (kd := 1) (cj := 0) (k0 := 0) rfl (Or.inl rfl) F0 rfl ?_
  refine ag_iconst (d36_22 L xs) (x := 0) (by decide) ?_
  refine ag_iload_n (d36_23 L xs) rfl ?_
  refine ag_invv (d36_24 L xs) (kd := 7) (mj := 38) (n := 2) rfl (Or.inl rfl) (xs := [.int 0, .int 0]) (r := []) rfl rfl F1 rfl (Nat.le_of_ble_eq_true rfl) (z38_66 L xs (d := d + 0) (h := _) hz ) ?_
  refine ag_if_ne (d36_27 L xs) (t := 32) (by decide) (fun hp => absurd hp (by decide)) (fun _ => ?_)
  refine ag_iconst (d36_30 L xs) (x := 0) (by decide) ?_
  exact ag_iret (d36_31 L xs) rfl rfl
theorem z35_68 (L : Nat) (xs : Nat → Int32) {d : Nat} {h : ax_H} {s1 : Int32} (hz : h.2.1 = 167) (F0 : h.1 0 = some (.inr (0, [.ref 1, .ref 3, .ref 87, .ref 137]))) (F1 : h.1 1 = some (.inr (1, [.ref 2, .int 0]))) : ax_Ca (mgT L xs) (d + 3) 35 [.ref 0, .int s1] h (.inr 1, (ax_one h)) := by
  refine ag_callT (Nat.le_of_ble_eq_true rfl) ?_
  show ax_Go (mgT L xs) (d + 2) 35 0 [some (.ref 0), some (.int s1)] [] h _
  refine ag_aload_n (d35_0 L xs) rfl ?_
  refine ag_iload_n (d35_1 L xs) rfl ?_
  refine ag_invv (d35_2 L xs) (kd := 7) (mj := 36) (n := 1) rfl (Or.inl rfl) (xs := [.int s1]) (r := []) rfl rfl F0 rfl (Nat.le_of_ble_eq_true rfl) (z36_67 L xs (d := d + 0) (h := _) (s1 := s1) hz F0 F1) ?_
  refine ag_if_ne (d35_5 L xs) (t := 16) (by decide) (fun hp => absurd hp (by decide)) (fun _ => ?_)
  exact ag_thr (d35_8 L xs) rfl (d35_11 L xs) (d35_12 L xs) (d35_15 L xs) (by rw [hz]; decide) (Nat.le_of_ble_eq_true rfl) rfl
theorem z1_69 (L : Nat) (xs : Nat → Int32) {d : Nat} {h : ax_H} {s1 : Int32} (hz : h.2.1 = 167) (F0 : h.1 0 = some (.inr (0, [.ref 1, .ref 3, .ref 87, .ref 137]))) (F1 : h.1 1 = some (.inr (1, [.ref 2, .int 0]))) : ax_Ca (mgT L xs) (d + 4) 1 [.ref 0, .int s1, .ref 166] h (.inl (some (.int 1)), (ax_one h)) := by
  refine ag_call (Nat.le_of_ble_eq_true rfl) ?_
  show ax_Go (mgT L xs) (d + 3) 1 0 [some (.ref 0), some (.int s1), some (.ref 166), none] [] h _
  refine ag_aload_n (d1_0 L xs) rfl ?_
  refine ag_iconst (d1_1 L xs) (x := 0) (by decide) ?_
  refine ag_aload_n (d1_2 L xs) rfl ?_
  refine ag_iload_n (d1_3 L xs) rfl ?_
  refine ag_invc (d1_4 L xs) (mj := 35) (n := 1) rfl (xs := [.int s1]) (r := [.int 0, .ref 166]) rfl rfl F0 rfl (Nat.le_of_ble_eq_true rfl) (z35_68 L xs (d := d + 0) (h := _) (s1 := s1) hz F0 F1) (pc' := 12) rfl ?_
  refine ag_ref (b := 167) (by show (ax_one h).2.1 - 1 = _; rw [(ax_one_sz hz)]) ?_
  refine ag_astore_n (d1_12 L xs) (ls' := [some (.ref 0), some (.int s1), some (.ref 166), some (.ref 167)]) (Nat.le_of_ble_eq_true rfl) rfl ?_
  refine ag_iconst (d1_13 L xs) (x := 1) (by decide) ?_
  exact ag_iret (d1_14 L xs) rfl rfl
theorem z15_70 (L : Nat) (xs : Nat → Int32) {d : Nat} {h : ax_H} (hz : h.2.1 = 167) (F1 : h.1 1 = some (.inr (1, [.ref 2, .int 0]))) : ax_Ca (mgT L xs) (d + 1) 15 [.ref 1] h (.inl (some (.int 0)), h) := by
  refine ag_call (Nat.le_of_ble_eq_true rfl) ?_
  show ax_Go (mgT L xs) (d + 0) 15 0 [some (.ref 1)] [] h _
  refine ag_aload_n (d15_0 L xs) rfl ?_
  refine ag_get (d15_1 L xs) (kd := 1) (cj := 1) (k0 := 1) rfl (Or.inl rfl) F1 rfl ?_
  exact ag_iret (d15_4 L xs) rfl rfl
theorem z37_71 (L : Nat) (xs : Nat → Int32) {d : Nat} {h : ax_H} (hz : h.2.1 = 167) : ax_Ca (mgT L xs) (d + 1) 37 [.ref 1, .int 32, .int 0, .int 0] h (.inl (some (.int 0)), h) := by
  refine ag_call (Nat.le_of_ble_eq_true rfl) ?_
  show ax_Go (mgT L xs) (d + 0) 37 0 [some (.ref 1), some (.int 32), some (.int 0), some (.int 0), none] [] h _
  refine ag_iload_n (d37_0 L xs) rfl ?_
  refine ag_istore (d37_1 L xs) (ls' := [some (.ref 1), some (.int 32), some (.int 0), some (.int 0), some (.int 0)]) (Nat.le_of_ble_eq_true rfl) rfl ?_
  refine ag_iload (d37_3 L xs) rfl ?_
  refine ag_iload_n (d37_5 L xs) rfl ?_
  refine ag_icmp_ge (d37_6 L xs) (t := 28) (by decide) (fun _ => ?_) (fun hn => absurd (by decide) hn)
  refine ag_iload_n (d37_28 L xs) rfl ?_
  exact ag_iret (d37_29 L xs) rfl rfl
theorem z38_72 (L : Nat) (xs : Nat → Int32) {d : Nat} {h : ax_H} (hz : h.2.1 = 167) : ax_Ca (mgT L xs) (d + 1) 38 [.ref 1, .int 0, .int 0] h (.inl (some (.int 0)), h) := by
  refine ag_call (Nat.le_of_ble_eq_true rfl) ?_
  show ax_Go (mgT L xs) (d + 0) 38 0 [some (.ref 1), some (.int 0), some (.int 0), none, none, none] [] h _
  refine ag_iload_n (d38_0 L xs) rfl ?_
  refine ag_iload_n (d38_1 L xs) rfl ?_
  refine ag_isub (d38_2 L xs) ?_
  refine ag_top (y := 0) (by decide) ?_
  refine ag_bipush (d38_3 L xs) (x := 48) (by decide) ?_
  refine ag_icmp_le (d38_5 L xs) (t := 10) (by decide) (fun _ => ?_) (fun hn => absurd (by decide) hn)
  refine ag_iconst (d38_10 L xs) (x := 0) (by decide) ?_
  refine ag_istore_n (d38_11 L xs) (ls' := [some (.ref 1), some (.int 0), some (.int 0), some (.int 0), none, none]) (Nat.le_of_ble_eq_true rfl) rfl ?_
  refine ag_iload_n (d38_12 L xs) rfl ?_
  refine ag_istore (d38_13 L xs) (ls' := [some (.ref 1), some (.int 0), some (.int 0), some (.int 0), some (.int 0), none]) (Nat.le_of_ble_eq_true rfl) rfl ?_
  refine ag_iload (d38_15 L xs) rfl ?_
  refine ag_iload_n (d38_17 L xs) rfl ?_
  refine ag_icmp_ge (d38_18 L xs) (t := 72) (by decide) (fun _ => ?_) (fun hn => absurd (by decide) hn)
  refine ag_iload_n (d38_72 L xs) rfl ?_
  refine ag_if_le (d38_73 L xs) (t := 80) (by decide) (fun _ => ?_) (fun hn => absurd (by decide) hn)
  refine ag_iconst (d38_80 L xs) (x := 0) (by decide) ?_
  exact ag_iret (d38_81 L xs) rfl rfl
theorem z36_73 (L : Nat) (xs : Nat → Int32) {d : Nat} {h : ax_H} {s1 : Int32} (hz : h.2.1 = 167) (F0 : h.1 0 = some (.inr (0, [.ref 1, .ref 3, .ref 87, .ref 137]))) (F1 : h.1 1 = some (.inr (1, [.ref 2, .int 0]))) : ax_Ca (mgT L xs) (d + 2) 36 [.ref 0, .int s1] h (.inl (some (.int 0)), h) := by
  refine ag_call (Nat.le_of_ble_eq_true rfl) ?_
  show ax_Go (mgT L xs) (d + 1) 36 0 [some (.ref 0), some (.int s1), none, none] [] h _
  refine ag_aload_n (d36_0 L xs) rfl ?_
  refine ag_get (d36_1 L xs) (kd := 1) (cj := 0) (k0 := 0) rfl (Or.inl rfl) F0 rfl ?_
  refine ag_bipush (d36_4 L xs) (x := 32) (by decide) ?_
  refine ag_iconst (d36_6 L xs) (x := 0) (by decide) ?_
  refine ag_aload_n (d36_7 L xs) rfl ?_
  refine ag_get (d36_8 L xs) (kd := 1) (cj := 0) (k0 := 0) rfl (Or.inl rfl) F0 rfl ?_
  refine ag_invv (d36_11 L xs) (kd := 7) (mj := 15) (n := 0) rfl (Or.inl rfl) (xs := []) (r := [.int 0, .int 32, .ref 1]) rfl rfl F1 rfl (Nat.le_of_ble_eq_true rfl) (z15_70 L xs (d := d + 0) (h := _) hz F1) ?_
  refine ag_invv (d36_14 L xs) (kd := 7) (mj := 37) (n := 3) rfl (Or.inl rfl) (xs := [.int 0, .int 0, .int 32]) (r := []) rfl rfl F1 rfl (Nat.le_of_ble_eq_true rfl) (z37_71 L xs (d := d + 0) (h := _) hz ) ?_
  refine ag_istore_n (d36_17 L xs) (ls' := [some (.ref 0), some (.int s1), some (.int 0), none]) (Nat.le_of_ble_eq_true rfl) rfl ?_
  refine ag_aload_n (d36_18 L xs) rfl ?_
  refine ag_get (d36_19 L xs) (kd := 1) (cj := 0) (k0 := 0) rfl (Or.inl rfl) F0 rfl ?_
  refine ag_iconst (d36_22 L xs) (x := 0) (by decide) ?_
  refine ag_iload_n (d36_23 L xs) rfl ?_
  refine ag_invv (d36_24 L xs) (kd := 7) (mj := 38) (n := 2) rfl (Or.inl rfl) (xs := [.int 0, .int 0]) (r := []) rfl rfl F1 rfl (Nat.le_of_ble_eq_true rfl) (z38_72 L xs (d := d + 0) (h := _) hz ) ?_
  refine ag_if_ne (d36_27 L xs) (t := 32) (by decide) (fun hp => absurd hp (by decide)) (fun _ => ?_)
  refine ag_iconst (d36_30 L xs) (x := 0) (by decide) ?_
  exact ag_iret (d36_31 L xs) rfl rfl
theorem z35_74 (L : Nat) (xs : Nat → Int32) {d : Nat} {h : ax_H} {s1 : Int32} (hz : h.2.1 = 167) (F0 : h.1 0 = some (.inr (0, [.ref 1, .ref 3, .ref 87, .ref 137]))) (F1 : h.1 1 = some (.inr (1, [.ref 2, .int 0]))) : ax_Ca (mgT L xs) (d + 3) 35 [.ref 0, .int s1] h (.inr 1, (ax_one h)) := by
  refine ag_callT (Nat.le_of_ble_eq_true rfl) ?_
  show ax_Go (mgT L xs) (d + 2) 35 0 [some (.ref 0), some (.int s1)] [] h _
  refine ag_aload_n (d35_0 L xs) rfl ?_
  refine ag_iload_n (d35_1 L xs) rfl ?_
  refine ag_invv (d35_2 L xs) (kd := 7) (mj := 36) (n := 1) rfl (Or.inl rfl) (xs := [.int s1]) (r := []) rfl rfl F0 rfl (Nat.le_of_ble_eq_true rfl) (z36_73 L xs (d := d + 0) (h := _) (s1 := s1) hz F0 F1) ?_
  refine ag_if_ne (d35_5 L xs) (t := 16) (by decide) (fun hp => absurd hp (by decide)) (fun _ => ?_)
  exact ag_thr (d35_8 L xs) rfl (d35_11 L xs) (d35_12 L xs) (d35_15 L xs) (by rw [hz]; decide) (Nat.le_of_ble_eq_true rfl) rfl
theorem z1_75 (L : Nat) (xs : Nat → Int32) {d : Nat} {h : ax_H} {s1 : Int32} (hz : h.2.1 = 167) (F0 : h.1 0 = some (.inr (0, [.ref 1, .ref 3, .ref 87, .ref 137]))) (F1 : h.1 1 = some (.inr (1, [.ref 2, .int 0]))) : ax_Ca (mgT L xs) (d + 4) 1 [.ref 0, .int s1, .ref 166] h (.inl (some (.int 1)), (ax_one h)) := by
  refine ag_call (Nat.le_of_ble_eq_true rfl) ?_
  show ax_Go (mgT L xs) (d + 3) 1 0 [some (.ref 0), some (.int s1), some (.ref 166), none] [] h _
  refine ag_aload_n (d1_0 L xs) rfl ?_
  refine ag_iconst (d1_1 L xs) (x := 0) (by decide) ?_
  refine ag_aload_n (d1_2 L xs) rfl ?_
  refine ag_iload_n (d1_3 L xs) rfl ?_
  refine ag_invc (d1_4 L xs) (mj := 35) (n := 1) rfl (xs := [.int s1]) (r := [.int 0, .ref 166]) rfl rfl F0 rfl (Nat.le_of_ble_eq_true rfl) (z35_74 L xs (d := d + 0) (h := _) (s1 := s1) hz F0 F1) (pc' := 12) rfl ?_
  refine ag_ref (b := 167) (by show (ax_one h).2.1 - 1 = _; rw [(ax_one_sz hz)]) ?_
  refine ag_astore_n (d1_12 L xs) (ls' := [some (.ref 0), some (.int s1), some (.ref 166), some (.ref 167)]) (Nat.le_of_ble_eq_true rfl) rfl ?_
  refine ag_iconst (d1_13 L xs) (x := 1) (by decide) ?_
  exact ag_iret (d1_14 L xs) rfl rfl
theorem z105_76 (L : Nat) (xs : Nat → Int32) {d : Nat} {h : ax_H} (hz : h.2.1 = 168) (F141 : h.1 141 = some (.inr (9, [.int 1, .int 0, .ref 142, .int 0, .ref 143, .ref 144, .ref 145, .ref 146, .ref 147, .int 0, .int 0, .ref 148, .int 0, .ref 149, .int 0, .int 0, .ref 150, .int 0, .ref 151, .int 0, .ref 152, .ref 153, .int 0, .int 0, .ref 154, .ref 155, .ref 156, .ref 157, .ref 158, .ref 159, .ref 160, .ref 161, .ref 162, .int 0, .int 0, .int 0, .int 0, .int 0, .int 0, .int 0, .int 0, .int 0, .ref 163, .int 0, .int 0, .int 0, .int 0, .ref 164, .ref 165]))) : ax_Ca (mgT L xs) (d + 1) 105 [.ref 141] h (.inl (some (.int 1)), h) := by
  refine ag_call (Nat.le_of_ble_eq_true rfl) ?_
  show ax_Go (mgT L xs) (d + 0) 105 0 [some (.ref 141)] [] h _
  refine ag_aload_n (d105_0 L xs) rfl ?_
  refine ag_get (d105_1 L xs) (kd := 1) (cj := 9) (k0 := 0) rfl (Or.inl rfl) F141 rfl ?_
  exact ag_iret (d105_4 L xs) rfl rfl
theorem z0_77 (xs : Nat → Int32) {d : Nat} {h : ax_H} {s0 : Int32} (hs0 : xs 0 = s0) {s1 : Int32} (hs1 : xs 1 = s1) (hz : h.2.1 = 167) (F0 : h.1 0 = some (.inr (0, [.ref 1, .ref 3, .ref 87, .ref 137]))) (F1 : h.1 1 = some (.inr (1, [.ref 2, .int 0]))) (F141 : h.1 141 = some (.inr (9, [.int 0, .int 0, .ref 142, .int 0, .ref 143, .ref 144, .ref 145, .ref 146, .ref 147, .int 0, .int 0, .ref 148, .int 0, .ref 149, .int 0, .int 0, .ref 150, .int 0, .ref 151, .int 0, .ref 152, .ref 153, .int 0, .int 0, .ref 154, .ref 155, .ref 156, .ref 157, .ref 158, .ref 159, .ref 160, .ref 161, .ref 162, .int 0, .int 0, .int 0, .int 0, .int 0, .int 0, .int 0, .int 0, .int 0, .ref 163, .int 0, .int 0, .int 0, .int 0, .ref 164, .ref 165]))) (hc_3 : ¬ (s1 < 0)) (hc_4 : 4 < s1) (hj : s0 &&& 15 = 3) : ax_Go (mgT 3 xs) (d + 4) 0 23 [some (.ref ax_big), some (.ref 0), some (.ref 141), some (.ref 166), some (.int 0), none, none] [] h (.inl (some (.int 1)), (ax_up (ax_one h) 141 (.inr (9, [.int 1, .int 0, .ref 142, .int 0, .ref 143, .ref 144, .ref 145, .ref 146, .ref 147, .int 0, .int 0, .ref 148, .int 0, .ref 149, .int 0, .int 0, .ref 150, .int 0, .ref 151, .int 0, .ref 152, .ref 153, .int 0, .int 0, .ref 154, .ref 155, .ref 156, .ref 157, .ref 158, .ref 159, .ref 160, .ref 161, .ref 162, .int 0, .int 0, .int 0, .int 0, .int 0, .int 0, .int 0, .int 0, .int 0, .ref 163, .int 0, .int 0, .int 0, .int 0, .ref 164, .ref 165])))) := by
  refine ag_iload (d0_23 3 xs) rfl ?_
  refine ag_aload_n (d0_25 3 xs) rfl ?_
  refine ag_slen rfl (d0_26 3 xs) ?_
  refine ag_top (y := 3) (by decide) ?_
  refine ag_iconst (d0_27 3 xs) (x := 3) (by decide) ?_
  refine ag_isub (d0_28 3 xs) ?_
  refine ag_top (y := 0) (by decide) ?_
  refine ag_icmp_gt (d0_29 3 xs) (t := 447) (by decide) (fun hp => absurd hp (by decide)) (fun _ => ?_)
  refine ag_aload_n (d0_32 3 xs) rfl ?_
  refine ag_iload (d0_33 3 xs) rfl ?_
  refine ag_sald rfl (d0_35 3 xs) (x := s0) (show ¬ ((0 : Int32) < 0 ∨ 3 ≤ (0 : Int32).toNatClampNeg) from by decide) hs0 ?_
  refine ag_bipush (d0_36 3 xs) (x := 15) (by decide) ?_
  refine ag_iand (d0_38 3 xs) ?_
  refine ag_top (y := 3) hj ?_
  refine ag_tswIn (d0_39 3 xs) (of := 134) (t := 173) (by decide) (by decide) (by decide) ?_
  refine ag_aload_n (d0_173 3 xs) rfl ?_
  refine ag_aload_n (d0_174 3 xs) rfl ?_
  refine ag_iload (d0_175 3 xs) rfl ?_
  refine ag_iconst (d0_177 3 xs) (x := 1) (by decide) ?_
  refine ag_iadd (d0_178 3 xs) ?_
  refine ag_top (y := 1) (by decide) ?_
  refine ag_sald rfl (d0_179 3 xs) (x := s1) (show ¬ ((1 : Int32) < 0 ∨ 3 ≤ (1 : Int32).toNatClampNeg) from by decide) hs1 ?_
  refine ag_aload_n (d0_180 3 xs) rfl ?_
  refine ag_invs (d0_181 3 xs) (kd := 26) (mj := 1) (n := 3) rfl (Or.inr (Or.inr rfl)) (xs := [.ref 166, .int s1, .ref 0]) (r := []) rfl rfl (Nat.le_of_ble_eq_true rfl) (z1_75 3 xs (d := d + 0) (h := _) (s1 := s1) hz F0 F1) ?_
  refine ag_istore (d0_184 3 xs) (ls' := [some (.ref ax_big), some (.ref 0), some (.ref 141), some (.ref 166), some (.int 0), some (.int 1), none]) (Nat.le_of_ble_eq_true rfl) rfl ?_
  refine ag_aload_n (d0_186 3 xs) rfl ?_
  refine ag_aload_n (d0_187 3 xs) rfl ?_
  refine ag_iload (d0_188 3 xs) rfl ?_
  refine ag_iconst (d0_190 3 xs) (x := 1) (by decide) ?_
  refine ag_iadd (d0_191 3 xs) ?_
  refine ag_top (y := 1) (by decide) ?_
  refine ag_sald rfl (d0_192 3 xs) (x := s1) (show ¬ ((1 : Int32) < 0 ∨ 3 ≤ (1 : Int32).toNatClampNeg) from by decide) hs1 ?_
  refine ag_invv (d0_193 3 xs) (kd := 7) (mj := 109) (n := 1) rfl (Or.inl rfl) (xs := [.int s1]) (r := []) rfl rfl ((ax_one_at _ 141).trans F141) rfl (Nat.le_of_ble_eq_true rfl) (z109_53 3 xs (d := d + 3) (h := _) (s1 := s1) (ax_one_sz hz) ((ax_one_at _ 141).trans F141) hc_3 hc_4) ?_
  refine ag_istore (d0_196 3 xs) (ls' := [some (.ref ax_big), some (.ref 0), some (.ref 141), some (.ref 166), some (.int 0), some (.int 1), some (.int 0)]) (Nat.le_of_ble_eq_true rfl) rfl ?_
  refine ag_aload_n (d0_198 3 xs) rfl ?_
  refine ag_invv (d0_199 3 xs) (kd := 7) (mj := 105) (n := 0) rfl (Or.inl rfl) (xs := []) (r := []) rfl rfl (ax_up_at _ _ _) rfl (Nat.le_of_ble_eq_true rfl) (z105_76 3 xs (d := d + 3) (h := _) (ax_one_sz hz) (ax_up_at _ _ _)) ?_
  refine ag_iload (d0_202 3 xs) rfl ?_
  refine ag_icmp_eq (d0_204 3 xs) (t := 209) (by decide) (fun _ => ?_) (fun hn => absurd (by decide) hn)
  refine ag_iload (d0_209 3 xs) rfl ?_
  refine ag_if_ne (d0_211 3 xs) (t := 226) (by decide) (fun _ => ?_) (fun hn => absurd (by decide) hn)
  refine ag_goto (d0_226 3 xs) (t := 441) (by decide) ?_
  refine ag_iinc (d0_441 3 xs) (y := 3) (ls' := [some (.ref ax_big), some (.ref 0), some (.ref 141), some (.ref 166), some (.int 3), some (.int 1), some (.int 0)]) rfl (by decide) rfl ?_
  refine ag_goto (d0_444 3 xs) (t := 23) (by decide) ?_
  refine ag_iload (d0_23 3 xs) rfl ?_
  refine ag_aload_n (d0_25 3 xs) rfl ?_
  refine ag_slen rfl (d0_26 3 xs) ?_
  refine ag_top (y := 3) (by decide) ?_
  refine ag_iconst (d0_27 3 xs) (x := 3) (by decide) ?_
  refine ag_isub (d0_28 3 xs) ?_
  refine ag_top (y := 0) (by decide) ?_
  refine ag_icmp_gt (d0_29 3 xs) (t := 447) (by decide) (fun _ => ?_) (fun hn => absurd (by decide) hn)
  refine ag_iconst (d0_447 3 xs) (x := 1) (by decide) ?_
  exact ag_iret (d0_448 3 xs) rfl rfl
theorem z15_78 (L : Nat) (xs : Nat → Int32) {d : Nat} {h : ax_H} (hz : h.2.1 = 167) (F1 : h.1 1 = some (.inr (1, [.ref 2, .int 0]))) : ax_Ca (mgT L xs) (d + 1) 15 [.ref 1] h (.inl (some (.int 0)), h) := by
  refine ag_call (Nat.le_of_ble_eq_true rfl) ?_
  show ax_Go (mgT L xs) (d + 0) 15 0 [some (.ref 1)] [] h _
  refine ag_aload_n (d15_0 L xs) rfl ?_
  refine ag_get (d15_1 L xs) (kd := 1) (cj := 1) (k0 := 1) rfl (Or.inl rfl) F1 rfl ?_
  exact ag_iret (d15_4 L xs) rfl rfl
theorem z37_79 (L : Nat) (xs : Nat → Int32) {d : Nat} {h : ax_H} (hz : h.2.1 = 167) : ax_Ca (mgT L xs) (d + 1) 37 [.ref 1, .int 32, .int 0, .int 0] h (.inl (some (.int 0)), h) := by
  refine ag_call (Nat.le_of_ble_eq_true rfl) ?_
  show ax_Go (mgT L xs) (d + 0) 37 0 [some (.ref 1), some (.int 32), some (.int 0), some (.int 0), none] [] h _
  refine ag_iload_n (d37_0 L xs) rfl ?_
  refine ag_istore (d37_1 L xs) (ls' := [some (.ref 1), some (.int 32), some (.int 0), some (.int 0), some (.int 0)]) (Nat.le_of_ble_eq_true rfl) rfl ?_
  refine ag_iload (d37_3 L xs) rfl ?_
  refine ag_iload_n (d37_5 L xs) rfl ?_
  refine ag_icmp_ge (d37_6 L xs) (t := 28) (by decide) (fun _ => ?_) (fun hn => absurd (by decide) hn)
  refine ag_iload_n (d37_28 L xs) rfl ?_
  exact ag_iret (d37_29 L xs) rfl rfl
theorem z38_80 (L : Nat) (xs : Nat → Int32) {d : Nat} {h : ax_H} (hz : h.2.1 = 167) : ax_Ca (mgT L xs) (d + 1) 38 [.ref 1, .int 0, .int 0] h (.inl (some (.int 0)), h) := by
  refine ag_call (Nat.le_of_ble_eq_true rfl) ?_
  show ax_Go (mgT L xs) (d + 0) 38 0 [some (.ref 1), some (.int 0), some (.int 0), none, none, none] [] h _
  refine ag_iload_n (d38_0 L xs) rfl ?_
  refine ag_iload_n (d38_1 L xs) rfl ?_
  refine ag_isub (d38_2 L xs) ?_
  refine ag_top (y := 0) (by decide) ?_
  refine ag_bipush (d38_3 L xs) (x := 48) (by decide) ?_
  refine ag_icmp_le (d38_5 L xs) (t := 10) (by decide) (fun _ => ?_) (fun hn => absurd (by decide) hn)
  refine ag_iconst (d38_10 L xs) (x := 0) (by decide) ?_
  refine ag_istore_n (d38_11 L xs) (ls' := [some (.ref 1), some (.int 0), some (.int 0), some (.int 0), none, none]) (Nat.le_of_ble_eq_true rfl) rfl ?_
  refine ag_iload_n (d38_12 L xs) rfl ?_
  refine ag_istore (d38_13 L xs) (ls' := [some (.ref 1), some (.int 0), some (.int 0), some (.int 0), some (.int 0), none]) (Nat.le_of_ble_eq_true rfl) rfl ?_
  refine ag_iload (d38_15 L xs) rfl ?_
  refine ag_iload_n (d38_17 L xs) rfl ?_
  refine ag_icmp_ge (d38_18 L xs) (t := 72) (by decide) (fun _ => ?_) (fun hn => absurd (by decide) hn)
  refine ag_iload_n (d38_72 L xs) rfl ?_
  refine ag_if_le (d38_73 L xs) (t := 80) (by decide) (fun _ => ?_) (fun hn => absurd (by decide) hn)
  refine ag_iconst (d38_80 L xs) (x := 0) (by decide) ?_
  exact ag_iret (d38_81 L xs) rfl rfl
theorem z36_81 (L : Nat) (xs : Nat → Int32) {d : Nat} {h : ax_H} {s1 : Int32} (hz : h.2.1 = 167) (F0 : h.1 0 = some (.inr (0, [.ref 1, .ref 3, .ref 87, .ref 137]))) (F1 : h.1 1 = some (.inr (1, [.ref 2, .int 0]))) : ax_Ca (mgT L xs) (d + 2) 36 [.ref 0, .int s1] h (.inl (some (.int 0)), h) := by
  refine ag_call (Nat.le_of_ble_eq_true rfl) ?_
  show ax_Go (mgT L xs) (d + 1) 36 0 [some (.ref 0), some (.int s1), none, none] [] h _
  refine ag_aload_n (d36_0 L xs) rfl ?_
  refine ag_get (d36_1 L xs) (kd := 1) (cj := 0) (k0 := 0) rfl (Or.inl rfl) F0 rfl ?_
  refine ag_bipush (d36_4 L xs) (x := 32) (by decide) ?_
  refine ag_iconst (d36_6 L xs) (x := 0) (by decide) ?_
  refine ag_aload_n (d36_7 L xs) rfl ?_
  refine ag_get (d36_8 L xs) (kd := 1) (cj := 0) (k0 := 0) rfl (Or.inl rfl) F0 rfl ?_
  refine ag_invv (d36_11 L xs) (kd := 7) (mj := 15) (n := 0) rfl (Or.inl rfl) (xs := []) (r := [.int 0, .int 32, .ref 1]) rfl rfl F1 rfl (Nat.le_of_ble_eq_true rfl) (z15_78 L xs (d := d + 0) (h := _) hz F1) ?_
  refine ag_invv (d36_14 L xs) (kd := 7) (mj := 37) (n := 3) rfl (Or.inl rfl) (xs := [.int 0, .int 0, .int 32]) (r := []) rfl rfl F1 rfl (Nat.le_of_ble_eq_true rfl) (z37_79 L xs (d := d + 0) (h := _) hz ) ?_
  refine ag_istore_n (d36_17 L xs) (ls' := [some (.ref 0), some (.int s1), some (.int 0), none]) (Nat.le_of_ble_eq_true rfl) rfl ?_
  refine ag_aload_n (d36_18 L xs) rfl ?_
  refine ag_get (d36_19 L xs) (kd := 1) (cj := 0) (k0 := 0) rfl (Or.inl rfl) F0 rfl ?_
  refine ag_iconst (d36_22 L xs) (x := 0) (by decide) ?_
  refine ag_iload_n (d36_23 L xs) rfl ?_
  refine ag_invv (d36_24 L xs) (kd := 7) (mj := 38) (n := 2) rfl (Or.inl rfl) (xs := [.int 0, .int 0]) (r := []) rfl rfl F1 rfl (Nat.le_of_ble_eq_true rfl) (z38_80 L xs (d := d + 0) (h := _) hz ) ?_
  refine ag_if_ne (d36_27 L xs) (t := 32) (by decide) (fun hp => absurd hp (by decide)) (fun _ => ?_)
  refine ag_iconst (d36_30 L xs) (x := 0) (by decide) ?_
  exact ag_iret (d36_31 L xs) rfl rfl
theorem z35_82 (L : Nat) (xs : Nat → Int32) {d : Nat} {h : ax_H} {s1 : Int32} (hz : h.2.1 = 167) (F0 : h.1 0 = some (.inr (0, [.ref 1, .ref 3, .ref 87, .ref 137]))) (F1 : h.1 1 = some (.inr (1, [.ref 2, .int 0]))) : ax_Ca (mgT L xs) (d + 3) 35 [.ref 0, .int s1] h (.inr 1, (ax_one h)) := by
  refine ag_callT (Nat.le_of_ble_eq_true rfl) ?_
  show ax_Go (mgT L xs) (d + 2) 35 0 [some (.ref 0), some (.int s1)] [] h _
  refine ag_aload_n (d35_0 L xs) rfl ?_
  refine ag_iload_n (d35_1 L xs) rfl ?_
  refine ag_invv (d35_2 L xs) (kd := 7) (mj := 36) (n := 1) rfl (Or.inl rfl) (xs := [.int s1]) (r := []) rfl rfl F0 rfl (Nat.le_of_ble_eq_true rfl) (z36_81 L xs (d := d + 0) (h := _) (s1 := s1) hz F0 F1) ?_
  refine ag_if_ne (d35_5 L xs) (t := 16) (by decide) (fun hp => absurd hp (by decide)) (fun _ => ?_)
  exact ag_thr (d35_8 L xs) rfl (d35_11 L xs) (d35_12 L xs) (d35_15 L xs) (by rw [hz]; decide) (Nat.le_of_ble_eq_true rfl) rfl
theorem z1_83 (L : Nat) (xs : Nat → Int32) {d : Nat} {h : ax_H} {s1 : Int32} (hz : h.2.1 = 167) (F0 : h.1 0 = some (.inr (0, [.ref 1, .ref 3, .ref 87, .ref 137]))) (F1 : h.1 1 = some (.inr (1, [.ref 2, .int 0]))) : ax_Ca (mgT L xs) (d + 4) 1 [.ref 0, .int s1, .ref 166] h (.inl (some (.int 1)), (ax_one h)) := by
  refine ag_call (Nat.le_of_ble_eq_true rfl) ?_
  show ax_Go (mgT L xs) (d + 3) 1 0 [some (.ref 0), some (.int s1), some (.ref 166), none] [] h _
  refine ag_aload_n (d1_0 L xs) rfl ?_
  refine ag_iconst (d1_1 L xs) (x := 0) (by decide) ?_
  refine ag_aload_n (d1_2 L xs) rfl ?_
  refine ag_iload_n (d1_3 L xs) rfl ?_
  refine ag_invc (d1_4 L xs) (mj := 35) (n := 1) rfl (xs := [.int s1]) (r := [.int 0, .ref 166]) rfl rfl F0 rfl (Nat.le_of_ble_eq_true rfl) (z35_82 L xs (d := d + 0) (h := _) (s1 := s1) hz F0 F1) (pc' := 12) rfl ?_
  refine ag_ref (b := 167) (by show (ax_one h).2.1 - 1 = _; rw [(ax_one_sz hz)]) ?_
  refine ag_astore_n (d1_12 L xs) (ls' := [some (.ref 0), some (.int s1), some (.ref 166), some (.ref 167)]) (Nat.le_of_ble_eq_true rfl) rfl ?_
  refine ag_iconst (d1_13 L xs) (x := 1) (by decide) ?_
  exact ag_iret (d1_14 L xs) rfl rfl
theorem z105_84 (L : Nat) (xs : Nat → Int32) {d : Nat} {h : ax_H} (hz : h.2.1 = 168) (F141 : h.1 141 = some (.inr (9, [.int 1, .int 0, .ref 142, .int 0, .ref 143, .ref 144, .ref 145, .ref 146, .ref 147, .int 0, .int 0, .ref 148, .int 0, .ref 149, .int 0, .int 0, .ref 150, .int 0, .ref 151, .int 0, .ref 152, .ref 153, .int 0, .int 0, .ref 154, .ref 155, .ref 156, .ref 157, .ref 158, .ref 159, .ref 160, .ref 161, .ref 162, .int 0, .int 0, .int 0, .int 0, .int 0, .int 0, .int 0, .int 0, .int 0, .ref 163, .int 0, .int 0, .int 0, .int 0, .ref 164, .ref 165]))) : ax_Ca (mgT L xs) (d + 1) 105 [.ref 141] h (.inl (some (.int 1)), h) := by
  refine ag_call (Nat.le_of_ble_eq_true rfl) ?_
  show ax_Go (mgT L xs) (d + 0) 105 0 [some (.ref 141)] [] h _
  refine ag_aload_n (d105_0 L xs) rfl ?_
  refine ag_get (d105_1 L xs) (kd := 1) (cj := 9) (k0 := 0) rfl (Or.inl rfl) F141 rfl ?_
  exact ag_iret (d105_4 L xs) rfl rfl
theorem z0_85 (xs : Nat → Int32) {d : Nat} {h : ax_H} {s0 : Int32} (hs0 : xs 0 = s0) {s1 : Int32} (hs1 : xs 1 = s1) (hz : h.2.1 = 167) (F0 : h.1 0 = some (.inr (0, [.ref 1, .ref 3, .ref 87, .ref 137]))) (F1 : h.1 1 = some (.inr (1, [.ref 2, .int 0]))) (F141 : h.1 141 = some (.inr (9, [.int 0, .int 0, .ref 142, .int 0, .ref 143, .ref 144, .ref 145, .ref 146, .ref 147, .int 0, .int 0, .ref 148, .int 0, .ref 149, .int 0, .int 0, .ref 150, .int 0, .ref 151, .int 0, .ref 152, .ref 153, .int 0, .int 0, .ref 154, .ref 155, .ref 156, .ref 157, .ref 158, .ref 159, .ref 160, .ref 161, .ref 162, .int 0, .int 0, .int 0, .int 0, .int 0, .int 0, .int 0, .int 0, .int 0, .ref 163, .int 0, .int 0, .int 0, .int 0, .ref 164, .ref 165]))) (hc_3 : ¬ (s1 < 0)) (hc_4 : ¬ (4 < s1)) (hj : s0 &&& 15 = 3) : ax_Go (mgT 3 xs) (d + 4) 0 23 [some (.ref ax_big), some (.ref 0), some (.ref 141), some (.ref 166), some (.int 0), none, none] [] h (.inl (some (.int 1)), (ax_up (ax_up (ax_one h) 141 (.inr (9, [.int 0, .int 0, .ref 142, .int 0, .ref 143, .ref 144, .ref 145, .ref 146, .ref 147, .int 0, .int 0, .ref 148, .int 0, .ref 149, .int 0, .int 0, .ref 150, .int 0, .ref 151, .int 0, .ref 152, .ref 153, .int 0, .int 0, .ref 154, .ref 155, .ref 156, .ref 157, .ref 158, .ref 159, .ref 160, .ref 161, .ref 162, .int 0, .int 0, .int 0, .int 0, .int 0, .int 0, .int 0, .int 0, .int 0, .ref 163, .int 0, .int 0, .int 0, .int 0, .ref 164, .ref 165]))) 141 (.inr (9, [.int 1, .int 0, .ref 142, .int 0, .ref 143, .ref 144, .ref 145, .ref 146, .ref 147, .int 0, .int 0, .ref 148, .int 0, .ref 149, .int 0, .int 0, .ref 150, .int 0, .ref 151, .int 0, .ref 152, .ref 153, .int 0, .int 0, .ref 154, .ref 155, .ref 156, .ref 157, .ref 158, .ref 159, .ref 160, .ref 161, .ref 162, .int 0, .int 0, .int 0, .int 0, .int 0, .int 0, .int 0, .int 0, .int 0, .ref 163, .int 0, .int 0, .int 0, .int 0, .ref 164, .ref 165])))) := by
  refine ag_iload (d0_23 3 xs) rfl ?_
  refine ag_aload_n (d0_25 3 xs) rfl ?_
  refine ag_slen rfl (d0_26 3 xs) ?_
  refine ag_top (y := 3) (by decide) ?_
  refine ag_iconst (d0_27 3 xs) (x := 3) (by decide) ?_
  refine ag_isub (d0_28 3 xs) ?_
  refine ag_top (y := 0) (by decide) ?_
  refine ag_icmp_gt (d0_29 3 xs) (t := 447) (by decide) (fun hp => absurd hp (by decide)) (fun _ => ?_)
  refine ag_aload_n (d0_32 3 xs) rfl ?_
  refine ag_iload (d0_33 3 xs) rfl ?_
  refine ag_sald rfl (d0_35 3 xs) (x := s0) (show ¬ ((0 : Int32) < 0 ∨ 3 ≤ (0 : Int32).toNatClampNeg) from by decide) hs0 ?_
  refine ag_bipush (d0_36 3 xs) (x := 15) (by decide) ?_
  refine ag_iand (d0_38 3 xs) ?_
  refine ag_top (y := 3) hj ?_
  refine ag_tswIn (d0_39 3 xs) (of := 134) (t := 173) (by decide) (by decide) (by decide) ?_
  refine ag_aload_n (d0_173 3 xs) rfl ?_
  refine ag_aload_n (d0_174 3 xs) rfl ?_
  refine ag_iload (d0_175 3 xs) rfl ?_
  refine ag_iconst (d0_177 3 xs) (x := 1) (by decide) ?_
  refine ag_iadd (d0_178 3 xs) ?_
  refine ag_top (y := 1) (by decide) ?_
  refine ag_sald rfl (d0_179 3 xs) (x := s1) (show ¬ ((1 : Int32) < 0 ∨ 3 ≤ (1 : Int32).toNatClampNeg) from by decide) hs1 ?_
  refine ag_aload_n (d0_180 3 xs) rfl ?_
  refine ag_invs (d0_181 3 xs) (kd := 26) (mj := 1) (n := 3) rfl (Or.inr (Or.inr rfl)) (xs := [.ref 166, .int s1, .ref 0]) (r := []) rfl rfl (Nat.le_of_ble_eq_true rfl) (z1_83 3 xs (d := d + 0) (h := _) (s1 := s1) hz F0 F1) ?_
  refine ag_istore (d0_184 3 xs) (ls' := [some (.ref ax_big), some (.ref 0), some (.ref 141), some (.ref 166), some (.int 0), some (.int 1), none]) (Nat.le_of_ble_eq_true rfl) rfl ?_
  refine ag_aload_n (d0_186 3 xs) rfl ?_
  refine ag_aload_n (d0_187 3 xs) rfl ?_
  refine ag_iload (d0_188 3 xs) rfl ?_
  refine ag_iconst (d0_190 3 xs) (x := 1) (by decide) ?_
  refine ag_iadd (d0_191 3 xs) ?_
  refine ag_top (y := 1) (by decide) ?_
  refine ag_sald rfl (d0_192 3 xs) (x := s1) (show ¬ ((1 : Int32) < 0 ∨ 3 ≤ (1 : Int32).toNatClampNeg) from by decide) hs1 ?_
  refine ag_invv (d0_193 3 xs) (kd := 7) (mj := 109) (n := 1) rfl (Or.inl rfl) (xs := [.int s1]) (r := []) rfl rfl ((ax_one_at _ 141).trans F141) rfl (Nat.le_of_ble_eq_true rfl) (z109_55 3 xs (d := d + 2) (h := _) (s1 := s1) (ax_one_sz hz) ((ax_one_at _ 141).trans F141) hc_3 hc_4) ?_
  refine ag_istore (d0_196 3 xs) (ls' := [some (.ref ax_big), some (.ref 0), some (.ref 141), some (.ref 166), some (.int 0), some (.int 1), some (.int 0)]) (Nat.le_of_ble_eq_true rfl) rfl ?_
  refine ag_aload_n (d0_198 3 xs) rfl ?_
  refine ag_invv (d0_199 3 xs) (kd := 7) (mj := 105) (n := 0) rfl (Or.inl rfl) (xs := []) (r := []) rfl rfl (ax_up_at _ _ _) rfl (Nat.le_of_ble_eq_true rfl) (z105_84 3 xs (d := d + 3) (h := _) (ax_one_sz hz) (ax_up_at _ _ _)) ?_
  refine ag_iload (d0_202 3 xs) rfl ?_
  refine ag_icmp_eq (d0_204 3 xs) (t := 209) (by decide) (fun _ => ?_) (fun hn => absurd (by decide) hn)
  refine ag_iload (d0_209 3 xs) rfl ?_
  refine ag_if_ne (d0_211 3 xs) (t := 226) (by decide) (fun _ => ?_) (fun hn => absurd (by decide) hn)
  refine ag_goto (d0_226 3 xs) (t := 441) (by decide) ?_
  refine ag_iinc (d0_441 3 xs) (y := 3) (ls' := [some (.ref ax_big), some (.ref 0), some (.ref 141), some (.ref 166), some (.int 3), some (.int 1), some (.int 0)]) rfl (by decide) rfl ?_
  refine ag_goto (d0_444 3 xs) (t := 23) (by decide) ?_
  refine ag_iload (d0_23 3 xs) rfl ?_
  refine ag_aload_n (d0_25 3 xs) rfl ?_
  refine ag_slen rfl (d0_26 3 xs) ?_
  refine ag_top (y := 3) (by decide) ?_
  refine ag_iconst (d0_27 3 xs) (x := 3) (by decide) ?_
  refine ag_isub (d0_28 3 xs) ?_
  refine ag_top (y := 0) (by decide) ?_
  refine ag_icmp_gt (d0_29 3 xs) (t := 447) (by decide) (fun _ => ?_) (fun hn => absurd (by decide) hn)
  refine ag_iconst (d0_447 3 xs) (x := 1) (by decide) ?_
  exact ag_iret (d0_448 3 xs) rfl rfl
theorem z21_86 (L : Nat) (xs : Nat → Int32) {d : Nat} {h : ax_H} {s1 : Int32} (hz : h.2.1 = 167) (hc_3 : s1 < 0) : ax_Ca (mgT L xs) (d + 1) 21 [.ref 3, .int s1] h (.inl (some (.int 0)), h) := by
  refine ag_call (Nat.le_of_ble_eq_true rfl) ?_
  show ax_Go (mgT L xs) (d + 0) 21 0 [some (.ref 3), some (.int s1), none, none] [] h _
  refine ag_iload_n (d21_0 L xs) rfl ?_
  refine ag_if_lt (d21_1 L xs) (t := 12) (by decide) (fun _ => ?_) (fun hn => absurd hc_3 hn)
  refine ag_iconst (d21_12 L xs) (x := 0) (by decide) ?_
  exact ag_iret (d21_13 L xs) rfl rfl
theorem z21_87 (L : Nat) (xs : Nat → Int32) {d : Nat} {h : ax_H} {s1 : Int32} (hz : h.2.1 = 167) (F3 : h.1 3 = some (.inr (3, [.ref 4, .int 0, .ref 5]))) (hc_3 : ¬ (s1 < 0)) : ax_Ca (mgT L xs) (d + 1) 21 [.ref 3, .int s1] h (.inl (some (.int 0)), h) := by
  refine ag_call (Nat.le_of_ble_eq_true rfl) ?_
  show ax_Go (mgT L xs) (d + 0) 21 0 [some (.ref 3), some (.int s1), none, none] [] h _
  refine ag_iload_n (d21_0 L xs) rfl ?_
  refine ag_if_lt (d21_1 L xs) (t := 12) (by decide) (fun hp => absurd hp hc_3) (fun _ => ?_)
  refine ag_iload_n (d21_4 L xs) rfl ?_
  refine ag_aload_n (d21_5 L xs) rfl ?_
  refine ag_get (d21_6 L xs) (kd := 1) (cj := 3) (k0 := 1) rfl (Or.inl rfl) F3 rfl ?_
  refine ag_icmp_lt (d21_9 L xs) (t := 14) (by decide) (fun hp => absurd hp hc_3) (fun _ => ?_)
  refine ag_iconst (d21_12 L xs) (x := 0) (by decide) ?_
  exact ag_iret (d21_13 L xs) rfl rfl
theorem z20_88 (L : Nat) (xs : Nat → Int32) {d : Nat} {h : ax_H} {s1 : Int32} (hz : h.2.1 = 167) (F0 : h.1 0 = some (.inr (0, [.ref 1, .ref 3, .ref 87, .ref 137]))) (F3 : h.1 3 = some (.inr (3, [.ref 4, .int 0, .ref 5]))) (hc_3 : s1 < 0) : ax_Ca (mgT L xs) (d + 2) 20 [.ref 0, .int s1] h (.inl (some (.int 0)), h) := by
  refine ag_call (Nat.le_of_ble_eq_true rfl) ?_
  show ax_Go (mgT L xs) (d + 1) 20 0 [some (.ref 0), some (.int s1)] [] h _
  refine ag_aload_n (d20_0 L xs) rfl ?_
  refine ag_get (d20_1 L xs) (kd := 1) (cj := 0) (k0 := 1) rfl (Or.inl rfl) F0 rfl ?_
  refine ag_iload_n (d20_4 L xs) rfl ?_
  refine ag_invv (d20_5 L xs) (kd := 7) (mj := 21) (n := 1) rfl (Or.inl rfl) (xs := [.int s1]) (r := []) rfl rfl F3 rfl (Nat.le_of_ble_eq_true rfl) (z21_86 L xs (d := d + 0) (h := _) (s1 := s1) hz hc_3) ?_
  exact ag_iret (d20_8 L xs) rfl rfl
theorem z20_89 (L : Nat) (xs : Nat → Int32) {d : Nat} {h : ax_H} {s1 : Int32} (hz : h.2.1 = 167) (F0 : h.1 0 = some (.inr (0, [.ref 1, .ref 3, .ref 87, .ref 137]))) (F3 : h.1 3 = some (.inr (3, [.ref 4, .int 0, .ref 5]))) (hc_3 : ¬ (s1 < 0)) : ax_Ca (mgT L xs) (d + 2) 20 [.ref 0, .int s1] h (.inl (some (.int 0)), h) := by
  refine ag_call (Nat.le_of_ble_eq_true rfl) ?_
  show ax_Go (mgT L xs) (d + 1) 20 0 [some (.ref 0), some (.int s1)] [] h _
  refine ag_aload_n (d20_0 L xs) rfl ?_
  refine ag_get (d20_1 L xs) (kd := 1) (cj := 0) (k0 := 1) rfl (Or.inl rfl) F0 rfl ?_
  refine ag_iload_n (d20_4 L xs) rfl ?_
  refine ag_invv (d20_5 L xs) (kd := 7) (mj := 21) (n := 1) rfl (Or.inl rfl) (xs := [.int s1]) (r := []) rfl rfl F3 rfl (Nat.le_of_ble_eq_true rfl) (z21_87 L xs (d := d + 0) (h := _) (s1 := s1) hz F3 hc_3) ?_
  exact ag_iret (d20_8 L xs) rfl rfl
theorem z115_90 (L : Nat) (xs : Nat → Int32) {d : Nat} {h : ax_H} {s1 : Int32} (hz : h.2.1 = 167) (F141 : h.1 141 = some (.inr (9, [.int 0, .int 0, .ref 142, .int 0, .ref 143, .ref 144, .ref 145, .ref 146, .ref 147, .int 0, .int 0, .ref 148, .int 0, .ref 149, .int 0, .int 0, .ref 150, .int 0, .ref 151, .int 0, .ref 152, .ref 153, .int 0, .int 0, .ref 154, .ref 155, .ref 156, .ref 157, .ref 158, .ref 159, .ref 160, .ref 161, .ref 162, .int 0, .int 0, .int 0, .int 0, .int 0, .int 0, .int 0, .int 0, .int 0, .ref 163, .int 0, .int 0, .int 0, .int 0, .ref 164, .ref 165]))) (hc_3 : s1 < 0) : ax_Ca (mgT L xs) (d + 1) 115 [.ref 141, .int s1] h (.inl (some (.int 0)), (ax_up h 141 (.inr (9, [.int 0, .int 0, .ref 142, .int 0, .ref 143, .ref 144, .ref 145, .ref 146, .ref 147, .int 0, .int 0, .ref 148, .int 0, .ref 149, .int 0, .int 0, .ref 150, .int 0, .ref 151, .int 0, .ref 152, .ref 153, .int 0, .int 0, .ref 154, .ref 155, .ref 156, .ref 157, .ref 158, .ref 159, .ref 160, .ref 161, .ref 162, .int 0, .int 0, .int 0, .int 0, .int 0, .int 0, .int 0, .int 0, .int 0, .ref 163, .int 0, .int 0, .int 0, .int 0, .ref 164, .ref 165])))) := by
  refine ag_call (Nat.le_of_ble_eq_true rfl) ?_
  show ax_Go (mgT L xs) (d + 0) 115 0 [some (.ref 141), some (.int s1), none, none] [] h _
  refine ag_aload_n (d115_0 L xs) rfl ?_
  refine ag_iconst (d115_1 L xs) (x := 0) (by decide) ?_
  refine ag_put (d115_2 L xs) (cj := 9) (k0 := 0) rfl F141 (ax_lt hz (Nat.le_of_ble_eq_true rfl)) (Nat.le_of_ble_eq_true rfl) rfl rfl ?_
  refine ag_iload_n (d115_5 L xs) rfl ?_
  refine ag_if_lt (d115_6 L xs) (t := 17) (by decide) (fun _ => ?_) (fun hn => absurd hc_3 hn)
  refine ag_iconst (d115_17 L xs) (x := 0) (by decide) ?_
  exact ag_iret (d115_18 L xs) rfl rfl
theorem z0_91 (xs : Nat → Int32) {d : Nat} {h : ax_H} {s0 : Int32} (hs0 : xs 0 = s0) {s1 : Int32} (hs1 : xs 1 = s1) (hz : h.2.1 = 167) (F0 : h.1 0 = some (.inr (0, [.ref 1, .ref 3, .ref 87, .ref 137]))) (F3 : h.1 3 = some (.inr (3, [.ref 4, .int 0, .ref 5]))) (F141 : h.1 141 = some (.inr (9, [.int 0, .int 0, .ref 142, .int 0, .ref 143, .ref 144, .ref 145, .ref 146, .ref 147, .int 0, .int 0, .ref 148, .int 0, .ref 149, .int 0, .int 0, .ref 150, .int 0, .ref 151, .int 0, .ref 152, .ref 153, .int 0, .int 0, .ref 154, .ref 155, .ref 156, .ref 157, .ref 158, .ref 159, .ref 160, .ref 161, .ref 162, .int 0, .int 0, .int 0, .int 0, .int 0, .int 0, .int 0, .int 0, .int 0, .ref 163, .int 0, .int 0, .int 0, .int 0, .ref 164, .ref 165]))) (hc_3 : s1 < 0) (hj : s0 &&& 15 = 4) : ax_Go (mgT 3 xs) (d + 2) 0 23 [some (.ref ax_big), some (.ref 0), some (.ref 141), some (.ref 166), some (.int 0), none, none] [] h (.inl (some (.int 1)), (ax_up h 141 (.inr (9, [.int 0, .int 0, .ref 142, .int 0, .ref 143, .ref 144, .ref 145, .ref 146, .ref 147, .int 0, .int 0, .ref 148, .int 0, .ref 149, .int 0, .int 0, .ref 150, .int 0, .ref 151, .int 0, .ref 152, .ref 153, .int 0, .int 0, .ref 154, .ref 155, .ref 156, .ref 157, .ref 158, .ref 159, .ref 160, .ref 161, .ref 162, .int 0, .int 0, .int 0, .int 0, .int 0, .int 0, .int 0, .int 0, .int 0, .ref 163, .int 0, .int 0, .int 0, .int 0, .ref 164, .ref 165])))) := by
  refine ag_iload (d0_23 3 xs) rfl ?_
  refine ag_aload_n (d0_25 3 xs) rfl ?_
  refine ag_slen rfl (d0_26 3 xs) ?_
  refine ag_top (y := 3) (by decide) ?_
  refine ag_iconst (d0_27 3 xs) (x := 3) (by decide) ?_
  refine ag_isub (d0_28 3 xs) ?_
  refine ag_top (y := 0) (by decide) ?_
  refine ag_icmp_gt (d0_29 3 xs) (t := 447) (by decide) (fun hp => absurd hp (by decide)) (fun _ => ?_)
  refine ag_aload_n (d0_32 3 xs) rfl ?_
  refine ag_iload (d0_33 3 xs) rfl ?_
  refine ag_sald rfl (d0_35 3 xs) (x := s0) (show ¬ ((0 : Int32) < 0 ∨ 3 ≤ (0 : Int32).toNatClampNeg) from by decide) hs0 ?_
  refine ag_bipush (d0_36 3 xs) (x := 15) (by decide) ?_
  refine ag_iand (d0_38 3 xs) ?_
  refine ag_top (y := 4) hj ?_
  refine ag_tswIn (d0_39 3 xs) (of := 190) (t := 229) (by decide) (by decide) (by decide) ?_
  refine ag_aload_n (d0_229 3 xs) rfl ?_
  refine ag_aload_n (d0_230 3 xs) rfl ?_
  refine ag_iload (d0_231 3 xs) rfl ?_
  refine ag_iconst (d0_233 3 xs) (x := 1) (by decide) ?_
  refine ag_iadd (d0_234 3 xs) ?_
  refine ag_top (y := 1) (by decide) ?_
  refine ag_sald rfl (d0_235 3 xs) (x := s1) (show ¬ ((1 : Int32) < 0 ∨ 3 ≤ (1 : Int32).toNatClampNeg) from by decide) hs1 ?_
  refine ag_invv (d0_236 3 xs) (kd := 7) (mj := 20) (n := 1) rfl (Or.inl rfl) (xs := [.int s1]) (r := []) rfl rfl F0 rfl (Nat.le_of_ble_eq_true rfl) (z20_88 3 xs (d := d + 0) (h := _) (s1 := s1) hz F0 F3 hc_3) ?_
  refine ag_aload_n (d0_239 3 xs) rfl ?_
  refine ag_aload_n (d0_240 3 xs) rfl ?_
  refine ag_iload (d0_241 3 xs) rfl ?_
  refine ag_iconst (d0_243 3 xs) (x := 1) (by decide) ?_
  refine ag_iadd (d0_244 3 xs) ?_
  refine ag_top (y := 1) (by decide) ?_
  refine ag_sald rfl (d0_245 3 xs) (x := s1) (show ¬ ((1 : Int32) < 0 ∨ 3 ≤ (1 : Int32).toNatClampNeg) from by decide) hs1 ?_
  refine ag_invv (d0_246 3 xs) (kd := 7) (mj := 115) (n := 1) rfl (Or.inl rfl) (xs := [.int s1]) (r := [.int 0]) rfl rfl F141 rfl (Nat.le_of_ble_eq_true rfl) (z115_90 3 xs (d := d + 1) (h := _) (s1 := s1) hz F141 hc_3) ?_
  refine ag_icmp_eq (d0_249 3 xs) (t := 441) (by decide) (fun _ => ?_) (fun hn => absurd (by decide) hn)
  refine ag_iinc (d0_441 3 xs) (y := 3) (ls' := [some (.ref ax_big), some (.ref 0), some (.ref 141), some (.ref 166), some (.int 3), none, none]) rfl (by decide) rfl ?_
  refine ag_goto (d0_444 3 xs) (t := 23) (by decide) ?_
  refine ag_iload (d0_23 3 xs) rfl ?_
  refine ag_aload_n (d0_25 3 xs) rfl ?_
  refine ag_slen rfl (d0_26 3 xs) ?_
  refine ag_top (y := 3) (by decide) ?_
  refine ag_iconst (d0_27 3 xs) (x := 3) (by decide) ?_
  refine ag_isub (d0_28 3 xs) ?_
  refine ag_top (y := 0) (by decide) ?_
  refine ag_icmp_gt (d0_29 3 xs) (t := 447) (by decide) (fun _ => ?_) (fun hn => absurd (by decide) hn)
  refine ag_iconst (d0_447 3 xs) (x := 1) (by decide) ?_
  exact ag_iret (d0_448 3 xs) rfl rfl
theorem z115_92 (L : Nat) (xs : Nat → Int32) {d : Nat} {h : ax_H} {s1 : Int32} (hz : h.2.1 = 167) (F141 : h.1 141 = some (.inr (9, [.int 0, .int 0, .ref 142, .int 0, .ref 143, .ref 144, .ref 145, .ref 146, .ref 147, .int 0, .int 0, .ref 148, .int 0, .ref 149, .int 0, .int 0, .ref 150, .int 0, .ref 151, .int 0, .ref 152, .ref 153, .int 0, .int 0, .ref 154, .ref 155, .ref 156, .ref 157, .ref 158, .ref 159, .ref 160, .ref 161, .ref 162, .int 0, .int 0, .int 0, .int 0, .int 0, .int 0, .int 0, .int 0, .int 0, .ref 163, .int 0, .int 0, .int 0, .int 0, .ref 164, .ref 165]))) (hc_3 : ¬ (s1 < 0)) : ax_Ca (mgT L xs) (d + 1) 115 [.ref 141, .int s1] h (.inl (some (.int 0)), (ax_up h 141 (.inr (9, [.int 0, .int 0, .ref 142, .int 0, .ref 143, .ref 144, .ref 145, .ref 146, .ref 147, .int 0, .int 0, .ref 148, .int 0, .ref 149, .int 0, .int 0, .ref 150, .int 0, .ref 151, .int 0, .ref 152, .ref 153, .int 0, .int 0, .ref 154, .ref 155, .ref 156, .ref 157, .ref 158, .ref 159, .ref 160, .ref 161, .ref 162, .int 0, .int 0, .int 0, .int 0, .int 0, .int 0, .int 0, .int 0, .int 0, .ref 163, .int 0, .int 0, .int 0, .int 0, .ref 164, .ref 165])))) := by
  refine ag_call (Nat.le_of_ble_eq_true rfl) ?_
  show ax_Go (mgT L xs) (d + 0) 115 0 [some (.ref 141), some (.int s1), none, none] [] h _
  refine ag_aload_n (d115_0 L xs) rfl ?_
  refine ag_iconst (d115_1 L xs) (x := 0) (by decide) ?_
  refine ag_put (d115_2 L xs) (cj := 9) (k0 := 0) rfl F141 (ax_lt hz (Nat.le_of_ble_eq_true rfl)) (Nat.le_of_ble_eq_true rfl) rfl rfl ?_
  refine ag_iload_n (d115_5 L xs) rfl ?_
  refine ag_if_lt (d115_6 L xs) (t := 17) (by decide) (fun hp => absurd hp hc_3) (fun _ => ?_)
  refine ag_iload_n (d115_9 L xs) rfl ?_
  refine ag_aload_n (d115_10 L xs) rfl ?_
  refine ag_get (d115_11 L xs) (kd := 1) (cj := 9) (k0 := 3) rfl (Or.inl rfl) (ax_up_at _ _ _) rfl ?_
  refine ag_icmp_lt (d115_14 L xs) (t := 19) (by decide) (fun hp => absurd hp hc_3) (fun _ => ?_)
  refine ag_iconst (d115_17 L xs) (x := 0) (by decide) ?_
  exact ag_iret (d115_18 L xs) rfl rfl
theorem z0_93 (xs : Nat → Int32) {d : Nat} {h : ax_H} {s0 : Int32} (hs0 : xs 0 = s0) {s1 : Int32} (hs1 : xs 1 = s1) (hz : h.2.1 = 167) (F0 : h.1 0 = some (.inr (0, [.ref 1, .ref 3, .ref 87, .ref 137]))) (F3 : h.1 3 = some (.inr (3, [.ref 4, .int 0, .ref 5]))) (F141 : h.1 141 = some (.inr (9, [.int 0, .int 0, .ref 142, .int 0, .ref 143, .ref 144, .ref 145, .ref 146, .ref 147, .int 0, .int 0, .ref 148, .int 0, .ref 149, .int 0, .int 0, .ref 150, .int 0, .ref 151, .int 0, .ref 152, .ref 153, .int 0, .int 0, .ref 154, .ref 155, .ref 156, .ref 157, .ref 158, .ref 159, .ref 160, .ref 161, .ref 162, .int 0, .int 0, .int 0, .int 0, .int 0, .int 0, .int 0, .int 0, .int 0, .ref 163, .int 0, .int 0, .int 0, .int 0, .ref 164, .ref 165]))) (hc_3 : ¬ (s1 < 0)) (hj : s0 &&& 15 = 4) : ax_Go (mgT 3 xs) (d + 2) 0 23 [some (.ref ax_big), some (.ref 0), some (.ref 141), some (.ref 166), some (.int 0), none, none] [] h (.inl (some (.int 1)), (ax_up h 141 (.inr (9, [.int 0, .int 0, .ref 142, .int 0, .ref 143, .ref 144, .ref 145, .ref 146, .ref 147, .int 0, .int 0, .ref 148, .int 0, .ref 149, .int 0, .int 0, .ref 150, .int 0, .ref 151, .int 0, .ref 152, .ref 153, .int 0, .int 0, .ref 154, .ref 155, .ref 156, .ref 157, .ref 158, .ref 159, .ref 160, .ref 161, .ref 162, .int 0, .int 0, .int 0, .int 0, .int 0, .int 0, .int 0, .int 0, .int 0, .ref 163, .int 0, .int 0, .int 0, .int 0, .ref 164, .ref 165])))) := by
  refine ag_iload (d0_23 3 xs) rfl ?_
  refine ag_aload_n (d0_25 3 xs) rfl ?_
  refine ag_slen rfl (d0_26 3 xs) ?_
  refine ag_top (y := 3) (by decide) ?_
  refine ag_iconst (d0_27 3 xs) (x := 3) (by decide) ?_
  refine ag_isub (d0_28 3 xs) ?_
  refine ag_top (y := 0) (by decide) ?_
  refine ag_icmp_gt (d0_29 3 xs) (t := 447) (by decide) (fun hp => absurd hp (by decide)) (fun _ => ?_)
  refine ag_aload_n (d0_32 3 xs) rfl ?_
  refine ag_iload (d0_33 3 xs) rfl ?_
  refine ag_sald rfl (d0_35 3 xs) (x := s0) (show ¬ ((0 : Int32) < 0 ∨ 3 ≤ (0 : Int32).toNatClampNeg) from by decide) hs0 ?_
  refine ag_bipush (d0_36 3 xs) (x := 15) (by decide) ?_
  refine ag_iand (d0_38 3 xs) ?_
  refine ag_top (y := 4) hj ?_
  refine ag_tswIn (d0_39 3 xs) (of := 190) (t := 229) (by decide) (by decide) (by decide) ?_
  refine ag_aload_n (d0_229 3 xs) rfl ?_
  refine ag_aload_n (d0_230 3 xs) rfl ?_
  refine ag_iload (d0_231 3 xs) rfl ?_
  refine ag_iconst (d0_233 3 xs) (x := 1) (by decide) ?_
  refine ag_iadd (d0_234 3 xs) ?_
  refine ag_top (y := 1) (by decide) ?_
  refine ag_sald rfl (d0_235 3 xs) (x := s1) (show ¬ ((1 : Int32) < 0 ∨ 3 ≤ (1 : Int32).toNatClampNeg) from by decide) hs1 ?_
  refine ag_invv (d0_236 3 xs) (kd := 7) (mj := 20) (n := 1) rfl (Or.inl rfl) (xs := [.int s1]) (r := []) rfl rfl F0 rfl (Nat.le_of_ble_eq_true rfl) (z20_89 3 xs (d := d + 0) (h := _) (s1 := s1) hz F0 F3 hc_3) ?_
  refine ag_aload_n (d0_239 3 xs) rfl ?_
  refine ag_aload_n (d0_240 3 xs) rfl ?_
  refine ag_iload (d0_241 3 xs) rfl ?_
  refine ag_iconst (d0_243 3 xs) (x := 1) (by decide) ?_
  refine ag_iadd (d0_244 3 xs) ?_
  refine ag_top (y := 1) (by decide) ?_
  refine ag_sald rfl (d0_245 3 xs) (x := s1) (show ¬ ((1 : Int32) < 0 ∨ 3 ≤ (1 : Int32).toNatClampNeg) from by decide) hs1 ?_
  refine ag_invv (d0_246 3 xs) (kd := 7) (mj := 115) (n := 1) rfl (Or.inl rfl) (xs := [.int s1]) (r := [.int 0]) rfl rfl F141 rfl (Nat.le_of_ble_eq_true rfl) (z115_92 3 xs (d := d + 1) (h := _) (s1 := s1) hz F141 hc_3) ?_
  refine ag_icmp_eq (d0_249 3 xs) (t := 441) (by decide) (fun _ => ?_) (fun hn => absurd (by decide) hn)
  refine ag_iinc (d0_441 3 xs) (y := 3) (ls' := [some (.ref ax_big), some (.ref 0), some (.ref 141), some (.ref 166), some (.int 3), none, none]) rfl (by decide) rfl ?_
  refine ag_goto (d0_444 3 xs) (t := 23) (by decide) ?_
  refine ag_iload (d0_23 3 xs) rfl ?_
  refine ag_aload_n (d0_25 3 xs) rfl ?_
  refine ag_slen rfl (d0_26 3 xs) ?_
  refine ag_top (y := 3) (by decide) ?_
  refine ag_iconst (d0_27 3 xs) (x := 3) (by decide) ?_
  refine ag_isub (d0_28 3 xs) ?_
  refine ag_top (y := 0) (by decide) ?_
  refine ag_icmp_gt (d0_29 3 xs) (t := 447) (by decide) (fun _ => ?_) (fun hn => absurd (by decide) hn)
  refine ag_iconst (d0_447 3 xs) (x := 1) (by decide) ?_
  exact ag_iret (d0_448 3 xs) rfl rfl
theorem z45_94 (L : Nat) (xs : Nat → Int32) {d : Nat} {h : ax_H} {s1 : Int32} (hz : h.2.1 = 167) (F0 : h.1 0 = some (.inr (0, [.ref 1, .ref 3, .ref 87, .ref 137]))) (F1 : h.1 1 = some (.inr (1, [.ref 2, .int 0]))) : ax_Ca (mgT L xs) (d + 3) 45 [.ref 0, .int s1] h (.inr 1, (ax_one h)) := by
  refine ag_callT (Nat.le_of_ble_eq_true rfl) ?_
  show ax_Go (mgT L xs) (d + 2) 45 0 [some (.ref 0), some (.int s1), none] [] h _
  refine ag_aload_n (d45_0 L xs) rfl ?_
  refine ag_get (d45_1 L xs) (kd := 1) (cj := 0) (k0 := 0) rfl (Or.inl rfl) F0 rfl ?_
  refine ag_invv (d45_4 L xs) (kd := 7) (mj := 46) (n := 0) rfl (Or.inl rfl) (xs := []) (r := []) rfl rfl F1 rfl (Nat.le_of_ble_eq_true rfl) (z46_24 L xs (d := d + 0) (h := _) hz F1) ?_
  refine ag_if_ne (d45_7 L xs) (t := 18) (by decide) (fun hp => absurd hp (by decide)) (fun _ => ?_)
  exact ag_thr (d45_10 L xs) rfl (d45_13 L xs) (d45_14 L xs) (d45_17 L xs) (by rw [hz]; decide) (Nat.le_of_ble_eq_true rfl) rfl
theorem z2_95 (L : Nat) (xs : Nat → Int32) {d : Nat} {h : ax_H} {s1 : Int32} (hz : h.2.1 = 167) (F0 : h.1 0 = some (.inr (0, [.ref 1, .ref 3, .ref 87, .ref 137]))) (F1 : h.1 1 = some (.inr (1, [.ref 2, .int 0]))) : ax_Ca (mgT L xs) (d + 4) 2 [.ref 0, .int s1, .ref 166] h (.inl (some (.int 1)), (ax_one h)) := by
  refine ag_call (Nat.le_of_ble_eq_true rfl) ?_
  show ax_Go (mgT L xs) (d + 3) 2 0 [some (.ref 0), some (.int s1), some (.ref 166), none] [] h _
  refine ag_aload_n (d2_0 L xs) rfl ?_
  refine ag_iconst (d2_1 L xs) (x := 0) (by decide) ?_
  refine ag_aload_n (d2_2 L xs) rfl ?_
  refine ag_iload_n (d2_3 L xs) rfl ?_
  refine ag_invc (d2_4 L xs) (mj := 45) (n := 1) rfl (xs := [.int s1]) (r := [.int 0, .ref 166]) rfl rfl F0 rfl (Nat.le_of_ble_eq_true rfl) (z45_94 L xs (d := d + 0) (h := _) (s1 := s1) hz F0 F1) (pc' := 12) rfl ?_
  refine ag_ref (b := 167) (by show (ax_one h).2.1 - 1 = _; rw [(ax_one_sz hz)]) ?_
  refine ag_astore_n (d2_12 L xs) (ls' := [some (.ref 0), some (.int s1), some (.ref 166), some (.ref 167)]) (Nat.le_of_ble_eq_true rfl) rfl ?_
  refine ag_iconst (d2_13 L xs) (x := 1) (by decide) ?_
  exact ag_iret (d2_14 L xs) rfl rfl
theorem z110_96 (L : Nat) (xs : Nat → Int32) {d : Nat} {h : ax_H} (hz : h.2.1 = 168) : ax_Ca (mgT L xs) (d + 1) 110 [.ref 142, .int 0, .int 0] h (.inl (some (.int 0)), h) := by
  refine ag_call (Nat.le_of_ble_eq_true rfl) ?_
  show ax_Go (mgT L xs) (d + 0) 110 0 [some (.ref 142), some (.int 0), some (.int 0), none, none, none, none] [] h _
  refine ag_iload_n (d110_0 L xs) rfl ?_
  refine ag_iload_n (d110_1 L xs) rfl ?_
  refine ag_isub (d110_2 L xs) ?_
  refine ag_top (y := 0) (by decide) ?_
  refine ag_iconst (d110_3 L xs) (x := 1) (by decide) ?_
  refine ag_icmp_lt (d110_4 L xs) (t := 15) (by decide) (fun _ => ?_) (fun hn => absurd (by decide) hn)
  refine ag_iconst (d110_15 L xs) (x := 0) (by decide) ?_
  exact ag_iret (d110_16 L xs) rfl rfl
theorem z116_97 (L : Nat) (xs : Nat → Int32) {d : Nat} {h : ax_H} {s1 : Int32} (hz : h.2.1 = 168) (F141 : h.1 141 = some (.inr (9, [.int 0, .int 0, .ref 142, .int 0, .ref 143, .ref 144, .ref 145, .ref 146, .ref 147, .int 0, .int 0, .ref 148, .int 0, .ref 149, .int 0, .int 0, .ref 150, .int 0, .ref 151, .int 0, .ref 152, .ref 153, .int 0, .int 0, .ref 154, .ref 155, .ref 156, .ref 157, .ref 158, .ref 159, .ref 160, .ref 161, .ref 162, .int 0, .int 0, .int 0, .int 0, .int 0, .int 0, .int 0, .int 0, .int 0, .ref 163, .int 0, .int 0, .int 0, .int 0, .ref 164, .ref 165]))) : ax_Ca (mgT L xs) (d + 2) 116 [.ref 141, .int s1] h (.inl (some (.int 0)), (ax_up h 141 (.inr (9, [.int 1, .int 0, .ref 142, .int 0, .ref 143, .ref 144, .ref 145, .ref 146, .ref 147, .int 0, .int 0, .ref 148, .int 0, .ref 149, .int 0, .int 0, .ref 150, .int 0, .ref 151, .int 0, .ref 152, .ref 153, .int 0, .int 0, .ref 154, .ref 155, .ref 156, .ref 157, .ref 158, .ref 159, .ref 160, .ref 161, .ref 162, .int 0, .int 0, .int 0, .int 0, .int 0, .int 0, .int 0, .int 0, .int 0, .ref 163, .int 0, .int 0, .int 0, .int 0, .ref 164, .ref 165])))) := by
  refine ag_call (Nat.le_of_ble_eq_true rfl) ?_
  show ax_Go (mgT L xs) (d + 1) 116 0 [some (.ref 141), some (.int s1), none] [] h _
  refine ag_aload_n (d116_0 L xs) rfl ?_
  refine ag_aload_n (d116_1 L xs) rfl ?_
  refine ag_get (d116_2 L xs) (kd := 1) (cj := 9) (k0 := 2) rfl (Or.inl rfl) F141 rfl ?_
  refine ag_iconst (d116_5 L xs) (x := 0) (by decide) ?_
  refine ag_aload_n (d116_6 L xs) rfl ?_
  refine ag_get (d116_7 L xs) (kd := 1) (cj := 9) (k0 := 1) rfl (Or.inl rfl) F141 rfl ?_
  refine ag_invs (d116_10 L xs) (kd := 6) (mj := 110) (n := 3) rfl (Or.inl rfl) (xs := [.int 0, .int 0, .ref 142]) (r := [.ref 141]) rfl rfl (Nat.le_of_ble_eq_true rfl) (z110_96 L xs (d := d + 0) (h := _) hz ) ?_
  refine ag_if_eq (d116_13 L xs) (t := 20) (by decide) (fun _ => ?_) (fun hn => absurd (by decide) hn)
  refine ag_iconst (d116_20 L xs) (x := 1) (by decide) ?_
  refine ag_put (d116_21 L xs) (cj := 9) (k0 := 0) rfl F141 (ax_lt hz (Nat.le_of_ble_eq_true rfl)) (Nat.le_of_ble_eq_true rfl) rfl rfl ?_
  refine ag_aload_n (d116_24 L xs) rfl ?_
  refine ag_get (d116_25 L xs) (kd := 1) (cj := 9) (k0 := 0) rfl (Or.inl rfl) (ax_up_at _ _ _) rfl ?_
  refine ag_if_le (d116_28 L xs) (t := 33) (by decide) (fun hp => absurd hp (by decide)) (fun _ => ?_)
  refine ag_iconst (d116_31 L xs) (x := 0) (by decide) ?_
  exact ag_iret (d116_32 L xs) rfl rfl
theorem z105_98 (L : Nat) (xs : Nat → Int32) {d : Nat} {h : ax_H} (hz : h.2.1 = 168) (F141 : h.1 141 = some (.inr (9, [.int 1, .int 0, .ref 142, .int 0, .ref 143, .ref 144, .ref 145, .ref 146, .ref 147, .int 0, .int 0, .ref 148, .int 0, .ref 149, .int 0, .int 0, .ref 150, .int 0, .ref 151, .int 0, .ref 152, .ref 153, .int 0, .int 0, .ref 154, .ref 155, .ref 156, .ref 157, .ref 158, .ref 159, .ref 160, .ref 161, .ref 162, .int 0, .int 0, .int 0, .int 0, .int 0, .int 0, .int 0, .int 0, .int 0, .ref 163, .int 0, .int 0, .int 0, .int 0, .ref 164, .ref 165]))) : ax_Ca (mgT L xs) (d + 1) 105 [.ref 141] h (.inl (some (.int 1)), h) := by
  refine ag_call (Nat.le_of_ble_eq_true rfl) ?_
  show ax_Go (mgT L xs) (d + 0) 105 0 [some (.ref 141)] [] h _
  refine ag_aload_n (d105_0 L xs) rfl ?_
  refine ag_get (d105_1 L xs) (kd := 1) (cj := 9) (k0 := 0) rfl (Or.inl rfl) F141 rfl ?_
  exact ag_iret (d105_4 L xs) rfl rfl
theorem z0_99 (xs : Nat → Int32) {d : Nat} {h : ax_H} {s0 : Int32} (hs0 : xs 0 = s0) {s1 : Int32} (hs1 : xs 1 = s1) (hz : h.2.1 = 167) (F0 : h.1 0 = some (.inr (0, [.ref 1, .ref 3, .ref 87, .ref 137]))) (F1 : h.1 1 = some (.inr (1, [.ref 2, .int 0]))) (F141 : h.1 141 = some (.inr (9, [.int 0, .int 0, .ref 142, .int 0, .ref 143, .ref 144, .ref 145, .ref 146, .ref 147, .int 0, .int 0, .ref 148, .int 0, .ref 149, .int 0, .int 0, .ref 150, .int 0, .ref 151, .int 0, .ref 152, .ref 153, .int 0, .int 0, .ref 154, .ref 155, .ref 156, .ref 157, .ref 158, .ref 159, .ref 160, .ref 161, .ref 162, .int 0, .int 0, .int 0, .int 0, .int 0, .int 0, .int 0, .int 0, .int 0, .ref 163, .int 0, .int 0, .int 0, .int 0, .ref 164, .ref 165]))) (hj : s0 &&& 15 = 5) : ax_Go (mgT 3 xs) (d + 4) 0 23 [some (.ref ax_big), some (.ref 0), some (.ref 141), some (.ref 166), some (.int 0), none, none] [] h (.inl (some (.int 1)), (ax_up (ax_one h) 141 (.inr (9, [.int 1, .int 0, .ref 142, .int 0, .ref 143, .ref 144, .ref 145, .ref 146, .ref 147, .int 0, .int 0, .ref 148, .int 0, .ref 149, .int 0, .int 0, .ref 150, .int 0, .ref 151, .int 0, .ref 152, .ref 153, .int 0, .int 0, .ref 154, .ref 155, .ref 156, .ref 157, .ref 158, .ref 159, .ref 160, .ref 161, .ref 162, .int 0, .int 0, .int 0, .int 0, .int 0, .int 0, .int 0, .int 0, .int 0, .ref 163, .int 0, .int 0, .int 0, .int 0, .ref 164, .ref 165])))) := by
  refine ag_iload (d0_23 3 xs) rfl ?_
  refine ag_aload_n (d0_25 3 xs) rfl ?_
  refine ag_slen rfl (d0_26 3 xs) ?_
  refine ag_top (y := 3) (by decide) ?_
  refine ag_iconst (d0_27 3 xs) (x := 3) (by decide) ?_
  refine ag_isub (d0_28 3 xs) ?_
  refine ag_top (y := 0) (by decide) ?_
  refine ag_icmp_gt (d0_29 3 xs) (t := 447) (by decide) (fun hp => absurd hp (by decide)) (fun _ => ?_)
  refine ag_aload_n (d0_32 3 xs) rfl ?_
  refine ag_iload (d0_33 3 xs) rfl ?_
  refine ag_sald rfl (d0_35 3 xs) (x := s0) (show ¬ ((0 : Int32) < 0 ∨ 3 ≤ (0 : Int32).toNatClampNeg) from by decide) hs0 ?_
  refine ag_bipush (d0_36 3 xs) (x := 15) (by decide) ?_
  refine ag_iand (d0_38 3 xs) ?_
  refine ag_top (y := 5) hj ?_
  refine ag_tswIn (d0_39 3 xs) (of := 215) (t := 254) (by decide) (by decide) (by decide) ?_
  refine ag_aload_n (d0_254 3 xs) rfl ?_
  refine ag_aload_n (d0_255 3 xs) rfl ?_
  refine ag_iload (d0_256 3 xs) rfl ?_
  refine ag_iconst (d0_258 3 xs) (x := 1) (by decide) ?_
  refine ag_iadd (d0_259 3 xs) ?_
  refine ag_top (y := 1) (by decide) ?_
  refine ag_sald rfl (d0_260 3 xs) (x := s1) (show ¬ ((1 : Int32) < 0 ∨ 3 ≤ (1 : Int32).toNatClampNeg) from by decide) hs1 ?_
  refine ag_aload_n (d0_261 3 xs) rfl ?_
  refine ag_invs (d0_262 3 xs) (kd := 26) (mj := 2) (n := 3) rfl (Or.inr (Or.inr rfl)) (xs := [.ref 166, .int s1, .ref 0]) (r := []) rfl rfl (Nat.le_of_ble_eq_true rfl) (z2_95 3 xs (d := d + 0) (h := _) (s1 := s1) hz F0 F1) ?_
  refine ag_istore (d0_265 3 xs) (ls' := [some (.ref ax_big), some (.ref 0), some (.ref 141), some (.ref 166), some (.int 0), some (.int 1), none]) (Nat.le_of_ble_eq_true rfl) rfl ?_
  refine ag_aload_n (d0_267 3 xs) rfl ?_
  refine ag_aload_n (d0_268 3 xs) rfl ?_
  refine ag_iload (d0_269 3 xs) rfl ?_
  refine ag_iconst (d0_271 3 xs) (x := 1) (by decide) ?_
  refine ag_iadd (d0_272 3 xs) ?_
  refine ag_top (y := 1) (by decide) ?_
  refine ag_sald rfl (d0_273 3 xs) (x := s1) (show ¬ ((1 : Int32) < 0 ∨ 3 ≤ (1 : Int32).toNatClampNeg) from by decide) hs1 ?_
  refine ag_invv (d0_274 3 xs) (kd := 7) (mj := 116) (n := 1) rfl (Or.inl rfl) (xs := [.int s1]) (r := []) rfl rfl ((ax_one_at _ 141).trans F141) rfl (Nat.le_of_ble_eq_true rfl) (z116_97 3 xs (d := d + 2) (h := _) (s1 := s1) (ax_one_sz hz) ((ax_one_at _ 141).trans F141)) ?_
  refine ag_istore (d0_277 3 xs) (ls' := [some (.ref ax_big), some (.ref 0), some (.ref 141), some (.ref 166), some (.int 0), some (.int 1), some (.int 0)]) (Nat.le_of_ble_eq_true rfl) rfl ?_
  refine ag_aload_n (d0_279 3 xs) rfl ?_
  refine ag_invv (d0_280 3 xs) (kd := 7) (mj := 105) (n := 0) rfl (Or.inl rfl) (xs := []) (r := []) rfl rfl (ax_up_at _ _ _) rfl (Nat.le_of_ble_eq_true rfl) (z105_98 3 xs (d := d + 3) (h := _) (ax_one_sz hz) (ax_up_at _ _ _)) ?_
  refine ag_iload (d0_283 3 xs) rfl ?_
  refine ag_icmp_eq (d0_285 3 xs) (t := 290) (by decide) (fun _ => ?_) (fun hn => absurd (by decide) hn)
  refine ag_iload (d0_290 3 xs) rfl ?_
  refine ag_if_ne (d0_292 3 xs) (t := 307) (by decide) (fun _ => ?_) (fun hn => absurd (by decide) hn)
  refine ag_goto (d0_307 3 xs) (t := 441) (by decide) ?_
  refine ag_iinc (d0_441 3 xs) (y := 3) (ls' := [some (.ref ax_big), some (.ref 0), some (.ref 141), some (.ref 166), some (.int 3), some (.int 1), some (.int 0)]) rfl (by decide) rfl ?_
  refine ag_goto (d0_444 3 xs) (t := 23) (by decide) ?_
  refine ag_iload (d0_23 3 xs) rfl ?_
  refine ag_aload_n (d0_25 3 xs) rfl ?_
  refine ag_slen rfl (d0_26 3 xs) ?_
  refine ag_top (y := 3) (by decide) ?_
  refine ag_iconst (d0_27 3 xs) (x := 3) (by decide) ?_
  refine ag_isub (d0_28 3 xs) ?_
  refine ag_top (y := 0) (by decide) ?_
  refine ag_icmp_gt (d0_29 3 xs) (t := 447) (by decide) (fun _ => ?_) (fun hn => absurd (by decide) hn)
  refine ag_iconst (d0_447 3 xs) (x := 1) (by decide) ?_
  exact ag_iret (d0_448 3 xs) rfl rfl
theorem z22_100 (L : Nat) (xs : Nat → Int32) {d : Nat} {h : ax_H} {s1 : Int32} (hz : h.2.1 = 167) (F0 : h.1 0 = some (.inr (0, [.ref 1, .ref 3, .ref 87, .ref 137]))) (F87 : h.1 87 = some (.inr (6, [.ref 3, .ref 88, .ref 89, .ref 91, .int 0, .int (-1), .int 0, .int 0, .int 0, .int 0]))) : ax_Ca (mgT L xs) (d + 2) 22 [.ref 0, .int s1] h (.inl (some (.int (-1))), h) := by
  refine ag_call (Nat.le_of_ble_eq_true rfl) ?_
  show ax_Go (mgT L xs) (d + 1) 22 0 [some (.ref 0), some (.int s1)] [] h _
  refine ag_aload_n (d22_0 L xs) rfl ?_
  refine ag_get (d22_1 L xs) (kd := 1) (cj := 0) (k0 := 2) rfl (Or.inl rfl) F0 rfl ?_
  refine ag_invv (d22_4 L xs) (kd := 7) (mj := 23) (n := 0) rfl (Or.inl rfl) (xs := []) (r := []) rfl rfl F87 rfl (Nat.le_of_ble_eq_true rfl) (z23_9 L xs (d := d + 0) (h := _) hz F87) ?_
  refine ag_if_ne (d22_7 L xs) (t := 12) (by decide) (fun hp => absurd hp (by decide)) (fun _ => ?_)
  refine ag_iconst (d22_10 L xs) (x := (-1)) (by decide) ?_
  exact ag_iret (d22_11 L xs) rfl rfl
theorem z153_101 (L : Nat) (xs : Nat → Int32) {d : Nat} {h : ax_H} {s1 : Int32} (hz : h.2.1 = 167) (F141 : h.1 141 = some (.inr (9, [.int 0, .int 0, .ref 142, .int 0, .ref 143, .ref 144, .ref 145, .ref 146, .ref 147, .int 0, .int 0, .ref 148, .int 0, .ref 149, .int 0, .int 0, .ref 150, .int 0, .ref 151, .int 0, .ref 152, .ref 153, .int 0, .int 0, .ref 154, .ref 155, .ref 156, .ref 157, .ref 158, .ref 159, .ref 160, .ref 161, .ref 162, .int 0, .int 0, .int 0, .int 0, .int 0, .int 0, .int 0, .int 0, .int 0, .ref 163, .int 0, .int 0, .int 0, .int 0, .ref 164, .ref 165]))) : ax_Ca (mgT L xs) (d + 1) 153 [.ref 141, .int s1] h (.inl (some (.int (-1))), (ax_up h 141 (.inr (9, [.int 0, .int 0, .ref 142, .int 0, .ref 143, .ref 144, .ref 145, .ref 146, .ref 147, .int 0, .int 0, .ref 148, .int 0, .ref 149, .int 0, .int 0, .ref 150, .int 0, .ref 151, .int 0, .ref 152, .ref 153, .int 0, .int 0, .ref 154, .ref 155, .ref 156, .ref 157, .ref 158, .ref 159, .ref 160, .ref 161, .ref 162, .int 0, .int 0, .int 0, .int 0, .int 0, .int 0, .int 0, .int 0, .int 0, .ref 163, .int 0, .int 0, .int 0, .int 0, .ref 164, .ref 165])))) := by
  refine ag_call (Nat.le_of_ble_eq_true rfl) ?_
  show ax_Go (mgT L xs) (d + 0) 153 0 [some (.ref 141), some (.int s1)] [] h _
  refine ag_aload_n (d153_0 L xs) rfl ?_
  refine ag_iconst (d153_1 L xs) (x := 0) (by decide) ?_
  refine ag_put (d153_2 L xs) (cj := 9) (k0 := 0) rfl F141 (ax_lt hz (Nat.le_of_ble_eq_true rfl)) (Nat.le_of_ble_eq_true rfl) rfl rfl ?_
  refine ag_aload_n (d153_5 L xs) rfl ?_
  refine ag_get (d153_6 L xs) (kd := 1) (cj := 9) (k0 := 34) rfl (Or.inl rfl) (ax_up_at _ _ _) rfl ?_
  refine ag_if_ne (d153_9 L xs) (t := 14) (by decide) (fun hp => absurd hp (by decide)) (fun _ => ?_)
  refine ag_iconst (d153_12 L xs) (x := (-1)) (by decide) ?_
  exact ag_iret (d153_13 L xs) rfl rfl
theorem z0_102 (xs : Nat → Int32) {d : Nat} {h : ax_H} {s0 : Int32} (hs0 : xs 0 = s0) {s1 : Int32} (hs1 : xs 1 = s1) (hz : h.2.1 = 167) (F0 : h.1 0 = some (.inr (0, [.ref 1, .ref 3, .ref 87, .ref 137]))) (F87 : h.1 87 = some (.inr (6, [.ref 3, .ref 88, .ref 89, .ref 91, .int 0, .int (-1), .int 0, .int 0, .int 0, .int 0]))) (F141 : h.1 141 = some (.inr (9, [.int 0, .int 0, .ref 142, .int 0, .ref 143, .ref 144, .ref 145, .ref 146, .ref 147, .int 0, .int 0, .ref 148, .int 0, .ref 149, .int 0, .int 0, .ref 150, .int 0, .ref 151, .int 0, .ref 152, .ref 153, .int 0, .int 0, .ref 154, .ref 155, .ref 156, .ref 157, .ref 158, .ref 159, .ref 160, .ref 161, .ref 162, .int 0, .int 0, .int 0, .int 0, .int 0, .int 0, .int 0, .int 0, .int 0, .ref 163, .int 0, .int 0, .int 0, .int 0, .ref 164, .ref 165]))) (hj : s0 &&& 15 = 6) : ax_Go (mgT 3 xs) (d + 2) 0 23 [some (.ref ax_big), some (.ref 0), some (.ref 141), some (.ref 166), some (.int 0), none, none] [] h (.inl (some (.int 1)), (ax_up h 141 (.inr (9, [.int 0, .int 0, .ref 142, .int 0, .ref 143, .ref 144, .ref 145, .ref 146, .ref 147, .int 0, .int 0, .ref 148, .int 0, .ref 149, .int 0, .int 0, .ref 150, .int 0, .ref 151, .int 0, .ref 152, .ref 153, .int 0, .int 0, .ref 154, .ref 155, .ref 156, .ref 157, .ref 158, .ref 159, .ref 160, .ref 161, .ref 162, .int 0, .int 0, .int 0, .int 0, .int 0, .int 0, .int 0, .int 0, .int 0, .ref 163, .int 0, .int 0, .int 0, .int 0, .ref 164, .ref 165])))) := by
  refine ag_iload (d0_23 3 xs) rfl ?_
  refine ag_aload_n (d0_25 3 xs) rfl ?_
  refine ag_slen rfl (d0_26 3 xs) ?_
  refine ag_top (y := 3) (by decide) ?_
  refine ag_iconst (d0_27 3 xs) (x := 3) (by decide) ?_
  refine ag_isub (d0_28 3 xs) ?_
  refine ag_top (y := 0) (by decide) ?_
  refine ag_icmp_gt (d0_29 3 xs) (t := 447) (by decide) (fun hp => absurd hp (by decide)) (fun _ => ?_)
  refine ag_aload_n (d0_32 3 xs) rfl ?_
  refine ag_iload (d0_33 3 xs) rfl ?_
  refine ag_sald rfl (d0_35 3 xs) (x := s0) (show ¬ ((0 : Int32) < 0 ∨ 3 ≤ (0 : Int32).toNatClampNeg) from by decide) hs0 ?_
  refine ag_bipush (d0_36 3 xs) (x := 15) (by decide) ?_
  refine ag_iand (d0_38 3 xs) ?_
  refine ag_top (y := 6) hj ?_
  refine ag_tswIn (d0_39 3 xs) (of := 271) (t := 310) (by decide) (by decide) (by decide) ?_
  refine ag_aload_n (d0_310 3 xs) rfl ?_
  refine ag_aload_n (d0_311 3 xs) rfl ?_
  refine ag_iload (d0_312 3 xs) rfl ?_
  refine ag_iconst (d0_314 3 xs) (x := 1) (by decide) ?_
  refine ag_iadd (d0_315 3 xs) ?_
  refine ag_top (y := 1) (by decide) ?_
  refine ag_sald rfl (d0_316 3 xs) (x := s1) (show ¬ ((1 : Int32) < 0 ∨ 3 ≤ (1 : Int32).toNatClampNeg) from by decide) hs1 ?_
  refine ag_invv (d0_317 3 xs) (kd := 7) (mj := 22) (n := 1) rfl (Or.inl rfl) (xs := [.int s1]) (r := []) rfl rfl F0 rfl (Nat.le_of_ble_eq_true rfl) (z22_100 3 xs (d := d + 0) (h := _) (s1 := s1) hz F0 F87) ?_
  refine ag_aload_n (d0_320 3 xs) rfl ?_
  refine ag_aload_n (d0_321 3 xs) rfl ?_
  refine ag_iload (d0_322 3 xs) rfl ?_
  refine ag_iconst (d0_324 3 xs) (x := 1) (by decide) ?_
  refine ag_iadd (d0_325 3 xs) ?_
  refine ag_top (y := 1) (by decide) ?_
  refine ag_sald rfl (d0_326 3 xs) (x := s1) (show ¬ ((1 : Int32) < 0 ∨ 3 ≤ (1 : Int32).toNatClampNeg) from by decide) hs1 ?_
  refine ag_invv (d0_327 3 xs) (kd := 7) (mj := 153) (n := 1) rfl (Or.inl rfl) (xs := [.int s1]) (r := [.int (-1)]) rfl rfl F141 rfl (Nat.le_of_ble_eq_true rfl) (z153_101 3 xs (d := d + 1) (h := _) (s1 := s1) hz F141) ?_
  refine ag_icmp_eq (d0_330 3 xs) (t := 441) (by decide) (fun _ => ?_) (fun hn => absurd (by decide) hn)
  refine ag_iinc (d0_441 3 xs) (y := 3) (ls' := [some (.ref ax_big), some (.ref 0), some (.ref 141), some (.ref 166), some (.int 3), none, none]) rfl (by decide) rfl ?_
  refine ag_goto (d0_444 3 xs) (t := 23) (by decide) ?_
  refine ag_iload (d0_23 3 xs) rfl ?_
  refine ag_aload_n (d0_25 3 xs) rfl ?_
  refine ag_slen rfl (d0_26 3 xs) ?_
  refine ag_top (y := 3) (by decide) ?_
  refine ag_iconst (d0_27 3 xs) (x := 3) (by decide) ?_
  refine ag_isub (d0_28 3 xs) ?_
  refine ag_top (y := 0) (by decide) ?_
  refine ag_icmp_gt (d0_29 3 xs) (t := 447) (by decide) (fun _ => ?_) (fun hn => absurd (by decide) hn)
  refine ag_iconst (d0_447 3 xs) (x := 1) (by decide) ?_
  exact ag_iret (d0_448 3 xs) rfl rfl
theorem z29_103 (L : Nat) (xs : Nat → Int32) {d : Nat} {h : ax_H} {s1 : Int32} (hz : h.2.1 = 167) (F0 : h.1 0 = some (.inr (0, [.ref 1, .ref 3, .ref 87, .ref 137]))) (F3 : h.1 3 = some (.inr (3, [.ref 4, .int 0, .ref 5]))) (F5 : h.1 5 = some (.inr (1, [.ref 6, .int 0]))) : ax_Ca (mgT L xs) (d + 2) 29 [.ref 0, .int s1] h (.inl (some (.int (-1))), h) := by
  refine ag_call (Nat.le_of_ble_eq_true rfl) ?_
  show ax_Go (mgT L xs) (d + 1) 29 0 [some (.ref 0), some (.int s1), none] [] h _
  refine ag_aload_n (d29_0 L xs) rfl ?_
  refine ag_get (d29_1 L xs) (kd := 1) (cj := 0) (k0 := 1) rfl (Or.inl rfl) F0 rfl ?_
  refine ag_invv (d29_4 L xs) (kd := 7) (mj := 30) (n := 0) rfl (Or.inl rfl) (xs := []) (r := []) rfl rfl F3 rfl (Nat.le_of_ble_eq_true rfl) (z30_11 L xs (d := d + 0) (h := _) hz F3) ?_
  refine ag_astore_n (d29_7 L xs) (ls' := [some (.ref 0), some (.int s1), some (.ref 5)]) (Nat.le_of_ble_eq_true rfl) rfl ?_
  refine ag_aload_n (d29_8 L xs) rfl ?_
  refine ag_invv (d29_9 L xs) (kd := 7) (mj := 15) (n := 0) rfl (Or.inl rfl) (xs := []) (r := []) rfl rfl F5 rfl (Nat.le_of_ble_eq_true rfl) (z15_12 L xs (d := d + 0) (h := _) hz F5) ?_
  refine ag_if_ne (d29_12 L xs) (t := 17) (by decide) (fun hp => absurd hp (by decide)) (fun _ => ?_)
  refine ag_iconst (d29_15 L xs) (x := (-1)) (by decide) ?_
  exact ag_iret (d29_16 L xs) rfl rfl
theorem z154_104 (L : Nat) (xs : Nat → Int32) {d : Nat} {h : ax_H} {s1 : Int32} (hz : h.2.1 = 167) (F141 : h.1 141 = some (.inr (9, [.int 0, .int 0, .ref 142, .int 0, .ref 143, .ref 144, .ref 145, .ref 146, .ref 147, .int 0, .int 0, .ref 148, .int 0, .ref 149, .int 0, .int 0, .ref 150, .int 0, .ref 151, .int 0, .ref 152, .ref 153, .int 0, .int 0, .ref 154, .ref 155, .ref 156, .ref 157, .ref 158, .ref 159, .ref 160, .ref 161, .ref 162, .int 0, .int 0, .int 0, .int 0, .int 0, .int 0, .int 0, .int 0, .int 0, .ref 163, .int 0, .int 0, .int 0, .int 0, .ref 164, .ref 165]))) : ax_Ca (mgT L xs) (d + 1) 154 [.ref 141, .int s1] h (.inl (some (.int (-1))), (ax_up h 141 (.inr (9, [.int 0, .int 0, .ref 142, .int 0, .ref 143, .ref 144, .ref 145, .ref 146, .ref 147, .int 0, .int 0, .ref 148, .int 0, .ref 149, .int 0, .int 0, .ref 150, .int 0, .ref 151, .int 0, .ref 152, .ref 153, .int 0, .int 0, .ref 154, .ref 155, .ref 156, .ref 157, .ref 158, .ref 159, .ref 160, .ref 161, .ref 162, .int 0, .int 0, .int 0, .int 0, .int 0, .int 0, .int 0, .int 0, .int 0, .ref 163, .int 0, .int 0, .int 0, .int 0, .ref 164, .ref 165])))) := by
  refine ag_call (Nat.le_of_ble_eq_true rfl) ?_
  show ax_Go (mgT L xs) (d + 0) 154 0 [some (.ref 141), some (.int s1)] [] h _
  refine ag_aload_n (d154_0 L xs) rfl ?_
  refine ag_iconst (d154_1 L xs) (x := 0) (by decide) ?_
  refine ag_put (d154_2 L xs) (cj := 9) (k0 := 0) rfl F141 (ax_lt hz (Nat.le_of_ble_eq_true rfl)) (Nat.le_of_ble_eq_true rfl) rfl rfl ?_
  refine ag_aload_n (d154_5 L xs) rfl ?_
  refine ag_get (d154_6 L xs) (kd := 1) (cj := 9) (k0 := 14) rfl (Or.inl rfl) (ax_up_at _ _ _) rfl ?_
  refine ag_if_ne (d154_9 L xs) (t := 16) (by decide) (fun hp => absurd hp (by decide)) (fun _ => ?_)
  refine ag_iconst (d154_12 L xs) (x := (-1)) (by decide) ?_
  refine ag_goto (d154_13 L xs) (t := 50) (by decide) ?_
  exact ag_iret (d154_50 L xs) rfl rfl
theorem z0_105 (xs : Nat → Int32) {d : Nat} {h : ax_H} {s0 : Int32} (hs0 : xs 0 = s0) {s1 : Int32} (hs1 : xs 1 = s1) (hz : h.2.1 = 167) (F0 : h.1 0 = some (.inr (0, [.ref 1, .ref 3, .ref 87, .ref 137]))) (F3 : h.1 3 = some (.inr (3, [.ref 4, .int 0, .ref 5]))) (F5 : h.1 5 = some (.inr (1, [.ref 6, .int 0]))) (F141 : h.1 141 = some (.inr (9, [.int 0, .int 0, .ref 142, .int 0, .ref 143, .ref 144, .ref 145, .ref 146, .ref 147, .int 0, .int 0, .ref 148, .int 0, .ref 149, .int 0, .int 0, .ref 150, .int 0, .ref 151, .int 0, .ref 152, .ref 153, .int 0, .int 0, .ref 154, .ref 155, .ref 156, .ref 157, .ref 158, .ref 159, .ref 160, .ref 161, .ref 162, .int 0, .int 0, .int 0, .int 0, .int 0, .int 0, .int 0, .int 0, .int 0, .ref 163, .int 0, .int 0, .int 0, .int 0, .ref 164, .ref 165]))) (hj : s0 &&& 15 = 7) : ax_Go (mgT 3 xs) (d + 2) 0 23 [some (.ref ax_big), some (.ref 0), some (.ref 141), some (.ref 166), some (.int 0), none, none] [] h (.inl (some (.int 1)), (ax_up h 141 (.inr (9, [.int 0, .int 0, .ref 142, .int 0, .ref 143, .ref 144, .ref 145, .ref 146, .ref 147, .int 0, .int 0, .ref 148, .int 0, .ref 149, .int 0, .int 0, .ref 150, .int 0, .ref 151, .int 0, .ref 152, .ref 153, .int 0, .int 0, .ref 154, .ref 155, .ref 156, .ref 157, .ref 158, .ref 159, .ref 160, .ref 161, .ref 162, .int 0, .int 0, .int 0, .int 0, .int 0, .int 0, .int 0, .int 0, .int 0, .ref 163, .int 0, .int 0, .int 0, .int 0, .ref 164, .ref 165])))) := by
  refine ag_iload (d0_23 3 xs) rfl ?_
  refine ag_aload_n (d0_25 3 xs) rfl ?_
  refine ag_slen rfl (d0_26 3 xs) ?_
  refine ag_top (y := 3) (by decide) ?_
  refine ag_iconst (d0_27 3 xs) (x := 3) (by decide) ?_
  refine ag_isub (d0_28 3 xs) ?_
  refine ag_top (y := 0) (by decide) ?_
  refine ag_icmp_gt (d0_29 3 xs) (t := 447) (by decide) (fun hp => absurd hp (by decide)) (fun _ => ?_)
  refine ag_aload_n (d0_32 3 xs) rfl ?_
  refine ag_iload (d0_33 3 xs) rfl ?_
  refine ag_sald rfl (d0_35 3 xs) (x := s0) (show ¬ ((0 : Int32) < 0 ∨ 3 ≤ (0 : Int32).toNatClampNeg) from by decide) hs0 ?_
  refine ag_bipush (d0_36 3 xs) (x := 15) (by decide) ?_
  refine ag_iand (d0_38 3 xs) ?_
  refine ag_top (y := 7) hj ?_
  refine ag_tswIn (d0_39 3 xs) (of := 296) (t := 335) (by decide) (by decide) (by decide) ?_
  refine ag_aload_n (d0_335 3 xs) rfl ?_
  refine ag_aload_n (d0_336 3 xs) rfl ?_
  refine ag_iload (d0_337 3 xs) rfl ?_
  refine ag_iconst (d0_339 3 xs) (x := 1) (by decide) ?_
  refine ag_iadd (d0_340 3 xs) ?_
  refine ag_top (y := 1) (by decide) ?_
  refine ag_sald rfl (d0_341 3 xs) (x := s1) (show ¬ ((1 : Int32) < 0 ∨ 3 ≤ (1 : Int32).toNatClampNeg) from by decide) hs1 ?_
  refine ag_invv (d0_342 3 xs) (kd := 7) (mj := 29) (n := 1) rfl (Or.inl rfl) (xs := [.int s1]) (r := []) rfl rfl F0 rfl (Nat.le_of_ble_eq_true rfl) (z29_103 3 xs (d := d + 0) (h := _) (s1 := s1) hz F0 F3 F5) ?_
  refine ag_aload_n (d0_345 3 xs) rfl ?_
  refine ag_aload_n (d0_346 3 xs) rfl ?_
  refine ag_iload (d0_347 3 xs) rfl ?_
  refine ag_iconst (d0_349 3 xs) (x := 1) (by decide) ?_
  refine ag_iadd (d0_350 3 xs) ?_
  refine ag_top (y := 1) (by decide) ?_
  refine ag_sald rfl (d0_351 3 xs) (x := s1) (show ¬ ((1 : Int32) < 0 ∨ 3 ≤ (1 : Int32).toNatClampNeg) from by decide) hs1 ?_
  refine ag_invv (d0_352 3 xs) (kd := 7) (mj := 154) (n := 1) rfl (Or.inl rfl) (xs := [.int s1]) (r := [.int (-1)]) rfl rfl F141 rfl (Nat.le_of_ble_eq_true rfl) (z154_104 3 xs (d := d + 1) (h := _) (s1 := s1) hz F141) ?_
  refine ag_icmp_eq (d0_355 3 xs) (t := 441) (by decide) (fun _ => ?_) (fun hn => absurd (by decide) hn)
  refine ag_iinc (d0_441 3 xs) (y := 3) (ls' := [some (.ref ax_big), some (.ref 0), some (.ref 141), some (.ref 166), some (.int 3), none, none]) rfl (by decide) rfl ?_
  refine ag_goto (d0_444 3 xs) (t := 23) (by decide) ?_
  refine ag_iload (d0_23 3 xs) rfl ?_
  refine ag_aload_n (d0_25 3 xs) rfl ?_
  refine ag_slen rfl (d0_26 3 xs) ?_
  refine ag_top (y := 3) (by decide) ?_
  refine ag_iconst (d0_27 3 xs) (x := 3) (by decide) ?_
  refine ag_isub (d0_28 3 xs) ?_
  refine ag_top (y := 0) (by decide) ?_
  refine ag_icmp_gt (d0_29 3 xs) (t := 447) (by decide) (fun _ => ?_) (fun hn => absurd (by decide) hn)
  refine ag_iconst (d0_447 3 xs) (x := 1) (by decide) ?_
  exact ag_iret (d0_448 3 xs) rfl rfl
theorem z86_106 (L : Nat) (xs : Nat → Int32) {d : Nat} {h : ax_H} {s1 : Int32} (hz : h.2.1 = 167) (F0 : h.1 0 = some (.inr (0, [.ref 1, .ref 3, .ref 87, .ref 137]))) (F1 : h.1 1 = some (.inr (1, [.ref 2, .int 0]))) : ax_Ca (mgT L xs) (d + 3) 86 [.ref 0, .int s1] h (.inr 1, (ax_one h)) := by
  refine ag_callT (Nat.le_of_ble_eq_true rfl) ?_
  show ax_Go (mgT L xs) (d + 2) 86 0 [some (.ref 0), some (.int s1), none] [] h _
  refine ag_aload_n (d86_0 L xs) rfl ?_
  refine ag_get (d86_1 L xs) (kd := 1) (cj := 0) (k0 := 0) rfl (Or.inl rfl) F0 rfl ?_
  refine ag_invv (d86_4 L xs) (kd := 7) (mj := 46) (n := 0) rfl (Or.inl rfl) (xs := []) (r := []) rfl rfl F1 rfl (Nat.le_of_ble_eq_true rfl) (z46_24 L xs (d := d + 0) (h := _) hz F1) ?_
  refine ag_if_eq (d86_7 L xs) (t := 20) (by decide) (fun _ => ?_) (fun hn => absurd (by decide) hn)
  exact ag_thr (d86_20 L xs) rfl (d86_23 L xs) (d86_24 L xs) (d86_27 L xs) (by rw [hz]; decide) (Nat.le_of_ble_eq_true rfl) rfl
theorem z3_107 (L : Nat) (xs : Nat → Int32) {d : Nat} {h : ax_H} {s1 : Int32} (hz : h.2.1 = 167) (F0 : h.1 0 = some (.inr (0, [.ref 1, .ref 3, .ref 87, .ref 137]))) (F1 : h.1 1 = some (.inr (1, [.ref 2, .int 0]))) : ax_Ca (mgT L xs) (d + 4) 3 [.ref 0, .int s1, .ref 166] h (.inl (some (.int 1)), (ax_one h)) := by
  refine ag_call (Nat.le_of_ble_eq_true rfl) ?_
  show ax_Go (mgT L xs) (d + 3) 3 0 [some (.ref 0), some (.int s1), some (.ref 166), none] [] h _
  refine ag_aload_n (d3_0 L xs) rfl ?_
  refine ag_iconst (d3_1 L xs) (x := 0) (by decide) ?_
  refine ag_aload_n (d3_2 L xs) rfl ?_
  refine ag_iload_n (d3_3 L xs) rfl ?_
  refine ag_invc (d3_4 L xs) (mj := 86) (n := 1) rfl (xs := [.int s1]) (r := [.int 0, .ref 166]) rfl rfl F0 rfl (Nat.le_of_ble_eq_true rfl) (z86_106 L xs (d := d + 0) (h := _) (s1 := s1) hz F0 F1) (pc' := 12) rfl ?_
  refine ag_ref (b := 167) (by show (ax_one h).2.1 - 1 = _; rw [(ax_one_sz hz)]) ?_
  refine ag_astore_n (d3_12 L xs) (ls' := [some (.ref 0), some (.int s1), some (.ref 166), some (.ref 167)]) (Nat.le_of_ble_eq_true rfl) rfl ?_
  refine ag_iconst (d3_13 L xs) (x := 1) (by decide) ?_
  exact ag_iret (d3_14 L xs) rfl rfl
theorem z155_108 (L : Nat) (xs : Nat → Int32) {d : Nat} {h : ax_H} {s1 : Int32} (hz : h.2.1 = 168) (F141 : h.1 141 = some (.inr (9, [.int 0, .int 0, .ref 142, .int 0, .ref 143, .ref 144, .ref 145, .ref 146, .ref 147, .int 0, .int 0, .ref 148, .int 0, .ref 149, .int 0, .int 0, .ref 150, .int 0, .ref 151, .int 0, .ref 152, .ref 153, .int 0, .int 0, .ref 154, .ref 155, .ref 156, .ref 157, .ref 158, .ref 159, .ref 160, .ref 161, .ref 162, .int 0, .int 0, .int 0, .int 0, .int 0, .int 0, .int 0, .int 0, .int 0, .ref 163, .int 0, .int 0, .int 0, .int 0, .ref 164, .ref 165]))) : ax_Ca (mgT L xs) (d + 2) 155 [.ref 141, .int s1] h (.inl (some (.int 0)), (ax_up h 141 (.inr (9, [.int 1, .int 0, .ref 142, .int 0, .ref 143, .ref 144, .ref 145, .ref 146, .ref 147, .int 0, .int 0, .ref 148, .int 0, .ref 149, .int 0, .int 0, .ref 150, .int 0, .ref 151, .int 0, .ref 152, .ref 153, .int 0, .int 0, .ref 154, .ref 155, .ref 156, .ref 157, .ref 158, .ref 159, .ref 160, .ref 161, .ref 162, .int 0, .int 0, .int 0, .int 0, .int 0, .int 0, .int 0, .int 0, .int 0, .ref 163, .int 0, .int 0, .int 0, .int 0, .ref 164, .ref 165])))) := by
  refine ag_call (Nat.le_of_ble_eq_true rfl) ?_
  show ax_Go (mgT L xs) (d + 1) 155 0 [some (.ref 141), some (.int s1), none, none, none, none, none, none, none, none, none] [] h _
  refine ag_aload_n (d155_0 L xs) rfl ?_
  refine ag_aload_n (d155_1 L xs) rfl ?_
  refine ag_get (d155_2 L xs) (kd := 1) (cj := 9) (k0 := 2) rfl (Or.inl rfl) F141 rfl ?_
  refine ag_iconst (d155_5 L xs) (x := 0) (by decide) ?_
  refine ag_aload_n (d155_6 L xs) rfl ?_
  refine ag_get (d155_7 L xs) (kd := 1) (cj := 9) (k0 := 1) rfl (Or.inl rfl) F141 rfl ?_
  refine ag_invs (d155_10 L xs) (kd := 6) (mj := 110) (n := 3) rfl (Or.inl rfl) (xs := [.int 0, .int 0, .ref 142]) (r := [.ref 141]) rfl rfl (Nat.le_of_ble_eq_true rfl) (z110_96 L xs (d := d + 0) (h := _) hz ) ?_
  refine ag_if_eq (d155_13 L xs) (t := 26) (by decide) (fun _ => ?_) (fun hn => absurd (by decide) hn)
  refine ag_iconst (d155_26 L xs) (x := 1) (by decide) ?_
  refine ag_goto (d155_27 L xs) (t := 42) (by decide) ?_
  refine ag_put (d155_42 L xs) (cj := 9) (k0 := 0) rfl F141 (ax_lt hz (Nat.le_of_ble_eq_true rfl)) (Nat.le_of_ble_eq_true rfl) rfl rfl ?_
  refine ag_aload_n (d155_45 L xs) rfl ?_
  refine ag_get (d155_46 L xs) (kd := 1) (cj := 9) (k0 := 0) rfl (Or.inl rfl) (ax_up_at _ _ _) rfl ?_
  refine ag_if_le (d155_49 L xs) (t := 54) (by decide) (fun hp => absurd hp (by decide)) (fun _ => ?_)
  refine ag_iconst (d155_52 L xs) (x := 0) (by decide) ?_
  exact ag_iret (d155_53 L xs) rfl rfl
theorem z0_109 (xs : Nat → Int32) {d : Nat} {h : ax_H} {s0 : Int32} (hs0 : xs 0 = s0) {s1 : Int32} (hs1 : xs 1 = s1) (hz : h.2.1 = 167) (F0 : h.1 0 = some (.inr (0, [.ref 1, .ref 3, .ref 87, .ref 137]))) (F1 : h.1 1 = some (.inr (1, [.ref 2, .int 0]))) (F141 : h.1 141 = some (.inr (9, [.int 0, .int 0, .ref 142, .int 0, .ref 143, .ref 144, .ref 145, .ref 146, .ref 147, .int 0, .int 0, .ref 148, .int 0, .ref 149, .int 0, .int 0, .ref 150, .int 0, .ref 151, .int 0, .ref 152, .ref 153, .int 0, .int 0, .ref 154, .ref 155, .ref 156, .ref 157, .ref 158, .ref 159, .ref 160, .ref 161, .ref 162, .int 0, .int 0, .int 0, .int 0, .int 0, .int 0, .int 0, .int 0, .int 0, .ref 163, .int 0, .int 0, .int 0, .int 0, .ref 164, .ref 165]))) (hj : s0 &&& 15 = 8) : ax_Go (mgT 3 xs) (d + 4) 0 23 [some (.ref ax_big), some (.ref 0), some (.ref 141), some (.ref 166), some (.int 0), none, none] [] h (.inl (some (.int 1)), (ax_up (ax_one h) 141 (.inr (9, [.int 1, .int 0, .ref 142, .int 0, .ref 143, .ref 144, .ref 145, .ref 146, .ref 147, .int 0, .int 0, .ref 148, .int 0, .ref 149, .int 0, .int 0, .ref 150, .int 0, .ref 151, .int 0, .ref 152, .ref 153, .int 0, .int 0, .ref 154, .ref 155, .ref 156, .ref 157, .ref 158, .ref 159, .ref 160, .ref 161, .ref 162, .int 0, .int 0, .int 0, .int 0, .int 0, .int 0, .int 0, .int 0, .int 0, .ref 163, .int 0, .int 0, .int 0, .int 0, .ref 164, .ref 165])))) := by
  refine ag_iload (d0_23 3 xs) rfl ?_
  refine ag_aload_n (d0_25 3 xs) rfl ?_
  refine ag_slen rfl (d0_26 3 xs) ?_
  refine ag_top (y := 3) (by decide) ?_
  refine ag_iconst (d0_27 3 xs) (x := 3) (by decide) ?_
  refine ag_isub (d0_28 3 xs) ?_
  refine ag_top (y := 0) (by decide) ?_
  refine ag_icmp_gt (d0_29 3 xs) (t := 447) (by decide) (fun hp => absurd hp (by decide)) (fun _ => ?_)
  refine ag_aload_n (d0_32 3 xs) rfl ?_
  refine ag_iload (d0_33 3 xs) rfl ?_
  refine ag_sald rfl (d0_35 3 xs) (x := s0) (show ¬ ((0 : Int32) < 0 ∨ 3 ≤ (0 : Int32).toNatClampNeg) from by decide) hs0 ?_
  refine ag_bipush (d0_36 3 xs) (x := 15) (by decide) ?_
  refine ag_iand (d0_38 3 xs) ?_
  refine ag_top (y := 8) hj ?_
  refine ag_tswIn (d0_39 3 xs) (of := 321) (t := 360) (by decide) (by decide) (by decide) ?_
  refine ag_aload_n (d0_360 3 xs) rfl ?_
  refine ag_aload_n (d0_361 3 xs) rfl ?_
  refine ag_iload (d0_362 3 xs) rfl ?_
  refine ag_iconst (d0_364 3 xs) (x := 1) (by decide) ?_
  refine ag_iadd (d0_365 3 xs) ?_
  refine ag_top (y := 1) (by decide) ?_
  refine ag_sald rfl (d0_366 3 xs) (x := s1) (show ¬ ((1 : Int32) < 0 ∨ 3 ≤ (1 : Int32).toNatClampNeg) from by decide) hs1 ?_
  refine ag_aload_n (d0_367 3 xs) rfl ?_
  refine ag_invs (d0_368 3 xs) (kd := 26) (mj := 3) (n := 3) rfl (Or.inr (Or.inr rfl)) (xs := [.ref 166, .int s1, .ref 0]) (r := []) rfl rfl (Nat.le_of_ble_eq_true rfl) (z3_107 3 xs (d := d + 0) (h := _) (s1 := s1) hz F0 F1) ?_
  refine ag_istore (d0_371 3 xs) (ls' := [some (.ref ax_big), some (.ref 0), some (.ref 141), some (.ref 166), some (.int 0), some (.int 1), none]) (Nat.le_of_ble_eq_true rfl) rfl ?_
  refine ag_aload_n (d0_373 3 xs) rfl ?_
  refine ag_aload_n (d0_374 3 xs) rfl ?_
  refine ag_iload (d0_375 3 xs) rfl ?_
  refine ag_iconst (d0_377 3 xs) (x := 1) (by decide) ?_
  refine ag_iadd (d0_378 3 xs) ?_
  refine ag_top (y := 1) (by decide) ?_
  refine ag_sald rfl (d0_379 3 xs) (x := s1) (show ¬ ((1 : Int32) < 0 ∨ 3 ≤ (1 : Int32).toNatClampNeg) from by decide) hs1 ?_
  refine ag_invv (d0_380 3 xs) (kd := 7) (mj := 155) (n := 1) rfl (Or.inl rfl) (xs := [.int s1]) (r := []) rfl rfl ((ax_one_at _ 141).trans F141) rfl (Nat.le_of_ble_eq_true rfl) (z155_108 3 xs (d := d + 2) (h := _) (s1 := s1) (ax_one_sz hz) ((ax_one_at _ 141).trans F141)) ?_
  refine ag_istore (d0_383 3 xs) (ls' := [some (.ref ax_big), some (.ref 0), some (.ref 141), some (.ref 166), some (.int 0), some (.int 1), some (.int 0)]) (Nat.le_of_ble_eq_true rfl) rfl ?_
  refine ag_aload_n (d0_385 3 xs) rfl ?_
  refine ag_invv (d0_386 3 xs) (kd := 7) (mj := 105) (n := 0) rfl (Or.inl rfl) (xs := []) (r := []) rfl rfl (ax_up_at _ _ _) rfl (Nat.le_of_ble_eq_true rfl) (z105_98 3 xs (d := d + 3) (h := _) (ax_one_sz hz) (ax_up_at _ _ _)) ?_
  refine ag_iload (d0_389 3 xs) rfl ?_
  refine ag_icmp_eq (d0_391 3 xs) (t := 396) (by decide) (fun _ => ?_) (fun hn => absurd (by decide) hn)
  refine ag_iload (d0_396 3 xs) rfl ?_
  refine ag_if_ne (d0_398 3 xs) (t := 413) (by decide) (fun _ => ?_) (fun hn => absurd (by decide) hn)
  refine ag_goto (d0_413 3 xs) (t := 441) (by decide) ?_
  refine ag_iinc (d0_441 3 xs) (y := 3) (ls' := [some (.ref ax_big), some (.ref 0), some (.ref 141), some (.ref 166), some (.int 3), some (.int 1), some (.int 0)]) rfl (by decide) rfl ?_
  refine ag_goto (d0_444 3 xs) (t := 23) (by decide) ?_
  refine ag_iload (d0_23 3 xs) rfl ?_
  refine ag_aload_n (d0_25 3 xs) rfl ?_
  refine ag_slen rfl (d0_26 3 xs) ?_
  refine ag_top (y := 3) (by decide) ?_
  refine ag_iconst (d0_27 3 xs) (x := 3) (by decide) ?_
  refine ag_isub (d0_28 3 xs) ?_
  refine ag_top (y := 0) (by decide) ?_
  refine ag_icmp_gt (d0_29 3 xs) (t := 447) (by decide) (fun _ => ?_) (fun hn => absurd (by decide) hn)
  refine ag_iconst (d0_447 3 xs) (x := 1) (by decide) ?_
  exact ag_iret (d0_448 3 xs) rfl rfl
theorem z33_110 (L : Nat) (xs : Nat → Int32) {d : Nat} {h : ax_H} (hz : h.2.1 = 167) (F3 : h.1 3 = some (.inr (3, [.ref 4, .int 0, .ref 5]))) : ax_Ca (mgT L xs) (d + 1) 33 [.ref 3] h (.inl (some (.int 0)), h) := by
  refine ag_call (Nat.le_of_ble_eq_true rfl) ?_
  show ax_Go (mgT L xs) (d + 0) 33 0 [some (.ref 3)] [] h _
  refine ag_aload_n (d33_0 L xs) rfl ?_
  refine ag_get (d33_1 L xs) (kd := 1) (cj := 3) (k0 := 1) rfl (Or.inl rfl) F3 rfl ?_
  exact ag_iret (d33_4 L xs) rfl rfl
theorem z32_111 (L : Nat) (xs : Nat → Int32) {d : Nat} {h : ax_H} {s1 : Int32} (hz : h.2.1 = 167) (F0 : h.1 0 = some (.inr (0, [.ref 1, .ref 3, .ref 87, .ref 137]))) (F3 : h.1 3 = some (.inr (3, [.ref 4, .int 0, .ref 5]))) (hc_5 : s1 = (-1)) : ax_Ca (mgT L xs) (d + 2) 32 [.ref 0, .int s1] h (.inl (some (.int 0)), h) := by
  refine ag_call (Nat.le_of_ble_eq_true rfl) ?_
  show ax_Go (mgT L xs) (d + 1) 32 0 [some (.ref 0), some (.int s1), none] [] h _
  refine ag_iload_n (d32_0 L xs) rfl ?_
  refine ag_iconst (d32_1 L xs) (x := (-1)) (by decide) ?_
  refine ag_icmp_ne (d32_2 L xs) (t := 13) (by decide) (fun hp => absurd hp (not_not_intro hc_5)) (fun _ => ?_)
  refine ag_aload_n (d32_5 L xs) rfl ?_
  refine ag_get (d32_6 L xs) (kd := 1) (cj := 0) (k0 := 1) rfl (Or.inl rfl) F0 rfl ?_
  refine ag_invv (d32_9 L xs) (kd := 7) (mj := 33) (n := 0) rfl (Or.inl rfl) (xs := []) (r := []) rfl rfl F3 rfl (Nat.le_of_ble_eq_true rfl) (z33_110 L xs (d := d + 0) (h := _) hz F3) ?_
  exact ag_iret (d32_12 L xs) rfl rfl
theorem z34_112 (L : Nat) (xs : Nat → Int32) {d : Nat} {h : ax_H} {s1 : Int32} (hz : h.2.1 = 167) (hc_3 : s1 < 0) : ax_Ca (mgT L xs) (d + 1) 34 [.ref 3, .int s1] h (.inl (some (.null)), h) := by
  refine ag_call (Nat.le_of_ble_eq_true rfl) ?_
  show ax_Go (mgT L xs) (d + 0) 34 0 [some (.ref 3), some (.int s1)] [] h _
  refine ag_iload_n (d34_0 L xs) rfl ?_
  refine ag_if_lt (d34_1 L xs) (t := 21) (by decide) (fun _ => ?_) (fun hn => absurd hc_3 hn)
  refine ag_null (d34_21 L xs) ?_
  exact ag_aretN (d34_22 L xs) rfl
theorem z34_113 (L : Nat) (xs : Nat → Int32) {d : Nat} {h : ax_H} {s1 : Int32} (hz : h.2.1 = 167) (F3 : h.1 3 = some (.inr (3, [.ref 4, .int 0, .ref 5]))) (hc_3 : ¬ (s1 < 0)) : ax_Ca (mgT L xs) (d + 1) 34 [.ref 3, .int s1] h (.inl (some (.null)), h) := by
  refine ag_call (Nat.le_of_ble_eq_true rfl) ?_
  show ax_Go (mgT L xs) (d + 0) 34 0 [some (.ref 3), some (.int s1)] [] h _
  refine ag_iload_n (d34_0 L xs) rfl ?_
  refine ag_if_lt (d34_1 L xs) (t := 21) (by decide) (fun hp => absurd hp hc_3) (fun _ => ?_)
  refine ag_iload_n (d34_4 L xs) rfl ?_
  refine ag_aload_n (d34_5 L xs) rfl ?_
  refine ag_get (d34_6 L xs) (kd := 1) (cj := 3) (k0 := 1) rfl (Or.inl rfl) F3 rfl ?_
  refine ag_icmp_ge (d34_9 L xs) (t := 21) (by decide) (fun _ => ?_) (fun hn => absurd (Int32.not_lt.mp hc_3) hn)
  refine ag_null (d34_21 L xs) ?_
  exact ag_aretN (d34_22 L xs) rfl
theorem z32_114 (L : Nat) (xs : Nat → Int32) {d : Nat} {h : ax_H} {s1 : Int32} (hz : h.2.1 = 167) (F0 : h.1 0 = some (.inr (0, [.ref 1, .ref 3, .ref 87, .ref 137]))) (F3 : h.1 3 = some (.inr (3, [.ref 4, .int 0, .ref 5]))) (hc_3 : s1 < 0) (hc_5 : ¬ (s1 = (-1))) : ax_Ca (mgT L xs) (d + 2) 32 [.ref 0, .int s1] h (.inl (some (.int (-1))), h) := by
  refine ag_call (Nat.le_of_ble_eq_true rfl) ?_
  show ax_Go (mgT L xs) (d + 1) 32 0 [some (.ref 0), some (.int s1), none] [] h _
  refine ag_iload_n (d32_0 L xs) rfl ?_
  refine ag_iconst (d32_1 L xs) (x := (-1)) (by decide) ?_
  refine ag_icmp_ne (d32_2 L xs) (t := 13) (by decide) (fun _ => ?_) (fun hn => absurd hc_5 hn)
  refine ag_aload_n (d32_13 L xs) rfl ?_
  refine ag_get (d32_14 L xs) (kd := 1) (cj := 0) (k0 := 1) rfl (Or.inl rfl) F0 rfl ?_
  refine ag_iload_n (d32_17 L xs) rfl ?_
  refine ag_invv (d32_18 L xs) (kd := 7) (mj := 34) (n := 1) rfl (Or.inl rfl) (xs := [.int s1]) (r := []) rfl rfl F3 rfl (Nat.le_of_ble_eq_true rfl) (z34_112 L xs (d := d + 0) (h := _) (s1 := s1) hz hc_3) ?_
  refine ag_astore_nN (d32_21 L xs) (ls' := [some (.ref 0), some (.int s1), some (.null)]) (Nat.le_of_ble_eq_true rfl) rfl ?_
  refine ag_aload_nN (d32_22 L xs) rfl ?_
  refine ag_ifnonnullN (d32_23 L xs) ?_
  refine ag_iconst (d32_26 L xs) (x := (-1)) (by decide) ?_
  refine ag_goto (d32_27 L xs) (t := 34) (by decide) ?_
  exact ag_iret (d32_34 L xs) rfl rfl
theorem z32_115 (L : Nat) (xs : Nat → Int32) {d : Nat} {h : ax_H} {s1 : Int32} (hz : h.2.1 = 167) (F0 : h.1 0 = some (.inr (0, [.ref 1, .ref 3, .ref 87, .ref 137]))) (F3 : h.1 3 = some (.inr (3, [.ref 4, .int 0, .ref 5]))) (hc_3 : ¬ (s1 < 0)) (hc_5 : ¬ (s1 = (-1))) : ax_Ca (mgT L xs) (d + 2) 32 [.ref 0, .int s1] h (.inl (some (.int (-1))), h) := by
  refine ag_call (Nat.le_of_ble_eq_true rfl) ?_
  show ax_Go (mgT L xs) (d + 1) 32 0 [some (.ref 0), some (.int s1), none] [] h _
  refine ag_iload_n (d32_0 L xs) rfl ?_
  refine ag_iconst (d32_1 L xs) (x := (-1)) (by decide) ?_
  refine ag_icmp_ne (d32_2 L xs) (t := 13) (by decide) (fun _ => ?_) (fun hn => absurd hc_5 hn)
  refine ag_aload_n (d32_13 L xs) rfl ?_
  refine ag_get (d32_14 L xs) (kd := 1) (cj := 0) (k0 := 1) rfl (Or.inl rfl) F0 rfl ?_
  refine ag_iload_n (d32_17 L xs) rfl ?_
  refine ag_invv (d32_18 L xs) (kd := 7) (mj := 34) (n := 1) rfl (Or.inl rfl) (xs := [.int s1]) (r := []) rfl rfl F3 rfl (Nat.le_of_ble_eq_true rfl) (z34_113 L xs (d := d + 0) (h := _) (s1 := s1) hz F3 hc_3) ?_
  refine ag_astore_nN (d32_21 L xs) (ls' := [some (.ref 0), some (.int s1), some (.null)]) (Nat.le_of_ble_eq_true rfl) rfl ?_
  refine ag_aload_nN (d32_22 L xs) rfl ?_
  refine ag_ifnonnullN (d32_23 L xs) ?_
  refine ag_iconst (d32_26 L xs) (x := (-1)) (by decide) ?_
  refine ag_goto (d32_27 L xs) (t := 34) (by decide) ?_
  exact ag_iret (d32_34 L xs) rfl rfl
theorem z163_116 (L : Nat) (xs : Nat → Int32) {d : Nat} {h : ax_H} {s1 : Int32} (hz : h.2.1 = 167) (F141 : h.1 141 = some (.inr (9, [.int 0, .int 0, .ref 142, .int 0, .ref 143, .ref 144, .ref 145, .ref 146, .ref 147, .int 0, .int 0, .ref 148, .int 0, .ref 149, .int 0, .int 0, .ref 150, .int 0, .ref 151, .int 0, .ref 152, .ref 153, .int 0, .int 0, .ref 154, .ref 155, .ref 156, .ref 157, .ref 158, .ref 159, .ref 160, .ref 161, .ref 162, .int 0, .int 0, .int 0, .int 0, .int 0, .int 0, .int 0, .int 0, .int 0, .ref 163, .int 0, .int 0, .int 0, .int 0, .ref 164, .ref 165]))) (hc_5 : s1 = (-1)) : ax_Ca (mgT L xs) (d + 1) 163 [.ref 141, .int s1] h (.inl (some (.int 0)), (ax_up h 141 (.inr (9, [.int 0, .int 0, .ref 142, .int 0, .ref 143, .ref 144, .ref 145, .ref 146, .ref 147, .int 0, .int 0, .ref 148, .int 0, .ref 149, .int 0, .int 0, .ref 150, .int 0, .ref 151, .int 0, .ref 152, .ref 153, .int 0, .int 0, .ref 154, .ref 155, .ref 156, .ref 157, .ref 158, .ref 159, .ref 160, .ref 161, .ref 162, .int 0, .int 0, .int 0, .int 0, .int 0, .int 0, .int 0, .int 0, .int 0, .ref 163, .int 0, .int 0, .int 0, .int 0, .ref 164, .ref 165])))) := by
  refine ag_call (Nat.le_of_ble_eq_true rfl) ?_
  show ax_Go (mgT L xs) (d + 0) 163 0 [some (.ref 141), some (.int s1)] [] h _
  refine ag_aload_n (d163_0 L xs) rfl ?_
  refine ag_iconst (d163_1 L xs) (x := 0) (by decide) ?_
  refine ag_put (d163_2 L xs) (cj := 9) (k0 := 0) rfl F141 (ax_lt hz (Nat.le_of_ble_eq_true rfl)) (Nat.le_of_ble_eq_true rfl) rfl rfl ?_
  refine ag_iload_n (d163_5 L xs) rfl ?_
  refine ag_iconst (d163_6 L xs) (x := (-1)) (by decide) ?_
  refine ag_icmp_ne (d163_7 L xs) (t := 17) (by decide) (fun hp => absurd hp (not_not_intro hc_5)) (fun _ => ?_)
  refine ag_aload_n (d163_10 L xs) rfl ?_
  refine ag_get (d163_11 L xs) (kd := 1) (cj := 9) (k0 := 3) rfl (Or.inl rfl) (ax_up_at _ _ _) rfl ?_
  refine ag_goto (d163_14 L xs) (t := 39) (by decide) ?_
  exact ag_iret (d163_39 L xs) rfl rfl
theorem z0_117 (xs : Nat → Int32) {d : Nat} {h : ax_H} {s0 : Int32} (hs0 : xs 0 = s0) {s1 : Int32} (hs1 : xs 1 = s1) (hz : h.2.1 = 167) (F0 : h.1 0 = some (.inr (0, [.ref 1, .ref 3, .ref 87, .ref 137]))) (F3 : h.1 3 = some (.inr (3, [.ref 4, .int 0, .ref 5]))) (F141 : h.1 141 = some (.inr (9, [.int 0, .int 0, .ref 142, .int 0, .ref 143, .ref 144, .ref 145, .ref 146, .ref 147, .int 0, .int 0, .ref 148, .int 0, .ref 149, .int 0, .int 0, .ref 150, .int 0, .ref 151, .int 0, .ref 152, .ref 153, .int 0, .int 0, .ref 154, .ref 155, .ref 156, .ref 157, .ref 158, .ref 159, .ref 160, .ref 161, .ref 162, .int 0, .int 0, .int 0, .int 0, .int 0, .int 0, .int 0, .int 0, .int 0, .ref 163, .int 0, .int 0, .int 0, .int 0, .ref 164, .ref 165]))) (hc_5 : s1 = (-1)) (hj : s0 &&& 15 = 9) : ax_Go (mgT 3 xs) (d + 2) 0 23 [some (.ref ax_big), some (.ref 0), some (.ref 141), some (.ref 166), some (.int 0), none, none] [] h (.inl (some (.int 1)), (ax_up h 141 (.inr (9, [.int 0, .int 0, .ref 142, .int 0, .ref 143, .ref 144, .ref 145, .ref 146, .ref 147, .int 0, .int 0, .ref 148, .int 0, .ref 149, .int 0, .int 0, .ref 150, .int 0, .ref 151, .int 0, .ref 152, .ref 153, .int 0, .int 0, .ref 154, .ref 155, .ref 156, .ref 157, .ref 158, .ref 159, .ref 160, .ref 161, .ref 162, .int 0, .int 0, .int 0, .int 0, .int 0, .int 0, .int 0, .int 0, .int 0, .ref 163, .int 0, .int 0, .int 0, .int 0, .ref 164, .ref 165])))) := by
  refine ag_iload (d0_23 3 xs) rfl ?_
  refine ag_aload_n (d0_25 3 xs) rfl ?_
  refine ag_slen rfl (d0_26 3 xs) ?_
  refine ag_top (y := 3) (by decide) ?_
  refine ag_iconst (d0_27 3 xs) (x := 3) (by decide) ?_
  refine ag_isub (d0_28 3 xs) ?_
  refine ag_top (y := 0) (by decide) ?_
  refine ag_icmp_gt (d0_29 3 xs) (t := 447) (by decide) (fun hp => absurd hp (by decide)) (fun _ => ?_)
  refine ag_aload_n (d0_32 3 xs) rfl ?_
  refine ag_iload (d0_33 3 xs) rfl ?_
  refine ag_sald rfl (d0_35 3 xs) (x := s0) (show ¬ ((0 : Int32) < 0 ∨ 3 ≤ (0 : Int32).toNatClampNeg) from by decide) hs0 ?_
  refine ag_bipush (d0_36 3 xs) (x := 15) (by decide) ?_
  refine ag_iand (d0_38 3 xs) ?_
  refine ag_top (y := 9) hj ?_
  refine ag_tswIn (d0_39 3 xs) (of := 377) (t := 416) (by decide) (by decide) (by decide) ?_
  refine ag_aload_n (d0_416 3 xs) rfl ?_
  refine ag_aload_n (d0_417 3 xs) rfl ?_
  refine ag_iload (d0_418 3 xs) rfl ?_
  refine ag_iconst (d0_420 3 xs) (x := 1) (by decide) ?_
  refine ag_iadd (d0_421 3 xs) ?_
  refine ag_top (y := 1) (by decide) ?_
  refine ag_sald rfl (d0_422 3 xs) (x := s1) (show ¬ ((1 : Int32) < 0 ∨ 3 ≤ (1 : Int32).toNatClampNeg) from by decide) hs1 ?_
  refine ag_invv (d0_423 3 xs) (kd := 7) (mj := 32) (n := 1) rfl (Or.inl rfl) (xs := [.int s1]) (r := []) rfl rfl F0 rfl (Nat.le_of_ble_eq_true rfl) (z32_111 3 xs (d := d + 0) (h := _) (s1 := s1) hz F0 F3 hc_5) ?_
  refine ag_aload_n (d0_426 3 xs) rfl ?_
  refine ag_aload_n (d0_427 3 xs) rfl ?_
  refine ag_iload (d0_428 3 xs) rfl ?_
  refine ag_iconst (d0_430 3 xs) (x := 1) (by decide) ?_
  refine ag_iadd (d0_431 3 xs) ?_
  refine ag_top (y := 1) (by decide) ?_
  refine ag_sald rfl (d0_432 3 xs) (x := s1) (show ¬ ((1 : Int32) < 0 ∨ 3 ≤ (1 : Int32).toNatClampNeg) from by decide) hs1 ?_
  refine ag_invv (d0_433 3 xs) (kd := 7) (mj := 163) (n := 1) rfl (Or.inl rfl) (xs := [.int s1]) (r := [.int 0]) rfl rfl F141 rfl (Nat.le_of_ble_eq_true rfl) (z163_116 3 xs (d := d + 1) (h := _) (s1 := s1) hz F141 hc_5) ?_
  refine ag_icmp_eq (d0_436 3 xs) (t := 441) (by decide) (fun _ => ?_) (fun hn => absurd (by decide) hn)
  refine ag_iinc (d0_441 3 xs) (y := 3) (ls' := [some (.ref ax_big), some (.ref 0), some (.ref 141), some (.ref 166), some (.int 3), none, none]) rfl (by decide) rfl ?_
  refine ag_goto (d0_444 3 xs) (t := 23) (by decide) ?_
  refine ag_iload (d0_23 3 xs) rfl ?_
  refine ag_aload_n (d0_25 3 xs) rfl ?_
  refine ag_slen rfl (d0_26 3 xs) ?_
  refine ag_top (y := 3) (by decide) ?_
  refine ag_iconst (d0_27 3 xs) (x := 3) (by decide) ?_
  refine ag_isub (d0_28 3 xs) ?_
  refine ag_top (y := 0) (by decide) ?_
  refine ag_icmp_gt (d0_29 3 xs) (t := 447) (by decide) (fun _ => ?_) (fun hn => absurd (by decide) hn)
  refine ag_iconst (d0_447 3 xs) (x := 1) (by decide) ?_
  exact ag_iret (d0_448 3 xs) rfl rfl
theorem z163_118 (L : Nat) (xs : Nat → Int32) {d : Nat} {h : ax_H} {s1 : Int32} (hz : h.2.1 = 167) (F141 : h.1 141 = some (.inr (9, [.int 0, .int 0, .ref 142, .int 0, .ref 143, .ref 144, .ref 145, .ref 146, .ref 147, .int 0, .int 0, .ref 148, .int 0, .ref 149, .int 0, .int 0, .ref 150, .int 0, .ref 151, .int 0, .ref 152, .ref 153, .int 0, .int 0, .ref 154, .ref 155, .ref 156, .ref 157, .ref 158, .ref 159, .ref 160, .ref 161, .ref 162, .int 0, .int 0, .int 0, .int 0, .int 0, .int 0, .int 0, .int 0, .int 0, .ref 163, .int 0, .int 0, .int 0, .int 0, .ref 164, .ref 165]))) (hc_3 : s1 < 0) (hc_5 : ¬ (s1 = (-1))) : ax_Ca (mgT L xs) (d + 1) 163 [.ref 141, .int s1] h (.inl (some (.int (-1))), (ax_up h 141 (.inr (9, [.int 0, .int 0, .ref 142, .int 0, .ref 143, .ref 144, .ref 145, .ref 146, .ref 147, .int 0, .int 0, .ref 148, .int 0, .ref 149, .int 0, .int 0, .ref 150, .int 0, .ref 151, .int 0, .ref 152, .ref 153, .int 0, .int 0, .ref 154, .ref 155, .ref 156, .ref 157, .ref 158, .ref 159, .ref 160, .ref 161, .ref 162, .int 0, .int 0, .int 0, .int 0, .int 0, .int 0, .int 0, .int 0, .int 0, .ref 163, .int 0, .int 0, .int 0, .int 0, .ref 164, .ref 165])))) := by
  refine ag_call (Nat.le_of_ble_eq_true rfl) ?_
  show ax_Go (mgT L xs) (d + 0) 163 0 [some (.ref 141), some (.int s1)] [] h _
  refine ag_aload_n (d163_0 L xs) rfl ?_
  refine ag_iconst (d163_1 L xs) (x := 0) (by decide) ?_
  refine ag_put (d163_2 L xs) (cj := 9) (k0 := 0) rfl F141 (ax_lt hz (Nat.le_of_ble_eq_true rfl)) (Nat.le_of_ble_eq_true rfl) rfl rfl ?_
  refine ag_iload_n (d163_5 L xs) rfl ?_
  refine ag_iconst (d163_6 L xs) (x := (-1)) (by decide) ?_
  refine ag_icmp_ne (d163_7 L xs) (t := 17) (by decide) (fun _ => ?_) (fun hn => absurd hc_5 hn)
  refine ag_iload_n (d163_17 L xs) rfl ?_
  refine ag_if_lt (d163_18 L xs) (t := 29) (by decide) (fun _ => ?_) (fun hn => absurd hc_3 hn)
  refine ag_iconst (d163_29 L xs) (x := (-1)) (by decide) ?_
  refine ag_goto (d163_30 L xs) (t := 39) (by decide) ?_
  exact ag_iret (d163_39 L xs) rfl rfl
theorem z0_119 (xs : Nat → Int32) {d : Nat} {h : ax_H} {s0 : Int32} (hs0 : xs 0 = s0) {s1 : Int32} (hs1 : xs 1 = s1) (hz : h.2.1 = 167) (F0 : h.1 0 = some (.inr (0, [.ref 1, .ref 3, .ref 87, .ref 137]))) (F3 : h.1 3 = some (.inr (3, [.ref 4, .int 0, .ref 5]))) (F141 : h.1 141 = some (.inr (9, [.int 0, .int 0, .ref 142, .int 0, .ref 143, .ref 144, .ref 145, .ref 146, .ref 147, .int 0, .int 0, .ref 148, .int 0, .ref 149, .int 0, .int 0, .ref 150, .int 0, .ref 151, .int 0, .ref 152, .ref 153, .int 0, .int 0, .ref 154, .ref 155, .ref 156, .ref 157, .ref 158, .ref 159, .ref 160, .ref 161, .ref 162, .int 0, .int 0, .int 0, .int 0, .int 0, .int 0, .int 0, .int 0, .int 0, .ref 163, .int 0, .int 0, .int 0, .int 0, .ref 164, .ref 165]))) (hc_3 : s1 < 0) (hc_5 : ¬ (s1 = (-1))) (hj : s0 &&& 15 = 9) : ax_Go (mgT 3 xs) (d + 2) 0 23 [some (.ref ax_big), some (.ref 0), some (.ref 141), some (.ref 166), some (.int 0), none, none] [] h (.inl (some (.int 1)), (ax_up h 141 (.inr (9, [.int 0, .int 0, .ref 142, .int 0, .ref 143, .ref 144, .ref 145, .ref 146, .ref 147, .int 0, .int 0, .ref 148, .int 0, .ref 149, .int 0, .int 0, .ref 150, .int 0, .ref 151, .int 0, .ref 152, .ref 153, .int 0, .int 0, .ref 154, .ref 155, .ref 156, .ref 157, .ref 158, .ref 159, .ref 160, .ref 161, .ref 162, .int 0, .int 0, .int 0, .int 0, .int 0, .int 0, .int 0, .int 0, .int 0, .ref 163, .int 0, .int 0, .int 0, .int 0, .ref 164, .ref 165])))) := by
  refine ag_iload (d0_23 3 xs) rfl ?_
  refine ag_aload_n (d0_25 3 xs) rfl ?_
  refine ag_slen rfl (d0_26 3 xs) ?_
  refine ag_top (y := 3) (by decide) ?_
  refine ag_iconst (d0_27 3 xs) (x := 3) (by decide) ?_
  refine ag_isub (d0_28 3 xs) ?_
  refine ag_top (y := 0) (by decide) ?_
  refine ag_icmp_gt (d0_29 3 xs) (t := 447) (by decide) (fun hp => absurd hp (by decide)) (fun _ => ?_)
  refine ag_aload_n (d0_32 3 xs) rfl ?_
  refine ag_iload (d0_33 3 xs) rfl ?_
  refine ag_sald rfl (d0_35 3 xs) (x := s0) (show ¬ ((0 : Int32) < 0 ∨ 3 ≤ (0 : Int32).toNatClampNeg) from by decide) hs0 ?_
  refine ag_bipush (d0_36 3 xs) (x := 15) (by decide) ?_
  refine ag_iand (d0_38 3 xs) ?_
  refine ag_top (y := 9) hj ?_
  refine ag_tswIn (d0_39 3 xs) (of := 377) (t := 416) (by decide) (by decide) (by decide) ?_
  refine ag_aload_n (d0_416 3 xs) rfl ?_
  refine ag_aload_n (d0_417 3 xs) rfl ?_
  refine ag_iload (d0_418 3 xs) rfl ?_
  refine ag_iconst (d0_420 3 xs) (x := 1) (by decide) ?_
  refine ag_iadd (d0_421 3 xs) ?_
  refine ag_top (y := 1) (by decide) ?_
  refine ag_sald rfl (d0_422 3 xs) (x := s1) (show ¬ ((1 : Int32) < 0 ∨ 3 ≤ (1 : Int32).toNatClampNeg) from by decide) hs1 ?_
  refine ag_invv (d0_423 3 xs) (kd := 7) (mj := 32) (n := 1) rfl (Or.inl rfl) (xs := [.int s1]) (r := []) rfl rfl F0 rfl (Nat.le_of_ble_eq_true rfl) (z32_114 3 xs (d := d + 0) (h := _) (s1 := s1) hz F0 F3 hc_3 hc_5) ?_
  refine ag_aload_n (d0_426 3 xs) rfl ?_
  refine ag_aload_n (d0_427 3 xs) rfl ?_
  refine ag_iload (d0_428 3 xs) rfl ?_
  refine ag_iconst (d0_430 3 xs) (x := 1) (by decide) ?_
  refine ag_iadd (d0_431 3 xs) ?_
  refine ag_top (y := 1) (by decide) ?_
  refine ag_sald rfl (d0_432 3 xs) (x := s1) (show ¬ ((1 : Int32) < 0 ∨ 3 ≤ (1 : Int32).toNatClampNeg) from by decide) hs1 ?_
  refine ag_invv (d0_433 3 xs) (kd := 7) (mj := 163) (n := 1) rfl (Or.inl rfl) (xs := [.int s1]) (r := [.int (-1)]) rfl rfl F141 rfl (Nat.le_of_ble_eq_true rfl) (z163_118 3 xs (d := d + 1) (h := _) (s1 := s1) hz F141 hc_3 hc_5) ?_
  refine ag_icmp_eq (d0_436 3 xs) (t := 441) (by decide) (fun _ => ?_) (fun hn => absurd (by decide) hn)
  refine ag_iinc (d0_441 3 xs) (y := 3) (ls' := [some (.ref ax_big), some (.ref 0), some (.ref 141), some (.ref 166), some (.int 3), none, none]) rfl (by decide) rfl ?_
  refine ag_goto (d0_444 3 xs) (t := 23) (by decide) ?_
  refine ag_iload (d0_23 3 xs) rfl ?_
  refine ag_aload_n (d0_25 3 xs) rfl ?_
  refine ag_slen rfl (d0_26 3 xs) ?_
  refine ag_top (y := 3) (by decide) ?_
  refine ag_iconst (d0_27 3 xs) (x := 3) (by decide) ?_
  refine ag_isub (d0_28 3 xs) ?_
  refine ag_top (y := 0) (by decide) ?_
  refine ag_icmp_gt (d0_29 3 xs) (t := 447) (by decide) (fun _ => ?_) (fun hn => absurd (by decide) hn)
  refine ag_iconst (d0_447 3 xs) (x := 1) (by decide) ?_
  exact ag_iret (d0_448 3 xs) rfl rfl
theorem z163_120 (L : Nat) (xs : Nat → Int32) {d : Nat} {h : ax_H} {s1 : Int32} (hz : h.2.1 = 167) (F141 : h.1 141 = some (.inr (9, [.int 0, .int 0, .ref 142, .int 0, .ref 143, .ref 144, .ref 145, .ref 146, .ref 147, .int 0, .int 0, .ref 148, .int 0, .ref 149, .int 0, .int 0, .ref 150, .int 0, .ref 151, .int 0, .ref 152, .ref 153, .int 0, .int 0, .ref 154, .ref 155, .ref 156, .ref 157, .ref 158, .ref 159, .ref 160, .ref 161, .ref 162, .int 0, .int 0, .int 0, .int 0, .int 0, .int 0, .int 0, .int 0, .int 0, .ref 163, .int 0, .int 0, .int 0, .int 0, .ref 164, .ref 165]))) (hc_3 : ¬ (s1 < 0)) (hc_5 : ¬ (s1 = (-1))) : ax_Ca (mgT L xs) (d + 1) 163 [.ref 141, .int s1] h (.inl (some (.int (-1))), (ax_up h 141 (.inr (9, [.int 0, .int 0, .ref 142, .int 0, .ref 143, .ref 144, .ref 145, .ref 146, .ref 147, .int 0, .int 0, .ref 148, .int 0, .ref 149, .int 0, .int 0, .ref 150, .int 0, .ref 151, .int 0, .ref 152, .ref 153, .int 0, .int 0, .ref 154, .ref 155, .ref 156, .ref 157, .ref 158, .ref 159, .ref 160, .ref 161, .ref 162, .int 0, .int 0, .int 0, .int 0, .int 0, .int 0, .int 0, .int 0, .int 0, .ref 163, .int 0, .int 0, .int 0, .int 0, .ref 164, .ref 165])))) := by
  refine ag_call (Nat.le_of_ble_eq_true rfl) ?_
  show ax_Go (mgT L xs) (d + 0) 163 0 [some (.ref 141), some (.int s1)] [] h _
  refine ag_aload_n (d163_0 L xs) rfl ?_
  refine ag_iconst (d163_1 L xs) (x := 0) (by decide) ?_
  refine ag_put (d163_2 L xs) (cj := 9) (k0 := 0) rfl F141 (ax_lt hz (Nat.le_of_ble_eq_true rfl)) (Nat.le_of_ble_eq_true rfl) rfl rfl ?_
  refine ag_iload_n (d163_5 L xs) rfl ?_
  refine ag_iconst (d163_6 L xs) (x := (-1)) (by decide) ?_
  refine ag_icmp_ne (d163_7 L xs) (t := 17) (by decide) (fun _ => ?_) (fun hn => absurd hc_5 hn)
  refine ag_iload_n (d163_17 L xs) rfl ?_
  refine ag_if_lt (d163_18 L xs) (t := 29) (by decide) (fun hp => absurd hp hc_3) (fun _ => ?_)
  refine ag_iload_n (d163_21 L xs) rfl ?_
  refine ag_aload_n (d163_22 L xs) rfl ?_
  refine ag_get (d163_23 L xs) (kd := 1) (cj := 9) (k0 := 3) rfl (Or.inl rfl) (ax_up_at _ _ _) rfl ?_
  refine ag_icmp_lt (d163_26 L xs) (t := 33) (by decide) (fun hp => absurd hp hc_3) (fun _ => ?_)
  refine ag_iconst (d163_29 L xs) (x := (-1)) (by decide) ?_
  refine ag_goto (d163_30 L xs) (t := 39) (by decide) ?_
  exact ag_iret (d163_39 L xs) rfl rfl
theorem z0_121 (xs : Nat → Int32) {d : Nat} {h : ax_H} {s0 : Int32} (hs0 : xs 0 = s0) {s1 : Int32} (hs1 : xs 1 = s1) (hz : h.2.1 = 167) (F0 : h.1 0 = some (.inr (0, [.ref 1, .ref 3, .ref 87, .ref 137]))) (F3 : h.1 3 = some (.inr (3, [.ref 4, .int 0, .ref 5]))) (F141 : h.1 141 = some (.inr (9, [.int 0, .int 0, .ref 142, .int 0, .ref 143, .ref 144, .ref 145, .ref 146, .ref 147, .int 0, .int 0, .ref 148, .int 0, .ref 149, .int 0, .int 0, .ref 150, .int 0, .ref 151, .int 0, .ref 152, .ref 153, .int 0, .int 0, .ref 154, .ref 155, .ref 156, .ref 157, .ref 158, .ref 159, .ref 160, .ref 161, .ref 162, .int 0, .int 0, .int 0, .int 0, .int 0, .int 0, .int 0, .int 0, .int 0, .ref 163, .int 0, .int 0, .int 0, .int 0, .ref 164, .ref 165]))) (hc_3 : ¬ (s1 < 0)) (hc_5 : ¬ (s1 = (-1))) (hj : s0 &&& 15 = 9) : ax_Go (mgT 3 xs) (d + 2) 0 23 [some (.ref ax_big), some (.ref 0), some (.ref 141), some (.ref 166), some (.int 0), none, none] [] h (.inl (some (.int 1)), (ax_up h 141 (.inr (9, [.int 0, .int 0, .ref 142, .int 0, .ref 143, .ref 144, .ref 145, .ref 146, .ref 147, .int 0, .int 0, .ref 148, .int 0, .ref 149, .int 0, .int 0, .ref 150, .int 0, .ref 151, .int 0, .ref 152, .ref 153, .int 0, .int 0, .ref 154, .ref 155, .ref 156, .ref 157, .ref 158, .ref 159, .ref 160, .ref 161, .ref 162, .int 0, .int 0, .int 0, .int 0, .int 0, .int 0, .int 0, .int 0, .int 0, .ref 163, .int 0, .int 0, .int 0, .int 0, .ref 164, .ref 165])))) := by
  refine ag_iload (d0_23 3 xs) rfl ?_
  refine ag_aload_n (d0_25 3 xs) rfl ?_
  refine ag_slen rfl (d0_26 3 xs) ?_
  refine ag_top (y := 3) (by decide) ?_
  refine ag_iconst (d0_27 3 xs) (x := 3) (by decide) ?_
  refine ag_isub (d0_28 3 xs) ?_
  refine ag_top (y := 0) (by decide) ?_
  refine ag_icmp_gt (d0_29 3 xs) (t := 447) (by decide) (fun hp => absurd hp (by decide)) (fun _ => ?_)
  refine ag_aload_n (d0_32 3 xs) rfl ?_
  refine ag_iload (d0_33 3 xs) rfl ?_
  refine ag_sald rfl (d0_35 3 xs) (x := s0) (show ¬ ((0 : Int32) < 0 ∨ 3 ≤ (0 : Int32).toNatClampNeg) from by decide) hs0 ?_
  refine ag_bipush (d0_36 3 xs) (x := 15) (by decide) ?_
  refine ag_iand (d0_38 3 xs) ?_
  refine ag_top (y := 9) hj ?_
  refine ag_tswIn (d0_39 3 xs) (of := 377) (t := 416) (by decide) (by decide) (by decide) ?_
  refine ag_aload_n (d0_416 3 xs) rfl ?_
  refine ag_aload_n (d0_417 3 xs) rfl ?_
  refine ag_iload (d0_418 3 xs) rfl ?_
  refine ag_iconst (d0_420 3 xs) (x := 1) (by decide) ?_
  refine ag_iadd (d0_421 3 xs) ?_
  refine ag_top (y := 1) (by decide) ?_
  refine ag_sald rfl (d0_422 3 xs) (x := s1) (show ¬ ((1 : Int32) < 0 ∨ 3 ≤ (1 : Int32).toNatClampNeg) from by decide) hs1 ?_
  refine ag_invv (d0_423 3 xs) (kd := 7) (mj := 32) (n := 1) rfl (Or.inl rfl) (xs := [.int s1]) (r := []) rfl rfl F0 rfl (Nat.le_of_ble_eq_true rfl) (z32_115 3 xs (d := d + 0) (h := _) (s1 := s1) hz F0 F3 hc_3 hc_5) ?_
  refine ag_aload_n (d0_426 3 xs) rfl ?_
  refine ag_aload_n (d0_427 3 xs) rfl ?_
  refine ag_iload (d0_428 3 xs) rfl ?_
  refine ag_iconst (d0_430 3 xs) (x := 1) (by decide) ?_
  refine ag_iadd (d0_431 3 xs) ?_
  refine ag_top (y := 1) (by decide) ?_
  refine ag_sald rfl (d0_432 3 xs) (x := s1) (show ¬ ((1 : Int32) < 0 ∨ 3 ≤ (1 : Int32).toNatClampNeg) from by decide) hs1 ?_
  refine ag_invv (d0_433 3 xs) (kd := 7) (mj := 163) (n := 1) rfl (Or.inl rfl) (xs := [.int s1]) (r := [.int (-1)]) rfl rfl F141 rfl (Nat.le_of_ble_eq_true rfl) (z163_120 3 xs (d := d + 1) (h := _) (s1 := s1) hz F141 hc_3 hc_5) ?_
  refine ag_icmp_eq (d0_436 3 xs) (t := 441) (by decide) (fun _ => ?_) (fun hn => absurd (by decide) hn)
  refine ag_iinc (d0_441 3 xs) (y := 3) (ls' := [some (.ref ax_big), some (.ref 0), some (.ref 141), some (.ref 166), some (.int 3), none, none]) rfl (by decide) rfl ?_
  refine ag_goto (d0_444 3 xs) (t := 23) (by decide) ?_
  refine ag_iload (d0_23 3 xs) rfl ?_
  refine ag_aload_n (d0_25 3 xs) rfl ?_
  refine ag_slen rfl (d0_26 3 xs) ?_
  refine ag_top (y := 3) (by decide) ?_
  refine ag_iconst (d0_27 3 xs) (x := 3) (by decide) ?_
  refine ag_isub (d0_28 3 xs) ?_
  refine ag_top (y := 0) (by decide) ?_
  refine ag_icmp_gt (d0_29 3 xs) (t := 447) (by decide) (fun _ => ?_) (fun hn => absurd (by decide) hn)
  refine ag_iconst (d0_447 3 xs) (x := 1) (by decide) ?_
  exact ag_iret (d0_448 3 xs) rfl rfl
theorem z0_122 (xs : Nat → Int32) {d : Nat} {h : ax_H} {s0 : Int32} (hs0 : xs 0 = s0) (hz : h.2.1 = 167) (hj : s0 &&& 15 = 10) : ax_Go (mgT 3 xs) (d + 0) 0 23 [some (.ref ax_big), some (.ref 0), some (.ref 141), some (.ref 166), some (.int 0), none, none] [] h (.inl (some (.int 1)), h) := by
  refine ag_iload (d0_23 3 xs) rfl ?_
  refine ag_aload_n (d0_25 3 xs) rfl ?_
  refine ag_slen rfl (d0_26 3 xs) ?_
  refine ag_top (y := 3) (by decide) ?_
  refine ag_iconst (d0_27 3 xs) (x := 3) (by decide) ?_
  refine ag_isub (d0_28 3 xs) ?_
  refine ag_top (y := 0) (by decide) ?_
  refine ag_icmp_gt (d0_29 3 xs) (t := 447) (by decide) (fun hp => absurd hp (by decide)) (fun _ => ?_)
  refine ag_aload_n (d0_32 3 xs) rfl ?_
  refine ag_iload (d0_33 3 xs) rfl ?_
  refine ag_sald rfl (d0_35 3 xs) (x := s0) (show ¬ ((0 : Int32) < 0 ∨ 3 ≤ (0 : Int32).toNatClampNeg) from by decide) hs0 ?_
  refine ag_bipush (d0_36 3 xs) (x := 15) (by decide) ?_
  refine ag_iand (d0_38 3 xs) ?_
  refine ag_top (y := 10) hj ?_
  refine ag_tswOut (d0_39 3 xs) (t := 441) (by decide) (by decide) ?_
  refine ag_iinc (d0_441 3 xs) (y := 3) (ls' := [some (.ref ax_big), some (.ref 0), some (.ref 141), some (.ref 166), some (.int 3), none, none]) rfl (by decide) rfl ?_
  refine ag_goto (d0_444 3 xs) (t := 23) (by decide) ?_
  refine ag_iload (d0_23 3 xs) rfl ?_
  refine ag_aload_n (d0_25 3 xs) rfl ?_
  refine ag_slen rfl (d0_26 3 xs) ?_
  refine ag_top (y := 3) (by decide) ?_
  refine ag_iconst (d0_27 3 xs) (x := 3) (by decide) ?_
  refine ag_isub (d0_28 3 xs) ?_
  refine ag_top (y := 0) (by decide) ?_
  refine ag_icmp_gt (d0_29 3 xs) (t := 447) (by decide) (fun _ => ?_) (fun hn => absurd (by decide) hn)
  refine ag_iconst (d0_447 3 xs) (x := 1) (by decide) ?_
  exact ag_iret (d0_448 3 xs) rfl rfl
theorem z0_123 (xs : Nat → Int32) {d : Nat} {h : ax_H} {s0 : Int32} (hs0 : xs 0 = s0) (hz : h.2.1 = 167) (hj : s0 &&& 15 = 11) : ax_Go (mgT 3 xs) (d + 0) 0 23 [some (.ref ax_big), some (.ref 0), some (.ref 141), some (.ref 166), some (.int 0), none, none] [] h (.inl (some (.int 1)), h) := by
  refine ag_iload (d0_23 3 xs) rfl ?_
  refine ag_aload_n (d0_25 3 xs) rfl ?_
  refine ag_slen rfl (d0_26 3 xs) ?_
  refine ag_top (y := 3) (by decide) ?_
  refine ag_iconst (d0_27 3 xs) (x := 3) (by decide) ?_
  refine ag_isub (d0_28 3 xs) ?_
  refine ag_top (y := 0) (by decide) ?_
  refine ag_icmp_gt (d0_29 3 xs) (t := 447) (by decide) (fun hp => absurd hp (by decide)) (fun _ => ?_)
  refine ag_aload_n (d0_32 3 xs) rfl ?_
  refine ag_iload (d0_33 3 xs) rfl ?_
  refine ag_sald rfl (d0_35 3 xs) (x := s0) (show ¬ ((0 : Int32) < 0 ∨ 3 ≤ (0 : Int32).toNatClampNeg) from by decide) hs0 ?_
  refine ag_bipush (d0_36 3 xs) (x := 15) (by decide) ?_
  refine ag_iand (d0_38 3 xs) ?_
  refine ag_top (y := 11) hj ?_
  refine ag_tswOut (d0_39 3 xs) (t := 441) (by decide) (by decide) ?_
  refine ag_iinc (d0_441 3 xs) (y := 3) (ls' := [some (.ref ax_big), some (.ref 0), some (.ref 141), some (.ref 166), some (.int 3), none, none]) rfl (by decide) rfl ?_
  refine ag_goto (d0_444 3 xs) (t := 23) (by decide) ?_
  refine ag_iload (d0_23 3 xs) rfl ?_
  refine ag_aload_n (d0_25 3 xs) rfl ?_
  refine ag_slen rfl (d0_26 3 xs) ?_
  refine ag_top (y := 3) (by decide) ?_
  refine ag_iconst (d0_27 3 xs) (x := 3) (by decide) ?_
  refine ag_isub (d0_28 3 xs) ?_
  refine ag_top (y := 0) (by decide) ?_
  refine ag_icmp_gt (d0_29 3 xs) (t := 447) (by decide) (fun _ => ?_) (fun hn => absurd (by decide) hn)
  refine ag_iconst (d0_447 3 xs) (x := 1) (by decide) ?_
  exact ag_iret (d0_448 3 xs) rfl rfl
theorem z0_124 (xs : Nat → Int32) {d : Nat} {h : ax_H} {s0 : Int32} (hs0 : xs 0 = s0) (hz : h.2.1 = 167) (hj : s0 &&& 15 = 12) : ax_Go (mgT 3 xs) (d + 0) 0 23 [some (.ref ax_big), some (.ref 0), some (.ref 141), some (.ref 166), some (.int 0), none, none] [] h (.inl (some (.int 1)), h) := by
  refine ag_iload (d0_23 3 xs) rfl ?_
  refine ag_aload_n (d0_25 3 xs) rfl ?_
  refine ag_slen rfl (d0_26 3 xs) ?_
  refine ag_top (y := 3) (by decide) ?_
  refine ag_iconst (d0_27 3 xs) (x := 3) (by decide) ?_
  refine ag_isub (d0_28 3 xs) ?_
  refine ag_top (y := 0) (by decide) ?_
  refine ag_icmp_gt (d0_29 3 xs) (t := 447) (by decide) (fun hp => absurd hp (by decide)) (fun _ => ?_)
  refine ag_aload_n (d0_32 3 xs) rfl ?_
  refine ag_iload (d0_33 3 xs) rfl ?_
  refine ag_sald rfl (d0_35 3 xs) (x := s0) (show ¬ ((0 : Int32) < 0 ∨ 3 ≤ (0 : Int32).toNatClampNeg) from by decide) hs0 ?_
  refine ag_bipush (d0_36 3 xs) (x := 15) (by decide) ?_
  refine ag_iand (d0_38 3 xs) ?_
  refine ag_top (y := 12) hj ?_
  refine ag_tswOut (d0_39 3 xs) (t := 441) (by decide) (by decide) ?_
  refine ag_iinc (d0_441 3 xs) (y := 3) (ls' := [some (.ref ax_big), some (.ref 0), some (.ref 141), some (.ref 166), some (.int 3), none, none]) rfl (by decide) rfl ?_
  refine ag_goto (d0_444 3 xs) (t := 23) (by decide) ?_
  refine ag_iload (d0_23 3 xs) rfl ?_
  refine ag_aload_n (d0_25 3 xs) rfl ?_
  refine ag_slen rfl (d0_26 3 xs) ?_
  refine ag_top (y := 3) (by decide) ?_
  refine ag_iconst (d0_27 3 xs) (x := 3) (by decide) ?_
  refine ag_isub (d0_28 3 xs) ?_
  refine ag_top (y := 0) (by decide) ?_
  refine ag_icmp_gt (d0_29 3 xs) (t := 447) (by decide) (fun _ => ?_) (fun hn => absurd (by decide) hn)
  refine ag_iconst (d0_447 3 xs) (x := 1) (by decide) ?_
  exact ag_iret (d0_448 3 xs) rfl rfl
theorem z0_125 (xs : Nat → Int32) {d : Nat} {h : ax_H} {s0 : Int32} (hs0 : xs 0 = s0) (hz : h.2.1 = 167) (hj : s0 &&& 15 = 13) : ax_Go (mgT 3 xs) (d + 0) 0 23 [some (.ref ax_big), some (.ref 0), some (.ref 141), some (.ref 166), some (.int 0), none, none] [] h (.inl (some (.int 1)), h) := by
  refine ag_iload (d0_23 3 xs) rfl ?_
  refine ag_aload_n (d0_25 3 xs) rfl ?_
  refine ag_slen rfl (d0_26 3 xs) ?_
  refine ag_top (y := 3) (by decide) ?_
  refine ag_iconst (d0_27 3 xs) (x := 3) (by decide) ?_
  refine ag_isub (d0_28 3 xs) ?_
  refine ag_top (y := 0) (by decide) ?_
  refine ag_icmp_gt (d0_29 3 xs) (t := 447) (by decide) (fun hp => absurd hp (by decide)) (fun _ => ?_)
  refine ag_aload_n (d0_32 3 xs) rfl ?_
  refine ag_iload (d0_33 3 xs) rfl ?_
  refine ag_sald rfl (d0_35 3 xs) (x := s0) (show ¬ ((0 : Int32) < 0 ∨ 3 ≤ (0 : Int32).toNatClampNeg) from by decide) hs0 ?_
  refine ag_bipush (d0_36 3 xs) (x := 15) (by decide) ?_
  refine ag_iand (d0_38 3 xs) ?_
  refine ag_top (y := 13) hj ?_
  refine ag_tswOut (d0_39 3 xs) (t := 441) (by decide) (by decide) ?_
  refine ag_iinc (d0_441 3 xs) (y := 3) (ls' := [some (.ref ax_big), some (.ref 0), some (.ref 141), some (.ref 166), some (.int 3), none, none]) rfl (by decide) rfl ?_
  refine ag_goto (d0_444 3 xs) (t := 23) (by decide) ?_
  refine ag_iload (d0_23 3 xs) rfl ?_
  refine ag_aload_n (d0_25 3 xs) rfl ?_
  refine ag_slen rfl (d0_26 3 xs) ?_
  refine ag_top (y := 3) (by decide) ?_
  refine ag_iconst (d0_27 3 xs) (x := 3) (by decide) ?_
  refine ag_isub (d0_28 3 xs) ?_
  refine ag_top (y := 0) (by decide) ?_
  refine ag_icmp_gt (d0_29 3 xs) (t := 447) (by decide) (fun _ => ?_) (fun hn => absurd (by decide) hn)
  refine ag_iconst (d0_447 3 xs) (x := 1) (by decide) ?_
  exact ag_iret (d0_448 3 xs) rfl rfl
theorem z0_126 (xs : Nat → Int32) {d : Nat} {h : ax_H} {s0 : Int32} (hs0 : xs 0 = s0) (hz : h.2.1 = 167) (hj : s0 &&& 15 = 14) : ax_Go (mgT 3 xs) (d + 0) 0 23 [some (.ref ax_big), some (.ref 0), some (.ref 141), some (.ref 166), some (.int 0), none, none] [] h (.inl (some (.int 1)), h) := by
  refine ag_iload (d0_23 3 xs) rfl ?_
  refine ag_aload_n (d0_25 3 xs) rfl ?_
  refine ag_slen rfl (d0_26 3 xs) ?_
  refine ag_top (y := 3) (by decide) ?_
  refine ag_iconst (d0_27 3 xs) (x := 3) (by decide) ?_
  refine ag_isub (d0_28 3 xs) ?_
  refine ag_top (y := 0) (by decide) ?_
  refine ag_icmp_gt (d0_29 3 xs) (t := 447) (by decide) (fun hp => absurd hp (by decide)) (fun _ => ?_)
  refine ag_aload_n (d0_32 3 xs) rfl ?_
  refine ag_iload (d0_33 3 xs) rfl ?_
  refine ag_sald rfl (d0_35 3 xs) (x := s0) (show ¬ ((0 : Int32) < 0 ∨ 3 ≤ (0 : Int32).toNatClampNeg) from by decide) hs0 ?_
  refine ag_bipush (d0_36 3 xs) (x := 15) (by decide) ?_
  refine ag_iand (d0_38 3 xs) ?_
  refine ag_top (y := 14) hj ?_
  refine ag_tswOut (d0_39 3 xs) (t := 441) (by decide) (by decide) ?_
  refine ag_iinc (d0_441 3 xs) (y := 3) (ls' := [some (.ref ax_big), some (.ref 0), some (.ref 141), some (.ref 166), some (.int 3), none, none]) rfl (by decide) rfl ?_
  refine ag_goto (d0_444 3 xs) (t := 23) (by decide) ?_
  refine ag_iload (d0_23 3 xs) rfl ?_
  refine ag_aload_n (d0_25 3 xs) rfl ?_
  refine ag_slen rfl (d0_26 3 xs) ?_
  refine ag_top (y := 3) (by decide) ?_
  refine ag_iconst (d0_27 3 xs) (x := 3) (by decide) ?_
  refine ag_isub (d0_28 3 xs) ?_
  refine ag_top (y := 0) (by decide) ?_
  refine ag_icmp_gt (d0_29 3 xs) (t := 447) (by decide) (fun _ => ?_) (fun hn => absurd (by decide) hn)
  refine ag_iconst (d0_447 3 xs) (x := 1) (by decide) ?_
  exact ag_iret (d0_448 3 xs) rfl rfl
theorem z0_127 (xs : Nat → Int32) {d : Nat} {h : ax_H} {s0 : Int32} (hs0 : xs 0 = s0) (hz : h.2.1 = 167) (hj : s0 &&& 15 = 15) : ax_Go (mgT 3 xs) (d + 0) 0 23 [some (.ref ax_big), some (.ref 0), some (.ref 141), some (.ref 166), some (.int 0), none, none] [] h (.inl (some (.int 1)), h) := by
  refine ag_iload (d0_23 3 xs) rfl ?_
  refine ag_aload_n (d0_25 3 xs) rfl ?_
  refine ag_slen rfl (d0_26 3 xs) ?_
  refine ag_top (y := 3) (by decide) ?_
  refine ag_iconst (d0_27 3 xs) (x := 3) (by decide) ?_
  refine ag_isub (d0_28 3 xs) ?_
  refine ag_top (y := 0) (by decide) ?_
  refine ag_icmp_gt (d0_29 3 xs) (t := 447) (by decide) (fun hp => absurd hp (by decide)) (fun _ => ?_)
  refine ag_aload_n (d0_32 3 xs) rfl ?_
  refine ag_iload (d0_33 3 xs) rfl ?_
  refine ag_sald rfl (d0_35 3 xs) (x := s0) (show ¬ ((0 : Int32) < 0 ∨ 3 ≤ (0 : Int32).toNatClampNeg) from by decide) hs0 ?_
  refine ag_bipush (d0_36 3 xs) (x := 15) (by decide) ?_
  refine ag_iand (d0_38 3 xs) ?_
  refine ag_top (y := 15) hj ?_
  refine ag_tswOut (d0_39 3 xs) (t := 441) (by decide) (by decide) ?_
  refine ag_iinc (d0_441 3 xs) (y := 3) (ls' := [some (.ref ax_big), some (.ref 0), some (.ref 141), some (.ref 166), some (.int 3), none, none]) rfl (by decide) rfl ?_
  refine ag_goto (d0_444 3 xs) (t := 23) (by decide) ?_
  refine ag_iload (d0_23 3 xs) rfl ?_
  refine ag_aload_n (d0_25 3 xs) rfl ?_
  refine ag_slen rfl (d0_26 3 xs) ?_
  refine ag_top (y := 3) (by decide) ?_
  refine ag_iconst (d0_27 3 xs) (x := 3) (by decide) ?_
  refine ag_isub (d0_28 3 xs) ?_
  refine ag_top (y := 0) (by decide) ?_
  refine ag_icmp_gt (d0_29 3 xs) (t := 447) (by decide) (fun _ => ?_) (fun hn => absurd (by decide) hn)
  refine ag_iconst (d0_447 3 xs) (x := 1) (by decide) ?_
  exact ag_iret (d0_448 3 xs) rfl rfl
theorem z0_128 (xs : Nat → Int32) {d : Nat} {h : ax_H} (hz : h.2.1 = 167) : ax_Go (mgT 0 xs) (d + 0) 0 23 [some (.ref ax_big), some (.ref 0), some (.ref 141), some (.ref 166), some (.int 0), none, none] [] h (.inl (some (.int 1)), h) := by
  refine ag_iload (d0_23 0 xs) rfl ?_
  refine ag_aload_n (d0_25 0 xs) rfl ?_
  refine ag_slen rfl (d0_26 0 xs) ?_
  refine ag_top (y := 0) (by decide) ?_
  refine ag_iconst (d0_27 0 xs) (x := 3) (by decide) ?_
  refine ag_isub (d0_28 0 xs) ?_
  refine ag_top (y := (-3)) (by decide) ?_
  refine ag_icmp_gt (d0_29 0 xs) (t := 447) (by decide) (fun _ => ?_) (fun hn => absurd (by decide) hn)
  refine ag_iconst (d0_447 0 xs) (x := 1) (by decide) ?_
  exact ag_iret (d0_448 0 xs) rfl rfl
theorem z0_129 (xs : Nat → Int32) {d : Nat} {h : ax_H} (hz : h.2.1 = 167) : ax_Go (mgT 1 xs) (d + 0) 0 23 [some (.ref ax_big), some (.ref 0), some (.ref 141), some (.ref 166), some (.int 0), none, none] [] h (.inl (some (.int 1)), h) := by
  refine ag_iload (d0_23 1 xs) rfl ?_
  refine ag_aload_n (d0_25 1 xs) rfl ?_
  refine ag_slen rfl (d0_26 1 xs) ?_
  refine ag_top (y := 1) (by decide) ?_
  refine ag_iconst (d0_27 1 xs) (x := 3) (by decide) ?_
  refine ag_isub (d0_28 1 xs) ?_
  refine ag_top (y := (-2)) (by decide) ?_
  refine ag_icmp_gt (d0_29 1 xs) (t := 447) (by decide) (fun _ => ?_) (fun hn => absurd (by decide) hn)
  refine ag_iconst (d0_447 1 xs) (x := 1) (by decide) ?_
  exact ag_iret (d0_448 1 xs) rfl rfl
theorem z0_130 (xs : Nat → Int32) {d : Nat} {h : ax_H} (hz : h.2.1 = 167) : ax_Go (mgT 2 xs) (d + 0) 0 23 [some (.ref ax_big), some (.ref 0), some (.ref 141), some (.ref 166), some (.int 0), none, none] [] h (.inl (some (.int 1)), h) := by
  refine ag_iload (d0_23 2 xs) rfl ?_
  refine ag_aload_n (d0_25 2 xs) rfl ?_
  refine ag_slen rfl (d0_26 2 xs) ?_
  refine ag_top (y := 2) (by decide) ?_
  refine ag_iconst (d0_27 2 xs) (x := 3) (by decide) ?_
  refine ag_isub (d0_28 2 xs) ?_
  refine ag_top (y := (-1)) (by decide) ?_
  refine ag_icmp_gt (d0_29 2 xs) (t := 447) (by decide) (fun _ => ?_) (fun hn => absurd (by decide) hn)
  refine ag_iconst (d0_447 2 xs) (x := 1) (by decide) ?_
  exact ag_iret (d0_448 2 xs) rfl rfl
theorem z0_131 (xs : Nat → Int32) {d : Nat} {h : ax_H} {s0 : Int32} (hs0 : xs 0 = s0) {s1 : Int32} (hs1 : xs 1 = s1) {s2 : Int32} (hs2 : xs 2 = s2) (hz : h.2.1 = 167) (hj : s0 &&& 15 = 0) {o : ax_O} (kk : ax_Go (mgT 3 xs) (d + 0) 0 115 [some (.ref ax_big), some (.ref 0), some (.ref 141), some (.ref 166), some (.int 0), none, none] [.long ((((s1).toInt64) <<< ((32 : Int32).toInt64 &&& 63)) ||| (((s2).toInt64) &&& (Int64.ofNat 4294967295))), .ref 0] h o) : ax_Go (mgT 3 xs) (d + 0) 0 23 [some (.ref ax_big), some (.ref 0), some (.ref 141), some (.ref 166), some (.int 0), none, none] [] h o := by
  refine ag_iload (d0_23 3 xs) rfl ?_
  refine ag_aload_n (d0_25 3 xs) rfl ?_
  refine ag_slen rfl (d0_26 3 xs) ?_
  refine ag_top (y := 3) (by decide) ?_
  refine ag_iconst (d0_27 3 xs) (x := 3) (by decide) ?_
  refine ag_isub (d0_28 3 xs) ?_
  refine ag_top (y := 0) (by decide) ?_
  refine ag_icmp_gt (d0_29 3 xs) (t := 447) (by decide) (fun hp => absurd hp (by decide)) (fun _ => ?_)
  refine ag_aload_n (d0_32 3 xs) rfl ?_
  refine ag_iload (d0_33 3 xs) rfl ?_
  refine ag_sald rfl (d0_35 3 xs) (x := s0) (show ¬ ((0 : Int32) < 0 ∨ 3 ≤ (0 : Int32).toNatClampNeg) from by decide) hs0 ?_
  refine ag_bipush (d0_36 3 xs) (x := 15) (by decide) ?_
  refine ag_iand (d0_38 3 xs) ?_
  refine ag_top (y := 0) hj ?_
  refine ag_tswIn (d0_39 3 xs) (of := 53) (t := 92) (by decide) (by decide) (by decide) ?_
  refine ag_aload_n (d0_92 3 xs) rfl ?_
  refine ag_aload_n (d0_93 3 xs) rfl ?_
  refine ag_iload (d0_94 3 xs) rfl ?_
  refine ag_iconst (d0_96 3 xs) (x := 1) (by decide) ?_
  refine ag_iadd (d0_97 3 xs) ?_
  refine ag_top (y := 1) (by decide) ?_
  refine ag_sald rfl (d0_98 3 xs) (x := s1) (show ¬ ((1 : Int32) < 0 ∨ 3 ≤ (1 : Int32).toNatClampNeg) from by decide) hs1 ?_
  refine ag_i2l (d0_99 3 xs) ?_
  refine ag_bipush (d0_100 3 xs) (x := 32) (by decide) ?_
  refine ag_lshl (d0_102 3 xs) ?_
  refine ag_aload_n (d0_103 3 xs) rfl ?_
  refine ag_iload (d0_104 3 xs) rfl ?_
  refine ag_iconst (d0_106 3 xs) (x := 2) (by decide) ?_
  refine ag_iadd (d0_107 3 xs) ?_
  refine ag_top (y := 2) (by decide) ?_
  refine ag_sald rfl (d0_108 3 xs) (x := s2) (show ¬ ((2 : Int32) < 0 ∨ 3 ≤ (2 : Int32).toNatClampNeg) from by decide) hs2 ?_
  refine ag_i2l (d0_109 3 xs) ?_
  refine ag_ldc2 (d0_110 3 xs) (v := 4294967295) rfl ?_
  refine ag_land (d0_113 3 xs) ?_
  refine ag_lor (d0_114 3 xs) ?_
  exact kk
theorem z0_132 (xs : Nat → Int32) {d : Nat} {h : ax_H} {r : Int32} {s1 : Int32} (hs1 : xs 1 = s1) {s2 : Int32} (hs2 : xs 2 = s2) (hz : h.2.1 = 167) {o : ax_O} (kk : ax_Go (mgT 3 xs) (d + 0) 0 141 [some (.ref ax_big), some (.ref 0), some (.ref 141), some (.ref 166), some (.int 0), none, none] [.long ((((s1).toInt64) <<< ((32 : Int32).toInt64 &&& 63)) ||| (((s2).toInt64) &&& (Int64.ofNat 4294967295))), .ref 141, .int r] h o) : ax_Go (mgT 3 xs) (d + 0) 0 118 [some (.ref ax_big), some (.ref 0), some (.ref 141), some (.ref 166), some (.int 0), none, none] [.int r] h o := by
  refine ag_aload_n (d0_118 3 xs) rfl ?_
  refine ag_aload_n (d0_119 3 xs) rfl ?_
  refine ag_iload (d0_120 3 xs) rfl ?_
  refine ag_iconst (d0_122 3 xs) (x := 1) (by decide) ?_
  refine ag_iadd (d0_123 3 xs) ?_
  refine ag_top (y := 1) (by decide) ?_
  refine ag_sald rfl (d0_124 3 xs) (x := s1) (show ¬ ((1 : Int32) < 0 ∨ 3 ≤ (1 : Int32).toNatClampNeg) from by decide) hs1 ?_
  refine ag_i2l (d0_125 3 xs) ?_
  refine ag_bipush (d0_126 3 xs) (x := 32) (by decide) ?_
  refine ag_lshl (d0_128 3 xs) ?_
  refine ag_aload_n (d0_129 3 xs) rfl ?_
  refine ag_iload (d0_130 3 xs) rfl ?_
  refine ag_iconst (d0_132 3 xs) (x := 2) (by decide) ?_
  refine ag_iadd (d0_133 3 xs) ?_
  refine ag_top (y := 2) (by decide) ?_
  refine ag_sald rfl (d0_134 3 xs) (x := s2) (show ¬ ((2 : Int32) < 0 ∨ 3 ≤ (2 : Int32).toNatClampNeg) from by decide) hs2 ?_
  refine ag_i2l (d0_135 3 xs) ?_
  refine ag_ldc2 (d0_136 3 xs) (v := 4294967295) rfl ?_
  refine ag_land (d0_139 3 xs) ?_
  refine ag_lor (d0_140 3 xs) ?_
  exact kk
theorem z0_133 (xs : Nat → Int32) {d : Nat} {h : ax_H} (hz : h.2.1 = 167) : ax_Go (mgT 3 xs) (d + 0) 0 441 [some (.ref ax_big), some (.ref 0), some (.ref 141), some (.ref 166), some (.int 0), none, none] [] h (.inl (some (.int 1)), h) := by
  refine ag_iinc (d0_441 3 xs) (y := 3) (ls' := [some (.ref ax_big), some (.ref 0), some (.ref 141), some (.ref 166), some (.int 3), none, none]) rfl (by decide) rfl ?_
  refine ag_goto (d0_444 3 xs) (t := 23) (by decide) ?_
  refine ag_iload (d0_23 3 xs) rfl ?_
  refine ag_aload_n (d0_25 3 xs) rfl ?_
  refine ag_slen rfl (d0_26 3 xs) ?_
  refine ag_top (y := 3) (by decide) ?_
  refine ag_iconst (d0_27 3 xs) (x := 3) (by decide) ?_
  refine ag_isub (d0_28 3 xs) ?_
  refine ag_top (y := 0) (by decide) ?_
  refine ag_icmp_gt (d0_29 3 xs) (t := 447) (by decide) (fun _ => ?_) (fun hn => absurd (by decide) hn)
  refine ag_iconst (d0_447 3 xs) (x := 1) (by decide) ?_
  exact ag_iret (d0_448 3 xs) rfl rfl
end
section
/-! the constructors, run by the kernel -/
def ax_obj (h : ax_H) (a : Nat) : Option (Nat × List Value) := match h.1 a with
  | some (.inr o) => some o
  | _ => none
def ax_arr (h : ax_H) (a : Nat) : Option (Nat × Nat) := match h.1 a with
  | some (.inl (t, n, .inl _)) => some (t, n)
  | _ => none
theorem ax_obj_at {h : ax_H} {a : Nat} {o : Nat × List Value} (e : ax_obj h a = some o) : h.1 a = some (.inr o) := by
  unfold ax_obj at e
  split at e
  · rename_i q hq; cases e; exact hq
  · cases e
theorem ax_arr_at {h : ax_H} {a t n : Nat} (e : ax_arr h a = some (t, n)) : ∃ f, h.1 a = some (.inl (t, n, .inl f)) := by
  unfold ax_arr at e
  split at e
  · rename_i t' n' f hq; cases e; exact ⟨f, hq⟩
  · cases e
def mg_hA : ax_H := ax_add mg_h0 (.inr (0, ax_blank mg_T0 0 4)) 4
end
section
def mg_objs : List (Option (Nat × List Value)) := [some (0, [.ref 1, .ref 3, .ref 87, .ref 137]), some (1, [.ref 2, .int 0]), some (3, [.ref 4, .int 0, .ref 5]), some (1, [.ref 6, .int 0]), some (6, [.ref 3, .ref 88, .ref 89, .ref 91, .int 0, .int (-1), .int 0, .int 0, .int 0, .int 0]), some (9, [.int 0, .int 0, .ref 142, .int 0, .ref 143, .ref 144, .ref 145, .ref 146, .ref 147, .int 0, .int 0, .ref 148, .int 0, .ref 149, .int 0, .int 0, .ref 150, .int 0, .ref 151, .int 0, .ref 152, .ref 153, .int 0, .int 0, .ref 154, .ref 155, .ref 156, .ref 157, .ref 158, .ref 159, .ref 160, .ref 161, .ref 162, .int 0, .int 0, .int 0, .int 0, .int 0, .int 0, .int 0, .int 0, .int 0, .ref 163, .int 0, .int 0, .int 0, .int 0, .ref 164, .ref 165])]
def mg_b2 (hC : ax_H) : Bool := decide ([0, 1, 3, 5, 87, 141].map (ax_obj hC) = mg_objs) && (decide ([2, 142].map (ax_arr hC) = [some (1, 100), some (0, 100)]) && decide (hC.2.2.1 = 7912))
def mg_b1 (hB : ax_H) : Bool := match ax_call mg_T0 8 300 104 [.ref 141] (ax_add hB (.inr (9, ax_blank mg_T0 9 49)) 49) with
  | some (.inl none, hC2) => decide (hC2.2.1 = 166) && mg_b2 (ax_add hC2 (.inl (2, (1 : Int32).toNatClampNeg, .inr (.inl (fun _ => 0)))) (1 : Int32).toNatClampNeg)
  | _ => false
def mg_b0 : Bool := match ax_call mg_T0 8 300 4 [.ref 0] mg_hA with
  | some (.inl none, hB) => decide (hB.2.1 = 141) && mg_b1 hB
  | _ => false
theorem mg_b_ok : mg_b0 = true := by decide +kernel
theorem mg_ex : ∃ hB hC2 : ax_H, ax_call mg_T0 8 300 4 [.ref 0] mg_hA = some (.inl none, hB) ∧ hB.2.1 = 141 ∧ ax_call mg_T0 8 300 104 [.ref 141] (ax_add hB (.inr (9, ax_blank mg_T0 9 49)) 49) = some (.inl none, hC2) ∧ hC2.2.1 = 166 ∧ mg_b2 (ax_add hC2 (.inl (2, (1 : Int32).toNatClampNeg, .inr (.inl (fun _ => 0)))) (1 : Int32).toNatClampNeg) = true := by
  have h := mg_b_ok
  unfold mg_b0 at h
  split at h
  · rename_i hB h1
    rw [Bool.and_eq_true] at h
    obtain ⟨h2, h⟩ := h
    unfold mg_b1 at h
    split at h
    · rename_i hC2 h3
      rw [Bool.and_eq_true] at h
      exact ⟨hB, hC2, h1, of_decide_eq_true h2, h3, of_decide_eq_true h.1, h.2⟩
    · cases h
  · cases h
/-- the cells of two fresh objects -/
def mg_fr (h : ax_H) : Prop := h.2.1 = 167 ∧ h.2.2.1 = 7912 ∧ h.1 0 = some (.inr (0, [.ref 1, .ref 3, .ref 87, .ref 137])) ∧ h.1 1 = some (.inr (1, [.ref 2, .int 0])) ∧ h.1 3 = some (.inr (3, [.ref 4, .int 0, .ref 5])) ∧ h.1 5 = some (.inr (1, [.ref 6, .int 0])) ∧ h.1 87 = some (.inr (6, [.ref 3, .ref 88, .ref 89, .ref 91, .int 0, .int (-1), .int 0, .int 0, .int 0, .int 0])) ∧ h.1 141 = some (.inr (9, [.int 0, .int 0, .ref 142, .int 0, .ref 143, .ref 144, .ref 145, .ref 146, .ref 147, .int 0, .int 0, .ref 148, .int 0, .ref 149, .int 0, .int 0, .ref 150, .int 0, .ref 151, .int 0, .ref 152, .ref 153, .int 0, .int 0, .ref 154, .ref 155, .ref 156, .ref 157, .ref 158, .ref 159, .ref 160, .ref 161, .ref 162, .int 0, .int 0, .int 0, .int 0, .int 0, .int 0, .int 0, .int 0, .int 0, .ref 163, .int 0, .int 0, .int 0, .int 0, .ref 164, .ref 165])) ∧ (∃ f, h.1 2 = some (.inl (1, 100, .inl f))) ∧ (∃ f, h.1 142 = some (.inl (0, 100, .inl f)))
theorem mg_fr_of {h : ax_H} (hz : h.2.1 = 167) (hb : mg_b2 h = true) : mg_fr h := by
  unfold mg_b2 at hb
  rw [Bool.and_eq_true, Bool.and_eq_true] at hb
  obtain ⟨h1, h2, h3⟩ := hb
  have h1 := of_decide_eq_true h1
  have h2 := of_decide_eq_true h2
  have h3 := of_decide_eq_true h3
  unfold mg_objs at h1
  simp only [List.map_cons, List.map_nil, List.cons.injEq, and_true] at h1 h2
  obtain ⟨a0, a1, a2, a3, a4, a5⟩ := h1
  obtain ⟨b0, b1⟩ := h2
  exact ⟨hz, h3, ax_obj_at a0, ax_obj_at a1, ax_obj_at a2, ax_obj_at a3, ax_obj_at a4, ax_obj_at a5, ax_arr_at b0, ax_arr_at b1⟩
/-- the law up to its loop -/
theorem mg_start : ∃ hC : ax_H, mg_fr hC ∧ ∀ (L : Nat) (xs : Nat → Int32) (o : ax_O), ax_Go (mgT L xs) 8 0 23 [some (.ref ax_big), some (.ref 0), some (.ref 141), some (.ref 166), some (.int 0), none, none] [] hC o → ax_Go (mgT L xs) 8 0 0 (ax_entry (mgT L xs) 0 [.ref ax_big]) [] mg_h0 o := by
  obtain ⟨hB, hC2, hr1, hzB, hr2, hzC, hb⟩ := mg_ex
  refine ⟨ax_add hC2 (.inl (2, (1 : Int32).toNatClampNeg, .inr (.inl (fun _ => 0)))) (1 : Int32).toNatClampNeg, mg_fr_of (congrArg (fun q => q + 1) hzC) hb, fun L xs o k => ?_⟩
  have c1 : ax_Ca (mgT L xs) 8 4 [.ref 0] mg_hA (.inl none, hB) := ag_done (n := 300) (ax_call_up (sc := some (L, xs)) 8 300 4 [.ref 0] mg_hA (.inl none, hB) hr1)
  have c2 : ax_Ca (mgT L xs) 8 104 [.ref 141] (ax_add hB (.inr (9, ax_blank mg_T0 9 49)) 49) (.inl none, hC2) := ag_done (n := 300) (ax_call_up (sc := some (L, xs)) 8 300 104 [.ref 141] _ (.inl none, hC2) hr2)
  show ax_Go _ 8 0 0 [some (.ref ax_big), none, none, none, none, none, none] [] mg_h0 o
  refine ag_new (d0_0 L xs) (ci := 0) (n := 4) rfl (by decide) ?_
  show ax_Go _ 8 0 3 _ [.ref 0] mg_hA o
  refine ag_dup (d0_3 L xs) rfl ?_
  refine ag_invi (d0_4 L xs) (kd := 8) (mj := 4) (n := 0) rfl (Or.inl rfl) (xs := []) (a := 0) (r := [.ref 0]) rfl rfl (Nat.le_of_ble_eq_true rfl) c1 ?_
  refine ag_astore_n (d0_7 L xs) (ls' := [some (.ref ax_big), some (.ref 0), none, none, none, none, none]) (Nat.le_of_ble_eq_true rfl) rfl ?_
  refine ag_new (d0_8 L xs) (ci := 9) (n := 49) rfl (by rw [hzB]; decide) ?_
  refine ag_ref hzB ?_
  show ax_Go _ 8 0 11 _ [.ref 141] (ax_add hB (.inr (9, ax_blank mg_T0 9 49)) 49) o
  refine ag_dup (d0_11 L xs) rfl ?_
  refine ag_invi (d0_12 L xs) (kd := 8) (mj := 104) (n := 0) rfl (Or.inl rfl) (xs := []) (a := 141) (r := [.ref 141]) rfl rfl (Nat.le_of_ble_eq_true rfl) c2 ?_
  refine ag_astore_n (d0_15 L xs) (ls' := [some (.ref ax_big), some (.ref 0), some (.ref 141), none, none, none, none]) (Nat.le_of_ble_eq_true rfl) rfl ?_
  refine ag_iconst (d0_16 L xs) (x := 1) (by decide) ?_
  refine ag_newl (d0_17 L xs) (t := 2) rfl (by rw [hzC]; decide) ?_
  refine ag_ref hzC ?_
  refine ag_astore_n (d0_19 L xs) (ls' := [some (.ref ax_big), some (.ref 0), some (.ref 141), some (.ref 166), none, none, none]) (Nat.le_of_ble_eq_true rfl) rfl ?_
  refine ag_iconst (d0_20 L xs) (x := 0) (by decide) ?_
  refine ag_istore (d0_21 L xs) (ls' := [some (.ref ax_big), some (.ref 0), some (.ref 141), some (.ref 166), some (.int 0), none, none]) (Nat.le_of_ble_eq_true rfl) rfl ?_
  exact k
end
section
def mg_by (p : Int64) (s : Int32) : Int32 := (p.toUInt64 >>> (s.toInt64.toUInt64 &&& Int64.toUInt64 63)).toInt64.toInt32 &&& 255
def mg_bm (p : Int64) (k : Int32) : Int32 := (p >>> ((8 * k).toInt64 &&& 63)).toInt32 &&& 255
theorem ty_bv (b : BitVec 64) (n : Nat) (hn : n ≤ 56) : (b >>> n).signExtend 32 &&& 255#32 = (b.sshiftRight n).signExtend 32 &&& 255#32 := by
  apply BitVec.eq_of_getLsbD_eq
  intro j hj
  rw [BitVec.getLsbD_and, BitVec.getLsbD_and, BitVec.getLsbD_signExtend, BitVec.getLsbD_signExtend, if_pos (show j < 64 by omega), if_pos (show j < 64 by omega), BitVec.getLsbD_ushiftRight, BitVec.getLsbD_sshiftRight]
  by_cases h8 : j < 8
  · rw [if_pos (show n + j < 64 by omega), show decide (64 ≤ j) = false from decide_eq_false (by omega)]
    simp
  · have h255 : (255#32).getLsbD j = false := by
      have : ∀ j, j < 32 → ¬ j < 8 → (255#32).getLsbD j = false := by decide
      exact this j hj h8
    rw [h255, Bool.and_false, Bool.and_false]
theorem ty_e1 (p : Int64) (u : UInt64) (n : Nat) (hn : (u.toBitVec % 64#64).toNat = n) : ((p.toUInt64 >>> u).toInt64.toInt32 &&& 255).toBitVec = (p.toBitVec >>> n).signExtend 32 &&& 255#32 := by
  subst hn
  rfl
theorem ty_e2 (p u : Int64) (n : Nat) (hn : (u.toBitVec.smod 64#64).toNat = n) : ((p >>> u).toInt32 &&& 255).toBitVec = (p.toBitVec.sshiftRight n).signExtend 32 &&& 255#32 := by
  subst hn
  rfl
theorem ty_eq (p : Int64) : ∀ i, i < 8 → mg_by p (nI (8 * i)) = mg_bm p (nI i) := by
  intro i hi
  apply Int32.toBitVec_inj.mp
  unfold mg_by mg_bm
  refine (ty_e1 p _ (8 * i) ?_).trans ((ty_bv p.toBitVec (8 * i) (by omega)).trans (ty_e2 p _ (8 * i) ?_).symm)
  · have : ∀ i, i < 8 → (((nI (8 * i)).toInt64.toUInt64 &&& Int64.toUInt64 63).toBitVec % 64#64).toNat = 8 * i := by decide
    exact this i hi
  · have : ∀ i, i < 8 → (((8 * nI i).toInt64 &&& 63).toBitVec.smod 64#64).toNat = 8 * i := by decide
    exact this i hi
end
section
/-! type, on a fresh text: the class's two loops, the reference's one -/
def mg_ok1 (c : Int32) : Prop := c = 0 ∨ (¬ c < 32 ∧ ¬ 126 < c)
theorem ty_sv (m : Nat) : nI (8 * (m + 1)) - 8 = nI (8 * m) := by
  have h := pk_sub (a := 8 * (m + 1)) (b := 8) (by omega)
  rw [show 8 * (m + 1) - 8 = 8 * m by omega] at h
  exact h
theorem ty_dec (x : Int32) : x + Int32.ofInt (-8) = x - 8 := by rw [Int32.sub_eq_add_neg]; rfl
theorem ax_fi {ty : FieldType} (e : ty = .int) (x : Int32) : ax_fit ty (.int x) = true := by
  subst e
  show (decide (Value.int x = Value.int x) && true) = true
  rw [decide_eq_true rfl]; rfl
section TY
variable (L : Nat) (xs : Nat → Int32) {d : Nat} {h : ax_H} {p : Int64}
theorem ty_by {s : Int32} : ax_Ca (mgT L xs) (d + 1) 14 [.long p, .int s] h (.inl (some (.int (mg_by p s))), h) := by
  refine ag_call (Nat.le_of_ble_eq_true rfl) ?_
  show ax_Go (mgT L xs) d 14 0 [some (.long p), none, some (.int s)] [] h _
  refine ag_lload_n (d14_0 L xs) rfl ?_
  refine ag_iload_n (d14_1 L xs) rfl ?_
  refine ag_lushr (d14_2 L xs) ?_
  refine ag_l2i (d14_3 L xs) ?_
  refine ag_sipush (d14_4 L xs) (x := 255) (by decide) ?_
  refine ag_iand (d14_7 L xs) ?_
  exact ag_iret (d14_8 L xs) rfl rfl
theorem ty_l1 (o : ax_O) : ∀ (m : Nat), m ≤ 8 → ∀ (j : Nat) (c5 : Option Value), j + m ≤ 8 →
    ((∃ i, i < m ∧ ¬ mg_ok1 (mg_by p (nI (8 * i)))) → o = (.inl (some (.int 0)), h)) →
    ((∀ i, i < m → mg_ok1 (mg_by p (nI (8 * i)))) → ∀ (j' : Nat) (c' : Option Value), j' ≤ 8 → ax_Go (mgT L xs) (d + 2) 13 49 [some (.ref 0), some (.long p), none, some (.int (nI j')), some (.int (-8)), c'] [] h o) →
    ax_Go (mgT L xs) (d + 2) 13 6 [some (.ref 0), some (.long p), none, some (.int (nI j)), some (.int (nI (8 * m) - 8)), c5] [] h o := by
  intro m
  induction m with
  | zero =>
    intro _ j c5 hj bad good
    rw [show nI (8 * 0) - 8 = -8 by decide]
    refine ag_iload (d13_6 L xs) rfl ?_
    refine ag_if_lt (d13_8 L xs) (t := 49) (by decide) (fun _ => ?_) (fun hn => absurd (by decide) hn)
    exact good (fun i hi => absurd hi (Nat.not_lt_zero i)) j c5 (by omega)
  | succ m ih =>
    intro hm j c5 hj bad good
    rw [ty_sv m]
    refine ag_iload (d13_6 L xs) rfl ?_
    refine ag_if_lt (d13_8 L xs) (t := 49) (by decide) (fun hp => absurd hp (nI_pos (by omega))) (fun _ => ?_)
    refine ag_lload_n (d13_11 L xs) rfl ?_
    refine ag_iload (d13_12 L xs) rfl ?_
    refine ag_invs (d13_14 L xs) (kd := 6) (mj := 14) (n := 2) rfl (Or.inl rfl) (xs := [.int (nI (8 * m)), .long p]) (r := []) rfl rfl (Nat.le_of_ble_eq_true rfl) (ty_by L xs (d := d + 1)) ?_
    refine ag_istore (d13_17 L xs) (ls' := [some (.ref 0), some (.long p), none, some (.int (nI j)), some (.int (nI (8 * m))), some (.int (mg_by p (nI (8 * m))))]) (Nat.le_of_ble_eq_true rfl) rfl ?_
    refine ag_iload (d13_19 L xs) rfl ?_
    have tail : ∀ j0, j0 + m ≤ 8 → mg_ok1 (mg_by p (nI (8 * m))) → ax_Go (mgT L xs) (d + 2) 13 43 [some (.ref 0), some (.long p), none, some (.int (nI j0)), some (.int (nI (8 * m))), some (.int (mg_by p (nI (8 * m))))] [] h o := by
      intro j0 hj0 hok
      refine ag_iinc (d13_43 L xs) (y := nI (8 * m) - 8) (ls' := [some (.ref 0), some (.long p), none, some (.int (nI j0)), some (.int (nI (8 * m) - 8)), some (.int (mg_by p (nI (8 * m))))]) rfl (ty_dec _) rfl ?_
      refine ag_goto (d13_46 L xs) (t := 6) (by decide) ?_
      refine ih (by omega) j0 _ hj0 (fun ⟨i, hi, hb⟩ => bad ⟨i, by omega, hb⟩) (fun hg j' c' hj' => good (fun i hi => ?_) j' c' hj')
      rcases Nat.lt_succ_iff_lt_or_eq.mp hi with h1 | rfl
      · exact hg i h1
      · exact hok
    have badend : ¬ mg_ok1 (mg_by p (nI (8 * m))) → ax_Go (mgT L xs) (d + 2) 13 38 [some (.ref 0), some (.long p), none, some (.int (nI j)), some (.int (nI (8 * m))), some (.int (mg_by p (nI (8 * m))))] [] h o := by
      intro hb
      rw [bad ⟨m, by omega, hb⟩]
      refine ag_iconst (d13_38 L xs) (x := 0) (by decide) ?_
      exact ag_iret (d13_39 L xs) rfl rfl
    refine ag_if_eq (d13_21 L xs) (t := 43) (by decide) (fun h0 => tail j (by omega) (Or.inl h0)) (fun h0 => ?_)
    refine ag_iload (d13_24 L xs) rfl ?_
    refine ag_bipush (d13_26 L xs) (x := 32) (by decide) ?_
    refine ag_icmp_lt (d13_28 L xs) (t := 38) (by decide) (fun h1 => badend (fun q => q.elim h0 (fun q => q.1 h1))) (fun h1 => ?_)
    refine ag_iload (d13_31 L xs) rfl ?_
    refine ag_bipush (d13_33 L xs) (x := 126) (by decide) ?_
    refine ag_icmp_le (d13_35 L xs) (t := 40) (by decide) (fun h2 => ?_) (fun h2 => badend (fun q => q.elim h0 (fun q => q.2 (Int32.not_le.mp h2))))
    refine ag_iinc (d13_40 L xs) (y := nI (j + 1)) (ls' := [some (.ref 0), some (.long p), none, some (.int (nI (j + 1))), some (.int (nI (8 * m))), some (.int (mg_by p (nI (8 * m))))]) rfl (nI_1 j) rfl ?_
    exact tail (j + 1) (by omega) (Or.inr ⟨h1, Int32.not_lt.mpr h2⟩)
theorem ty_add {n : Nat} {f : Nat → Int32} {c : Int32} (hn : n < 100) (hz : h.2.1 = 167) (F1 : h.1 1 = some (.inr (1, [.ref 2, .int (nI n)]))) (F2 : h.1 2 = some (.inl (1, 100, .inl f))) :
    ax_Ca (mgT L xs) (d + 1) 16 [.ref 1, .int c] h (.inl none, ax_up (ax_up h 2 (.inl (1, 100, .inl (upd f (nI n).toNatClampNeg (vp_nar .char c))))) 1 (.inr (1, [.ref 2, .int (nI (n + 1))]))) := by
  refine ag_call (Nat.le_of_ble_eq_true rfl) ?_
  show ax_Go (mgT L xs) d 16 0 [some (.ref 1), some (.int c)] [] h _
  refine ag_aload_n (d16_0 L xs) rfl ?_
  refine ag_get (d16_1 L xs) (kd := 1) (cj := 1) (k0 := 1) rfl (Or.inl rfl) F1 rfl ?_
  refine ag_aload_n (d16_4 L xs) rfl ?_
  refine ag_get (d16_5 L xs) (kd := 1) (cj := 1) (k0 := 0) rfl (Or.inl rfl) F1 rfl ?_
  refine ag_alen (d16_8 L xs) F2 (by decide) (Nat.le_of_ble_eq_true rfl) ?_
  refine ag_icmp_ge (d16_9 L xs) (t := 32) (by decide) (fun hp => absurd hp (nI_ge hn (by decide))) (fun _ => ?_)
  refine ag_aload_n (d16_12 L xs) rfl ?_
  refine ag_get (d16_13 L xs) (kd := 1) (cj := 1) (k0 := 0) rfl (Or.inl rfl) F1 rfl ?_
  refine ag_aload_n (d16_16 L xs) rfl ?_
  refine ag_get (d16_17 L xs) (kd := 1) (cj := 1) (k0 := 1) rfl (Or.inl rfl) F1 rfl ?_
  refine ag_iload_n (d16_20 L xs) rfl ?_
  refine ag_cast (d16_21 L xs) F2 (ax_lt hz (Nat.le_of_ble_eq_true rfl)) rfl (vp_in_nI hn (by decide)) ?_
  have F1' : (ax_up h 2 (.inl (1, 100, .inl (upd f (nI n).toNatClampNeg (vp_nar .char c))))).1 1 = some (.inr (1, [.ref 2, .int (nI n)])) := (ax_up_ne _ _ (by decide)).trans F1
  refine ag_aload_n (d16_22 L xs) rfl ?_
  refine ag_dup (d16_23 L xs) rfl ?_
  refine ag_get (d16_24 L xs) (kd := 1) (cj := 1) (k0 := 1) rfl (Or.inl rfl) F1' rfl ?_
  refine ag_iconst (d16_27 L xs) (x := 1) (by decide) ?_
  refine ag_iadd (d16_28 L xs) ?_
  refine ag_top (nI_1 n) ?_
  refine ag_put (d16_29 L xs) (cj := 1) (k0 := 1) rfl F1' (ax_lt hz (Nat.le_of_ble_eq_true rfl)) (Nat.le_of_ble_eq_true rfl) (ax_fi rfl _) rfl ?_
  exact ag_vret (d16_32 L xs) rfl
theorem ty_l2 : ∀ (m : Nat), m ≤ 8 → ∀ (n : Nat) (h : ax_H) (f : Nat → Int32), n + m ≤ 8 → h.2.1 = 167 → h.1 0 = some (.inr (0, [.ref 1, .ref 3, .ref 87, .ref 137])) → h.1 1 = some (.inr (1, [.ref 2, .int (nI n)])) → h.1 2 = some (.inl (1, 100, .inl f)) →
    ∃ h' : ax_H, (∀ (a3 : Int32) (c5 : Option Value), ax_Go (mgT L xs) (d + 2) 13 69 [some (.ref 0), some (.long p), none, some (.int a3), some (.int (nI (8 * m) - 8)), c5] [] h (.inl (some (.int 1)), h')) ∧ h'.2.1 = 167 ∧ h'.2.2.1 = h.2.2.1 ∧ h'.1 141 = h.1 141 ∧ h'.1 142 = h.1 142 := by
  intro m
  induction m with
  | zero =>
    intro _ n h f _ hz F0 F1 F2
    refine ⟨h, fun a3 c5 => ?_, hz, rfl, rfl, rfl⟩
    rw [show nI (8 * 0) - 8 = -8 by decide]
    refine ag_iload (d13_69 L xs) rfl ?_
    refine ag_if_lt (d13_71 L xs) (t := 103) (by decide) (fun _ => ?_) (fun hn => absurd (by decide) hn)
    refine ag_iconst (d13_103 L xs) (x := 1) (by decide) ?_
    exact ag_iret (d13_104 L xs) rfl rfl
  | succ m ih =>
    intro hm n h f hnm hz F0 F1 F2
    have head : ∀ (a3 : Int32) (c5 : Option Value) (o : ax_O), ((mg_by p (nI (8 * m)) = 0) → ax_Go (mgT L xs) (d + 2) 13 97 [some (.ref 0), some (.long p), none, some (.int a3), some (.int (nI (8 * m))), some (.int (mg_by p (nI (8 * m))))] [] h o) → (¬ (mg_by p (nI (8 * m)) = 0) → ax_Go (mgT L xs) (d + 2) 13 87 [some (.ref 0), some (.long p), none, some (.int a3), some (.int (nI (8 * m))), some (.int (mg_by p (nI (8 * m))))] [] h o) →
        ax_Go (mgT L xs) (d + 2) 13 69 [some (.ref 0), some (.long p), none, some (.int a3), some (.int (nI (8 * (m + 1)) - 8)), c5] [] h o := by
      intro a3 c5 o k0 k1
      rw [ty_sv m]
      refine ag_iload (d13_69 L xs) rfl ?_
      refine ag_if_lt (d13_71 L xs) (t := 103) (by decide) (fun hp => absurd hp (nI_pos (by omega))) (fun _ => ?_)
      refine ag_lload_n (d13_74 L xs) rfl ?_
      refine ag_iload (d13_75 L xs) rfl ?_
      refine ag_invs (d13_77 L xs) (kd := 6) (mj := 14) (n := 2) rfl (Or.inl rfl) (xs := [.int (nI (8 * m)), .long p]) (r := []) rfl rfl (Nat.le_of_ble_eq_true rfl) (ty_by L xs (d := d + 1)) ?_
      refine ag_istore (d13_80 L xs) (ls' := [some (.ref 0), some (.long p), none, some (.int a3), some (.int (nI (8 * m))), some (.int (mg_by p (nI (8 * m))))]) (Nat.le_of_ble_eq_true rfl) rfl ?_
      refine ag_iload (d13_82 L xs) rfl ?_
      exact ag_if_eq (d13_84 L xs) (t := 97) (by decide) k0 k1
    have tail : ∀ (a3 : Int32) (h2 : ax_H) (o : ax_O), ax_Go (mgT L xs) (d + 2) 13 69 [some (.ref 0), some (.long p), none, some (.int a3), some (.int (nI (8 * m) - 8)), some (.int (mg_by p (nI (8 * m))))] [] h2 o → ax_Go (mgT L xs) (d + 2) 13 97 [some (.ref 0), some (.long p), none, some (.int a3), some (.int (nI (8 * m))), some (.int (mg_by p (nI (8 * m))))] [] h2 o := by
      intro a3 h2 o k
      refine ag_iinc (d13_97 L xs) (y := nI (8 * m) - 8) (ls' := [some (.ref 0), some (.long p), none, some (.int a3), some (.int (nI (8 * m) - 8)), some (.int (mg_by p (nI (8 * m))))]) rfl (ty_dec _) rfl ?_
      exact ag_goto (d13_100 L xs) (t := 69) (by decide) k
    by_cases h0 : mg_by p (nI (8 * m)) = 0
    · obtain ⟨h', g, q⟩ := ih (by omega) n h f (by omega) hz F0 F1 F2
      exact ⟨h', fun a3 c5 => head a3 c5 _ (fun _ => tail a3 h _ (g a3 _)) (fun hn => absurd h0 hn), q⟩
    · obtain ⟨h', g, q1, q2, q3, q4⟩ := ih (by omega) (n + 1) (ax_up (ax_up h 2 (.inl (1, 100, .inl (upd f (nI n).toNatClampNeg (vp_nar .char ((mg_by p (nI (8 * m))).toUInt32 % 65536).toInt32))))) 1 (.inr (1, [.ref 2, .int (nI (n + 1))]))) _ (by omega) hz ((ax_up_ne _ _ (by decide)).trans ((ax_up_ne _ _ (by decide)).trans F0)) (ax_up_at _ _ _) ((ax_up_ne _ _ (by decide)).trans (ax_up_at _ _ _))
      refine ⟨h', fun a3 c5 => head a3 c5 _ (fun hp => absurd hp h0) (fun _ => ?_), q1, q2, q3.trans ((ax_up_ne _ _ (by decide)).trans (ax_up_ne _ _ (by decide))), q4.trans ((ax_up_ne _ _ (by decide)).trans (ax_up_ne _ _ (by decide)))⟩
      refine ag_aload_n (d13_87 L xs) rfl ?_
      refine ag_get (d13_88 L xs) (kd := 1) (cj := 0) (k0 := 0) rfl (Or.inl rfl) F0 rfl ?_
      refine ag_iload (d13_91 L xs) rfl ?_
      refine ag_i2c (d13_93 L xs) ?_
      refine ag_invv (d13_94 L xs) (kd := 7) (mj := 16) (n := 1) rfl (Or.inl rfl) (xs := [.int ((mg_by p (nI (8 * m))).toUInt32 % 65536).toInt32]) (r := []) rfl rfl F1 rfl (Nat.le_of_ble_eq_true rfl) (ty_add L xs (d := d + 1) (n := n) (by omega) hz F1 F2) ?_
      exact tail a3 _ _ (g a3 _)
theorem ty_size (F1 : h.1 1 = some (.inr (1, [.ref 2, .int 0]))) : ax_Ca (mgT L xs) (d + 1) 15 [.ref 1] h (.inl (some (.int 0)), h) := by
  refine ag_call (Nat.le_of_ble_eq_true rfl) ?_
  show ax_Go (mgT L xs) d 15 0 [some (.ref 1)] [] h _
  refine ag_aload_n (d15_0 L xs) rfl ?_
  refine ag_get (d15_1 L xs) (kd := 1) (cj := 1) (k0 := 1) rfl (Or.inl rfl) F1 rfl ?_
  exact ag_iret (d15_4 L xs) rfl rfl
/-- type of the class on a fresh text -/
theorem ty_x {f : Nat → Int32} (hz : h.2.1 = 167) (F0 : h.1 0 = some (.inr (0, [.ref 1, .ref 3, .ref 87, .ref 137]))) (F1 : h.1 1 = some (.inr (1, [.ref 2, .int 0]))) (F2 : h.1 2 = some (.inl (1, 100, .inl f))) :
    ((∀ i, i < 8 → mg_ok1 (mg_by p (nI (8 * i)))) → ∃ h' : ax_H, ax_Ca (mgT L xs) (d + 3) 13 [.ref 0, .long p] h (.inl (some (.int 1)), h') ∧ h'.2.1 = 167 ∧ h'.2.2.1 = h.2.2.1 ∧ h'.1 141 = h.1 141 ∧ h'.1 142 = h.1 142) ∧
    ((∃ i, i < 8 ∧ ¬ mg_ok1 (mg_by p (nI (8 * i)))) → ax_Ca (mgT L xs) (d + 3) 13 [.ref 0, .long p] h (.inl (some (.int 0)), h)) := by
  have start : ∀ o, ax_Go (mgT L xs) (d + 2) 13 6 [some (.ref 0), some (.long p), none, some (.int (nI 0)), some (.int (nI (8 * 8) - 8)), none] [] h o → ax_Go (mgT L xs) (d + 2) 13 0 [some (.ref 0), some (.long p), none, none, none, none] [] h o := by
    intro o k
    rw [show nI (8 * 8) - 8 = 56 by decide] at k
    refine ag_iconst (d13_0 L xs) (x := 0) (by decide) ?_
    refine ag_istore_n (d13_1 L xs) (ls' := [some (.ref 0), some (.long p), none, some (.int 0), none, none]) (Nat.le_of_ble_eq_true rfl) rfl ?_
    refine ag_bipush (d13_2 L xs) (x := 56) (by decide) ?_
    refine ag_istore (d13_4 L xs) (ls' := [some (.ref 0), some (.long p), none, some (.int 0), some (.int 56), none]) (Nat.le_of_ble_eq_true rfl) rfl ?_
    exact k
  constructor
  · intro hg
    obtain ⟨h', g, q⟩ := ty_l2 L xs (d := d) (p := p) 8 (by omega) 0 h f (by omega) hz F0 F1 F2
    refine ⟨h', ?_, q⟩
    refine ag_call (Nat.le_of_ble_eq_true rfl) ?_
    refine start _ (ty_l1 L xs _ 8 (by omega) 0 none (by omega) (fun ⟨i, hi, hb⟩ => absurd (hg i hi) hb) (fun _ j' c' hj' => ?_))
    refine ag_aload_n (d13_49 L xs) rfl ?_
    refine ag_get (d13_50 L xs) (kd := 1) (cj := 0) (k0 := 0) rfl (Or.inl rfl) F0 rfl ?_
    refine ag_invv (d13_53 L xs) (kd := 7) (mj := 15) (n := 0) rfl (Or.inl rfl) (xs := []) (r := []) rfl rfl F1 rfl (Nat.le_of_ble_eq_true rfl) (ty_size L xs (d := d + 1) F1) ?_
    refine ag_iload_n (d13_56 L xs) rfl ?_
    refine ag_iadd (d13_57 L xs) ?_
    refine ag_top (Int32.zero_add _) ?_
    refine ag_bipush (d13_58 L xs) (x := 100) (by decide) ?_
    refine ag_icmp_le (d13_60 L xs) (t := 65) (by decide) (fun _ => ?_) (fun hn => absurd (nI_le (show j' ≤ 100 by omega) (by decide)) hn)
    refine ag_bipush (d13_65 L xs) (x := 56) (by decide) ?_
    refine ag_istore (d13_67 L xs) (ls' := [some (.ref 0), some (.long p), none, some (.int (nI j')), some (.int 56), c']) (Nat.le_of_ble_eq_true rfl) rfl ?_
    have g := g (nI j') c'
    rw [show nI (8 * 8) - 8 = 56 by decide] at g
    exact g
  · intro hb
    refine ag_call (Nat.le_of_ble_eq_true rfl) ?_
    exact start _ (ty_l1 L xs _ 8 (by omega) 0 none (by omega) (fun _ => rfl) (fun hg => absurd hb (fun ⟨i, hi, hb⟩ => hb (hg i hi))))
end TY
end
section
/-! type of the reference, on a fresh text -/
theorem ty_s1 (m : Nat) : nI (m + 1) - 1 = nI m := by
  have h := pk_sub (a := m + 1) (b := 1) (by omega)
  rw [show m + 1 - 1 = m by omega] at h
  exact h
theorem ty_d1 (x : Int32) : x + Int32.ofInt (-1) = x - 1 := by rw [Int32.sub_eq_add_neg]; rfl
section TM
variable (L : Nat) (xs : Nat → Int32) {d : Nat} {p : Int64} {t : Value} {r : List Value}
/-- the loop with m bytes to go: some byte is bad -/
theorem tm_bad : ∀ (m : Nat), m ≤ 8 → (∃ i, i < m ∧ ¬ mg_ok1 (mg_bm p (nI i))) → ∀ (n : Nat) (h : ax_H) (f : Nat → Int32), n + m ≤ 8 → h.2.1 = 167 → h.1 141 = some (.inr (9, t :: .int 0 :: .ref 142 :: r)) → h.1 142 = some (.inl (0, 100, .inl f)) →
    ∃ h' : ax_H, (∀ (c5 : Option Value), ax_Go (mgT L xs) d 106 14 [some (.ref 141), some (.long p), none, some (.int (nI n)), some (.int (nI m - 1)), c5] [] h (.inl (some (.int 0)), h')) ∧ h'.2.1 = 167 ∧ h'.2.2.1 = h.2.2.1 := by
  intro m
  induction m with
  | zero => intro _ ⟨i, hi, _⟩; exact absurd hi (Nat.not_lt_zero i)
  | succ m ih =>
    intro hm hb n h f hnm hz F1 F2
    have head : ∀ (c5 : Option Value) (o : ax_O), ax_Go (mgT L xs) d 106 33 [some (.ref 141), some (.long p), none, some (.int (nI n)), some (.int (nI m)), some (.int (mg_bm p (nI m)))] [] h o → ax_Go (mgT L xs) d 106 14 [some (.ref 141), some (.long p), none, some (.int (nI n)), some (.int (nI (m + 1) - 1)), c5] [] h o := by
      intro c5 o k
      rw [ty_s1 m]
      refine ag_iload (d106_14 L xs) rfl ?_
      refine ag_if_lt (d106_16 L xs) (t := 82) (by decide) (fun hp => absurd hp (nI_pos (by omega))) (fun _ => ?_)
      refine ag_lload_n (d106_19 L xs) rfl ?_
      refine ag_bipush (d106_20 L xs) (x := 8) (by decide) ?_
      refine ag_iload (d106_22 L xs) rfl ?_
      refine ag_imul (d106_24 L xs) ?_
      refine ag_lshr (d106_25 L xs) ?_
      refine ag_l2i (d106_26 L xs) ?_
      refine ag_sipush (d106_27 L xs) (x := 255) (by decide) ?_
      refine ag_iand (d106_30 L xs) ?_
      exact ag_istore (d106_31 L xs) (ls' := [some (.ref 141), some (.long p), none, some (.int (nI n)), some (.int (nI m)), some (.int (mg_bm p (nI m)))]) (Nat.le_of_ble_eq_true rfl) rfl k
    have tail : ∀ (n2 : Nat) (h2 : ax_H) (o : ax_O), ax_Go (mgT L xs) d 106 14 [some (.ref 141), some (.long p), none, some (.int (nI n2)), some (.int (nI m - 1)), some (.int (mg_bm p (nI m)))] [] h2 o → ax_Go (mgT L xs) d 106 76 [some (.ref 141), some (.long p), none, some (.int (nI n2)), some (.int (nI m)), some (.int (mg_bm p (nI m)))] [] h2 o := by
      intro n2 h2 o k
      refine ag_iinc (d106_76 L xs) (y := nI m - 1) (ls' := [some (.ref 141), some (.long p), none, some (.int (nI n2)), some (.int (nI m - 1)), some (.int (mg_bm p (nI m)))]) rfl (ty_d1 _) rfl ?_
      exact ag_goto (d106_79 L xs) (t := 14) (by decide) k
    by_cases h0 : mg_bm p (nI m) = 0
    · have hb' : ∃ i, i < m ∧ ¬ mg_ok1 (mg_bm p (nI i)) := by
        obtain ⟨i, hi, hq⟩ := hb
        rcases Nat.lt_succ_iff_lt_or_eq.mp hi with h1 | rfl
        · exact ⟨i, h1, hq⟩
        · exact absurd (Or.inl h0) hq
      obtain ⟨h', g, q⟩ := ih (by omega) hb' n h f (by omega) hz F1 F2
      refine ⟨h', fun c5 => head c5 _ ?_, q⟩
      refine ag_iload (d106_33 L xs) rfl ?_
      refine ag_if_eq (d106_35 L xs) (t := 60) (by decide) (fun _ => ?_) (fun hn => absurd h0 hn)
      refine ag_iload (d106_60 L xs) rfl ?_
      refine ag_if_eq (d106_62 L xs) (t := 76) (by decide) (fun _ => ?_) (fun hn => absurd h0 hn)
      exact tail n h _ (g _)
    · by_cases hq : mg_bm p (nI m) < 32 ∨ 126 < mg_bm p (nI m)
      · refine ⟨h, fun c5 => head c5 _ ?_, hz, rfl⟩
        refine ag_iload (d106_33 L xs) rfl ?_
        refine ag_if_eq (d106_35 L xs) (t := 60) (by decide) (fun hp => absurd hp h0) (fun _ => ?_)
        have fin : ax_Go (mgT L xs) d 106 58 [some (.ref 141), some (.long p), none, some (.int (nI n)), some (.int (nI m)), some (.int (mg_bm p (nI m)))] [] h (.inl (some (.int 0)), h) := by
          refine ag_iconst (d106_58 L xs) (x := 0) (by decide) ?_
          exact ag_iret (d106_59 L xs) rfl rfl
        refine ag_iload (d106_38 L xs) rfl ?_
        refine ag_bipush (d106_40 L xs) (x := 32) (by decide) ?_
        refine ag_icmp_lt (d106_42 L xs) (t := 58) (by decide) (fun _ => fin) (fun h1 => ?_)
        refine ag_iload (d106_45 L xs) rfl ?_
        refine ag_bipush (d106_47 L xs) (x := 126) (by decide) ?_
        exact ag_icmp_gt (d106_49 L xs) (t := 58) (by decide) (fun _ => fin) (fun h2 => absurd hq (fun q => q.elim h1 h2))
      · have hb' : ∃ i, i < m ∧ ¬ mg_ok1 (mg_bm p (nI i)) := by
          obtain ⟨i, hi, hq'⟩ := hb
          rcases Nat.lt_succ_iff_lt_or_eq.mp hi with h1 | rfl
          · exact ⟨i, h1, hq'⟩
          · exact absurd (Or.inr ⟨fun q => hq (Or.inl q), fun q => hq (Or.inr q)⟩) hq'
        obtain ⟨h', g, q1, q2⟩ := ih (by omega) hb' (n + 1) (ax_up h 142 (.inl (0, 100, .inl (upd f (nI n).toNatClampNeg (mg_bm p (nI m)))))) _ (by omega) hz ((ax_up_ne _ _ (by decide)).trans F1) (ax_up_at _ _ _)
        refine ⟨h', fun c5 => head c5 _ ?_, q1, q2⟩
        refine ag_iload (d106_33 L xs) rfl ?_
        refine ag_if_eq (d106_35 L xs) (t := 60) (by decide) (fun hp => absurd hp h0) (fun _ => ?_)
        refine ag_iload (d106_38 L xs) rfl ?_
        refine ag_bipush (d106_40 L xs) (x := 32) (by decide) ?_
        refine ag_icmp_lt (d106_42 L xs) (t := 58) (by decide) (fun h1 => absurd (Or.inl h1) hq) (fun _ => ?_)
        refine ag_iload (d106_45 L xs) rfl ?_
        refine ag_bipush (d106_47 L xs) (x := 126) (by decide) ?_
        refine ag_icmp_gt (d106_49 L xs) (t := 58) (by decide) (fun h1 => absurd (Or.inr h1) hq) (fun _ => ?_)
        refine ag_iload_n (d106_52 L xs) rfl ?_
        refine ag_bipush (d106_53 L xs) (x := 100) (by decide) ?_
        refine ag_icmp_ne (d106_55 L xs) (t := 60) (by decide) (fun _ => ?_) (fun hn => absurd (fun e => absurd ((nI_eq (by omega) (by decide)).mp (e : nI n = nI 100)) (by omega)) hn)
        refine ag_iload (d106_60 L xs) rfl ?_
        refine ag_if_eq (d106_62 L xs) (t := 76) (by decide) (fun hp => absurd hp h0) (fun _ => ?_)
        refine ag_aload_n (d106_65 L xs) rfl ?_
        refine ag_get (d106_66 L xs) (kd := 1) (cj := 9) (k0 := 2) rfl (Or.inl rfl) F1 rfl ?_
        refine ag_iload_n (d106_69 L xs) rfl ?_
        refine ag_iload (d106_70 L xs) rfl ?_
        refine ag_iast (d106_72 L xs) F2 (ax_lt hz (Nat.le_of_ble_eq_true rfl)) rfl (vp_in_nI (show n < 100 by omega) (by decide)) ?_
        refine ag_iinc (d106_73 L xs) (y := nI (n + 1)) (ls' := [some (.ref 141), some (.long p), none, some (.int (nI (n + 1))), some (.int (nI m)), some (.int (mg_bm p (nI m)))]) rfl (nI_1 n) rfl ?_
        exact tail (n + 1) _ _ (g _)
/-- no byte is bad -/
theorem tm_good : ∀ (m : Nat), m ≤ 8 → (∀ i, i < m → mg_ok1 (mg_bm p (nI i))) → ∀ (n : Nat) (h : ax_H) (f : Nat → Int32), n + m ≤ 8 → h.2.1 = 167 → h.1 141 = some (.inr (9, t :: .int 0 :: .ref 142 :: r)) → h.1 142 = some (.inl (0, 100, .inl f)) →
    ∃ h' : ax_H, (∀ (c5 : Option Value), ax_Go (mgT L xs) d 106 14 [some (.ref 141), some (.long p), none, some (.int (nI n)), some (.int (nI m - 1)), c5] [] h (.inl (some (.int 1)), h')) ∧ h'.2.1 = 167 ∧ h'.2.2.1 = h.2.2.1 := by
  intro m
  induction m with
  | zero =>
    intro _ _ n h f _ hz F1 F2
    refine ⟨ax_up h 141 (.inr (9, t :: .int (nI n) :: .ref 142 :: r)), fun c5 => ?_, hz, rfl⟩
    rw [show nI 0 - 1 = -1 by decide]
    refine ag_iload (d106_14 L xs) rfl ?_
    refine ag_if_lt (d106_16 L xs) (t := 82) (by decide) (fun _ => ?_) (fun hn => absurd (by decide) hn)
    refine ag_aload_n (d106_82 L xs) rfl ?_
    refine ag_iload_n (d106_83 L xs) rfl ?_
    refine ag_put (d106_84 L xs) (cj := 9) (k0 := 1) rfl F1 (ax_lt hz (Nat.le_of_ble_eq_true rfl)) (by simp) (ax_fi rfl _) rfl ?_
    refine ag_iconst (d106_87 L xs) (x := 1) (by decide) ?_
    exact ag_iret (d106_88 L xs) rfl rfl
  | succ m ih =>
    intro hm hb n h f hnm hz F1 F2
    have head : ∀ (c5 : Option Value) (o : ax_O), ax_Go (mgT L xs) d 106 33 [some (.ref 141), some (.long p), none, some (.int (nI n)), some (.int (nI m)), some (.int (mg_bm p (nI m)))] [] h o → ax_Go (mgT L xs) d 106 14 [some (.ref 141), some (.long p), none, some (.int (nI n)), some (.int (nI (m + 1) - 1)), c5] [] h o := by
      intro c5 o k
      rw [ty_s1 m]
      refine ag_iload (d106_14 L xs) rfl ?_
      refine ag_if_lt (d106_16 L xs) (t := 82) (by decide) (fun hp => absurd hp (nI_pos (by omega))) (fun _ => ?_)
      refine ag_lload_n (d106_19 L xs) rfl ?_
      refine ag_bipush (d106_20 L xs) (x := 8) (by decide) ?_
      refine ag_iload (d106_22 L xs) rfl ?_
      refine ag_imul (d106_24 L xs) ?_
      refine ag_lshr (d106_25 L xs) ?_
      refine ag_l2i (d106_26 L xs) ?_
      refine ag_sipush (d106_27 L xs) (x := 255) (by decide) ?_
      refine ag_iand (d106_30 L xs) ?_
      exact ag_istore (d106_31 L xs) (ls' := [some (.ref 141), some (.long p), none, some (.int (nI n)), some (.int (nI m)), some (.int (mg_bm p (nI m)))]) (Nat.le_of_ble_eq_true rfl) rfl k
    have tail : ∀ (n2 : Nat) (h2 : ax_H) (o : ax_O), ax_Go (mgT L xs) d 106 14 [some (.ref 141), some (.long p), none, some (.int (nI n2)), some (.int (nI m - 1)), some (.int (mg_bm p (nI m)))] [] h2 o → ax_Go (mgT L xs) d 106 76 [some (.ref 141), some (.long p), none, some (.int (nI n2)), some (.int (nI m)), some (.int (mg_bm p (nI m)))] [] h2 o := by
      intro n2 h2 o k
      refine ag_iinc (d106_76 L xs) (y := nI m - 1) (ls' := [some (.ref 141), some (.long p), none, some (.int (nI n2)), some (.int (nI m - 1)), some (.int (mg_bm p (nI m)))]) rfl (ty_d1 _) rfl ?_
      exact ag_goto (d106_79 L xs) (t := 14) (by decide) k
    have hbm : ∀ i, i < m → mg_ok1 (mg_bm p (nI i)) := fun i hi => hb i (by omega)
    by_cases h0 : mg_bm p (nI m) = 0
    · obtain ⟨h', g, q⟩ := ih (by omega) hbm n h f (by omega) hz F1 F2
      refine ⟨h', fun c5 => head c5 _ ?_, q⟩
      refine ag_iload (d106_33 L xs) rfl ?_
      refine ag_if_eq (d106_35 L xs) (t := 60) (by decide) (fun _ => ?_) (fun hn => absurd h0 hn)
      refine ag_iload (d106_60 L xs) rfl ?_
      refine ag_if_eq (d106_62 L xs) (t := 76) (by decide) (fun _ => ?_) (fun hn => absurd h0 hn)
      exact tail n h _ (g _)
    · have hq := (hb m (by omega)).resolve_left h0
      obtain ⟨h', g, q1, q2⟩ := ih (by omega) hbm (n + 1) (ax_up h 142 (.inl (0, 100, .inl (upd f (nI n).toNatClampNeg (mg_bm p (nI m)))))) _ (by omega) hz ((ax_up_ne _ _ (by decide)).trans F1) (ax_up_at _ _ _)
      refine ⟨h', fun c5 => head c5 _ ?_, q1, q2⟩
      refine ag_iload (d106_33 L xs) rfl ?_
      refine ag_if_eq (d106_35 L xs) (t := 60) (by decide) (fun hp => absurd hp h0) (fun _ => ?_)
      refine ag_iload (d106_38 L xs) rfl ?_
      refine ag_bipush (d106_40 L xs) (x := 32) (by decide) ?_
      refine ag_icmp_lt (d106_42 L xs) (t := 58) (by decide) (fun h1 => absurd h1 hq.1) (fun _ => ?_)
      refine ag_iload (d106_45 L xs) rfl ?_
      refine ag_bipush (d106_47 L xs) (x := 126) (by decide) ?_
      refine ag_icmp_gt (d106_49 L xs) (t := 58) (by decide) (fun h1 => absurd h1 hq.2) (fun _ => ?_)
      refine ag_iload_n (d106_52 L xs) rfl ?_
      refine ag_bipush (d106_53 L xs) (x := 100) (by decide) ?_
      refine ag_icmp_ne (d106_55 L xs) (t := 60) (by decide) (fun _ => ?_) (fun hn => absurd (fun e => absurd ((nI_eq (by omega) (by decide)).mp (e : nI n = nI 100)) (by omega)) hn)
      refine ag_iload (d106_60 L xs) rfl ?_
      refine ag_if_eq (d106_62 L xs) (t := 76) (by decide) (fun hp => absurd hp h0) (fun _ => ?_)
      refine ag_aload_n (d106_65 L xs) rfl ?_
      refine ag_get (d106_66 L xs) (kd := 1) (cj := 9) (k0 := 2) rfl (Or.inl rfl) F1 rfl ?_
      refine ag_iload_n (d106_69 L xs) rfl ?_
      refine ag_iload (d106_70 L xs) rfl ?_
      refine ag_iast (d106_72 L xs) F2 (ax_lt hz (Nat.le_of_ble_eq_true rfl)) rfl (vp_in_nI (show n < 100 by omega) (by decide)) ?_
      refine ag_iinc (d106_73 L xs) (y := nI (n + 1)) (ls' := [some (.ref 141), some (.long p), none, some (.int (nI (n + 1))), some (.int (nI m)), some (.int (mg_bm p (nI m)))]) rfl (nI_1 n) rfl ?_
      exact tail (n + 1) _ _ (g _)
theorem ty_m {h : ax_H} {f : Nat → Int32} (hz : h.2.1 = 167) (F1 : h.1 141 = some (.inr (9, t :: .int 0 :: .ref 142 :: r))) (F2 : h.1 142 = some (.inl (0, 100, .inl f))) :
    ((∀ i, i < 8 → mg_ok1 (mg_bm p (nI i))) → ∃ h' : ax_H, ax_Ca (mgT L xs) (d + 1) 106 [.ref 141, .long p] h (.inl (some (.int 1)), h') ∧ h'.2.1 = 167 ∧ h'.2.2.1 = h.2.2.1) ∧
    ((∃ i, i < 8 ∧ ¬ mg_ok1 (mg_bm p (nI i))) → ∃ h' : ax_H, ax_Ca (mgT L xs) (d + 1) 106 [.ref 141, .long p] h (.inl (some (.int 0)), h') ∧ h'.2.1 = 167 ∧ h'.2.2.1 = h.2.2.1) := by
  have start : ∀ o, ax_Go (mgT L xs) d 106 14 [some (.ref 141), some (.long p), none, some (.int (nI 0)), some (.int (nI 8 - 1)), none] [] (ax_up h 141 (.inr (9, .int 0 :: .int 0 :: .ref 142 :: r))) o → ax_Go (mgT L xs) d 106 0 [some (.ref 141), some (.long p), none, none, none, none] [] h o := by
    intro o k
    rw [show nI 8 - 1 = 7 by decide] at k
    refine ag_aload_n (d106_0 L xs) rfl ?_
    refine ag_iconst (d106_1 L xs) (x := 0) (by decide) ?_
    refine ag_put (d106_2 L xs) (cj := 9) (k0 := 0) rfl F1 (ax_lt hz (Nat.le_of_ble_eq_true rfl)) (by simp) rfl rfl ?_
    refine ag_aload_n (d106_5 L xs) rfl ?_
    refine ag_get (d106_6 L xs) (kd := 1) (cj := 9) (k0 := 1) rfl (Or.inl rfl) (ax_up_at _ _ _) rfl ?_
    refine ag_istore_n (d106_9 L xs) (ls' := [some (.ref 141), some (.long p), none, some (.int 0), none, none]) (Nat.le_of_ble_eq_true rfl) rfl ?_
    refine ag_bipush (d106_10 L xs) (x := 7) (by decide) ?_
    refine ag_istore (d106_12 L xs) (ls' := [some (.ref 141), some (.long p), none, some (.int 0), some (.int 7), none]) (Nat.le_of_ble_eq_true rfl) rfl ?_
    exact k
  constructor
  · intro hg
    obtain ⟨h', g, q⟩ := tm_good L xs (d := d) (p := p) (t := .int 0) (r := r) 8 (by omega) hg 0 (ax_up h 141 (.inr (9, .int 0 :: .int 0 :: .ref 142 :: r))) f (by omega) hz (ax_up_at _ _ _) ((ax_up_ne _ _ (by decide)).trans F2)
    exact ⟨h', ag_call (Nat.le_of_ble_eq_true rfl) (start _ (g _)), q⟩
  · intro hb
    obtain ⟨h', g, q⟩ := tm_bad L xs (d := d) (p := p) (t := .int 0) (r := r) 8 (by omega) hb 0 (ax_up h 141 (.inr (9, .int 0 :: .int 0 :: .ref 142 :: r))) f (by omega) hz (ax_up_at _ _ _) ((ax_up_ne _ _ (by decide)).trans F2)
    exact ⟨h', ag_call (Nat.le_of_ble_eq_true rfl) (start _ (g _)), q⟩
end TM
end
section
/-! p1: the law on scripts of at most three ints -/
def mg_fin (L : Nat) (xs : Nat → Int32) (h : ax_H) : Prop := ∃ h1 : ax_H, ax_Go (mgT L xs) 8 0 23 [some (.ref ax_big), some (.ref 0), some (.ref 141), some (.ref 166), some (.int 0), none, none] [] h (.inl (some (.int 1)), h1) ∧ h1.2.1 ≤ 168 ∧ h1.2.2.1 ≤ 7918
theorem mg_sz0 {h : ax_H} (hz : h.2.1 = 167) (hs : h.2.2.1 = 7912) (h1 : ax_H) (e1 : h1.2.1 = h.2.1) (e2 : h1.2.2.1 = h.2.2.1) : h1.2.1 ≤ 168 ∧ h1.2.2.1 ≤ 7918 := by omega
theorem mg_sz1 {h : ax_H} (hz : h.2.1 = 167) (hs : h.2.2.1 = 7912) (h1 : ax_H) (e1 : h1.2.1 = h.2.1 + 1) (e2 : h1.2.2.1 = h.2.2.1 + 6) : h1.2.1 ≤ 168 ∧ h1.2.2.1 ≤ 7918 := by omega
theorem mg_f0 (xs : Nat → Int32) {h : ax_H} (F : mg_fr h) : mg_fin 0 xs h := by
  obtain ⟨hz, hs, -⟩ := F
  exact ⟨_, z0_128 xs (d := 8) hz, mg_sz0 hz hs _ rfl rfl⟩
theorem mg_f1 (xs : Nat → Int32) {h : ax_H} (F : mg_fr h) : mg_fin 1 xs h := by
  obtain ⟨hz, hs, -⟩ := F
  exact ⟨_, z0_129 xs (d := 8) hz, mg_sz0 hz hs _ rfl rfl⟩
theorem mg_f2 (xs : Nat → Int32) {h : ax_H} (F : mg_fr h) : mg_fin 2 xs h := by
  obtain ⟨hz, hs, -⟩ := F
  exact ⟨_, z0_130 xs (d := 8) hz, mg_sz0 hz hs _ rfl rfl⟩
theorem mg_j1 (xs : Nat → Int32) {h : ax_H} (F : mg_fr h) (hj : xs 0 &&& 15 = 1) : mg_fin 3 xs h := by
  obtain ⟨hz, hs, F0, F1, F3, F5, F87, F141, -, -⟩ := F
  exact ⟨_, z0_47 xs (d := 6) (hs0 := rfl) (hz := hz) (F0 := F0) (F1 := F1) (F141 := F141) (hj := hj), mg_sz0 hz hs _ rfl rfl⟩
theorem mg_j2 (xs : Nat → Int32) {h : ax_H} (F : mg_fr h) (hj : xs 0 &&& 15 = 2) : mg_fin 3 xs h := by
  obtain ⟨hz, hs, F0, F1, F3, F5, F87, F141, -, -⟩ := F
  exact ⟨_, z0_48 xs (d := 6) (hs0 := rfl) (hz := hz) (F0 := F0) (F1 := F1) (F141 := F141) (hj := hj), mg_sz0 hz hs _ rfl rfl⟩
theorem mg_j3 (xs : Nat → Int32) {h : ax_H} (F : mg_fr h) (hj : xs 0 &&& 15 = 3) : mg_fin 3 xs h := by
  obtain ⟨hz, hs, F0, F1, F3, F5, F87, F141, -, -⟩ := F
  by_cases hc_3 : xs 1 < 0
  · exact ⟨_, z0_63 xs (d := 4) (hs0 := rfl) (hs1 := rfl) (hz := hz) (F0 := F0) (F1 := F1) (F141 := F141) (hc_3 := hc_3) (hj := hj), mg_sz1 hz hs _ rfl rfl⟩
  · by_cases hc_4 : 4 < xs 1
    · exact ⟨_, z0_77 xs (d := 4) (hs0 := rfl) (hs1 := rfl) (hz := hz) (F0 := F0) (F1 := F1) (F141 := F141) (hc_3 := hc_3) (hc_4 := hc_4) (hj := hj), mg_sz1 hz hs _ rfl rfl⟩
    · exact ⟨_, z0_85 xs (d := 4) (hs0 := rfl) (hs1 := rfl) (hz := hz) (F0 := F0) (F1 := F1) (F141 := F141) (hc_3 := hc_3) (hc_4 := hc_4) (hj := hj), mg_sz1 hz hs _ rfl rfl⟩
theorem mg_j4 (xs : Nat → Int32) {h : ax_H} (F : mg_fr h) (hj : xs 0 &&& 15 = 4) : mg_fin 3 xs h := by
  obtain ⟨hz, hs, F0, F1, F3, F5, F87, F141, -, -⟩ := F
  by_cases hc_3 : xs 1 < 0
  · exact ⟨_, z0_91 xs (d := 6) (hs0 := rfl) (hs1 := rfl) (hz := hz) (F0 := F0) (F3 := F3) (F141 := F141) (hc_3 := hc_3) (hj := hj), mg_sz0 hz hs _ rfl rfl⟩
  · exact ⟨_, z0_93 xs (d := 6) (hs0 := rfl) (hs1 := rfl) (hz := hz) (F0 := F0) (F3 := F3) (F141 := F141) (hc_3 := hc_3) (hj := hj), mg_sz0 hz hs _ rfl rfl⟩
theorem mg_j5 (xs : Nat → Int32) {h : ax_H} (F : mg_fr h) (hj : xs 0 &&& 15 = 5) : mg_fin 3 xs h := by
  obtain ⟨hz, hs, F0, F1, F3, F5, F87, F141, -, -⟩ := F
  exact ⟨_, z0_99 xs (d := 4) (hs0 := rfl) (hs1 := rfl) (hz := hz) (F0 := F0) (F1 := F1) (F141 := F141) (hj := hj), mg_sz1 hz hs _ rfl rfl⟩
theorem mg_j6 (xs : Nat → Int32) {h : ax_H} (F : mg_fr h) (hj : xs 0 &&& 15 = 6) : mg_fin 3 xs h := by
  obtain ⟨hz, hs, F0, F1, F3, F5, F87, F141, -, -⟩ := F
  exact ⟨_, z0_102 xs (d := 6) (hs0 := rfl) (hs1 := rfl) (hz := hz) (F0 := F0) (F87 := F87) (F141 := F141) (hj := hj), mg_sz0 hz hs _ rfl rfl⟩
theorem mg_j7 (xs : Nat → Int32) {h : ax_H} (F : mg_fr h) (hj : xs 0 &&& 15 = 7) : mg_fin 3 xs h := by
  obtain ⟨hz, hs, F0, F1, F3, F5, F87, F141, -, -⟩ := F
  exact ⟨_, z0_105 xs (d := 6) (hs0 := rfl) (hs1 := rfl) (hz := hz) (F0 := F0) (F3 := F3) (F5 := F5) (F141 := F141) (hj := hj), mg_sz0 hz hs _ rfl rfl⟩
theorem mg_j8 (xs : Nat → Int32) {h : ax_H} (F : mg_fr h) (hj : xs 0 &&& 15 = 8) : mg_fin 3 xs h := by
  obtain ⟨hz, hs, F0, F1, F3, F5, F87, F141, -, -⟩ := F
  exact ⟨_, z0_109 xs (d := 4) (hs0 := rfl) (hs1 := rfl) (hz := hz) (F0 := F0) (F1 := F1) (F141 := F141) (hj := hj), mg_sz1 hz hs _ rfl rfl⟩
theorem mg_j9 (xs : Nat → Int32) {h : ax_H} (F : mg_fr h) (hj : xs 0 &&& 15 = 9) : mg_fin 3 xs h := by
  obtain ⟨hz, hs, F0, F1, F3, F5, F87, F141, -, -⟩ := F
  by_cases hc_5 : xs 1 = (-1)
  · exact ⟨_, z0_117 xs (d := 6) (hs0 := rfl) (hs1 := rfl) (hz := hz) (F0 := F0) (F3 := F3) (F141 := F141) (hc_5 := hc_5) (hj := hj), mg_sz0 hz hs _ rfl rfl⟩
  · by_cases hc_3 : xs 1 < 0
    · exact ⟨_, z0_119 xs (d := 6) (hs0 := rfl) (hs1 := rfl) (hz := hz) (F0 := F0) (F3 := F3) (F141 := F141) (hc_3 := hc_3) (hc_5 := hc_5) (hj := hj), mg_sz0 hz hs _ rfl rfl⟩
    · exact ⟨_, z0_121 xs (d := 6) (hs0 := rfl) (hs1 := rfl) (hz := hz) (F0 := F0) (F3 := F3) (F141 := F141) (hc_3 := hc_3) (hc_5 := hc_5) (hj := hj), mg_sz0 hz hs _ rfl rfl⟩
theorem mg_j10 (xs : Nat → Int32) {h : ax_H} (F : mg_fr h) (hj : xs 0 &&& 15 = 10) : mg_fin 3 xs h := by
  obtain ⟨hz, hs, F0, F1, F3, F5, F87, F141, -, -⟩ := F
  exact ⟨_, z0_122 xs (d := 8) (hs0 := rfl) (hz := hz) (hj := hj), mg_sz0 hz hs _ rfl rfl⟩
theorem mg_j11 (xs : Nat → Int32) {h : ax_H} (F : mg_fr h) (hj : xs 0 &&& 15 = 11) : mg_fin 3 xs h := by
  obtain ⟨hz, hs, F0, F1, F3, F5, F87, F141, -, -⟩ := F
  exact ⟨_, z0_123 xs (d := 8) (hs0 := rfl) (hz := hz) (hj := hj), mg_sz0 hz hs _ rfl rfl⟩
theorem mg_j12 (xs : Nat → Int32) {h : ax_H} (F : mg_fr h) (hj : xs 0 &&& 15 = 12) : mg_fin 3 xs h := by
  obtain ⟨hz, hs, F0, F1, F3, F5, F87, F141, -, -⟩ := F
  exact ⟨_, z0_124 xs (d := 8) (hs0 := rfl) (hz := hz) (hj := hj), mg_sz0 hz hs _ rfl rfl⟩
theorem mg_j13 (xs : Nat → Int32) {h : ax_H} (F : mg_fr h) (hj : xs 0 &&& 15 = 13) : mg_fin 3 xs h := by
  obtain ⟨hz, hs, F0, F1, F3, F5, F87, F141, -, -⟩ := F
  exact ⟨_, z0_125 xs (d := 8) (hs0 := rfl) (hz := hz) (hj := hj), mg_sz0 hz hs _ rfl rfl⟩
theorem mg_j14 (xs : Nat → Int32) {h : ax_H} (F : mg_fr h) (hj : xs 0 &&& 15 = 14) : mg_fin 3 xs h := by
  obtain ⟨hz, hs, F0, F1, F3, F5, F87, F141, -, -⟩ := F
  exact ⟨_, z0_126 xs (d := 8) (hs0 := rfl) (hz := hz) (hj := hj), mg_sz0 hz hs _ rfl rfl⟩
theorem mg_j15 (xs : Nat → Int32) {h : ax_H} (F : mg_fr h) (hj : xs 0 &&& 15 = 15) : mg_fin 3 xs h := by
  obtain ⟨hz, hs, F0, F1, F3, F5, F87, F141, -, -⟩ := F
  exact ⟨_, z0_127 xs (d := 8) (hs0 := rfl) (hz := hz) (hj := hj), mg_sz0 hz hs _ rfl rfl⟩
theorem mg_j0 (xs : Nat → Int32) {h : ax_H} (F : mg_fr h) (hj : xs 0 &&& 15 = 0) : mg_fin 3 xs h := by
  obtain ⟨hz, hs, F0, F1, F3, F5, F87, F141, ⟨f2, F2⟩, ⟨f3, F142⟩⟩ := F
  have X := ty_x 3 xs (d := 5) (p := ((xs 1).toInt64 <<< ((32 : Int32).toInt64 &&& 63)) ||| ((xs 2).toInt64 &&& (Int64.ofNat 4294967295))) hz F0 F1 F2
  by_cases hg : ∀ i, i < 8 → mg_ok1 (mg_by (((xs 1).toInt64 <<< ((32 : Int32).toInt64 &&& 63)) ||| ((xs 2).toInt64 &&& (Int64.ofNat 4294967295))) (nI (8 * i)))
  · obtain ⟨h2, c2, z2, s2, e1, e2⟩ := X.1 hg
    have M := ty_m 3 xs (d := 7) (p := ((xs 1).toInt64 <<< ((32 : Int32).toInt64 &&& 63)) ||| ((xs 2).toInt64 &&& (Int64.ofNat 4294967295))) z2 (e1.trans F141) (e2.trans F142)
    obtain ⟨h3, c3, z3, s3⟩ := M.1 (fun i hi => ty_eq _ i hi ▸ hg i hi)
    refine ⟨h3, ?_, by omega, by omega⟩
    refine z0_131 xs (d := 8) (hs0 := rfl) (hs1 := rfl) (hs2 := rfl) (hz := hz) (hj := hj) ?_
    refine ag_invv (d0_115 3 xs) (kd := 7) (mj := 13) (n := 1) rfl (Or.inl rfl) (xs := [.long _]) (r := []) rfl rfl F0 rfl (Nat.le_of_ble_eq_true rfl) c2 ?_
    refine z0_132 xs (d := 8) (r := 1) (hs1 := rfl) (hs2 := rfl) (hz := z2) ?_
    refine ag_invv (d0_141 3 xs) (kd := 7) (mj := 106) (n := 1) rfl (Or.inl rfl) (xs := [.long _]) (r := [.int 1]) rfl rfl (e1.trans F141) rfl (Nat.le_of_ble_eq_true rfl) c3 ?_
    refine ag_icmp_eq (d0_144 3 xs) (t := 441) (by decide) (fun _ => ?_) (fun hn => absurd rfl hn)
    exact z0_133 xs (d := 8) z3
  · have hb : ∃ i, i < 8 ∧ ¬ mg_ok1 (mg_by (((xs 1).toInt64 <<< ((32 : Int32).toInt64 &&& 63)) ||| ((xs 2).toInt64 &&& (Int64.ofNat 4294967295))) (nI (8 * i))) := Classical.byContradiction (fun q => hg (fun i hi => Classical.byContradiction (fun q' => q ⟨i, hi, q'⟩)))
    have c2 := X.2 hb
    have M := ty_m 3 xs (d := 7) (p := ((xs 1).toInt64 <<< ((32 : Int32).toInt64 &&& 63)) ||| ((xs 2).toInt64 &&& (Int64.ofNat 4294967295))) hz F141 F142
    obtain ⟨h3, c3, z3, s3⟩ := M.2 (hb.elim (fun i q => ⟨i, q.1, ty_eq _ i q.1 ▸ q.2⟩))
    refine ⟨h3, ?_, by omega, by omega⟩
    refine z0_131 xs (d := 8) (hs0 := rfl) (hs1 := rfl) (hs2 := rfl) (hz := hz) (hj := hj) ?_
    refine ag_invv (d0_115 3 xs) (kd := 7) (mj := 13) (n := 1) rfl (Or.inl rfl) (xs := [.long _]) (r := []) rfl rfl F0 rfl (Nat.le_of_ble_eq_true rfl) c2 ?_
    refine z0_132 xs (d := 8) (r := 0) (hs1 := rfl) (hs2 := rfl) (hz := hz) ?_
    refine ag_invv (d0_141 3 xs) (kd := 7) (mj := 106) (n := 1) rfl (Or.inl rfl) (xs := [.long _]) (r := [.int 0]) rfl rfl F141 rfl (Nat.le_of_ble_eq_true rfl) c3 ?_
    refine ag_icmp_eq (d0_144 3 xs) (t := 441) (by decide) (fun _ => ?_) (fun hn => absurd rfl hn)
    exact z0_133 xs (d := 8) z3
theorem mg_f3 (xs : Nat → Int32) {h : ax_H} (F : mg_fr h) : mg_fin 3 xs h := by
  obtain ⟨j, hj, e⟩ := pk_andE (xs 0) (m := 15) 4 (by decide)
  match j, hj, e with
  | 0, _, e => exact mg_j0 xs F e
  | 1, _, e => exact mg_j1 xs F e
  | 2, _, e => exact mg_j2 xs F e
  | 3, _, e => exact mg_j3 xs F e
  | 4, _, e => exact mg_j4 xs F e
  | 5, _, e => exact mg_j5 xs F e
  | 6, _, e => exact mg_j6 xs F e
  | 7, _, e => exact mg_j7 xs F e
  | 8, _, e => exact mg_j8 xs F e
  | 9, _, e => exact mg_j9 xs F e
  | 10, _, e => exact mg_j10 xs F e
  | 11, _, e => exact mg_j11 xs F e
  | 12, _, e => exact mg_j12 xs F e
  | 13, _, e => exact mg_j13 xs F e
  | 14, _, e => exact mg_j14 xs F e
  | 15, _, e => exact mg_j15 xs F e
  | j + 16, hj, _ => exact absurd hj (by omega)
theorem mg_law3 (L : Nat) (hL : L ≤ 3) (xs : Nat → Int32) : ∃ (d n : Nat) (h1 : ax_H), d ≤ 1000 ∧ ax_loop (mgT L xs) (ax_call (mgT L xs) d n) 0 n 0 (ax_entry (mgT L xs) 0 [.ref ax_big]) [] mg_h0 = some (.inl (some (.int 1)), h1) ∧ h1.2.1 ≤ 168 ∧ h1.2.2.1 ≤ 7918 := by
  obtain ⟨hC, F, k⟩ := mg_start
  have key : mg_fin L xs hC := by
    match L, hL with
    | 0, _ => exact mg_f0 xs F
    | 1, _ => exact mg_f1 xs F
    | 2, _ => exact mg_f2 xs F
    | 3, _ => exact mg_f3 xs F
  obtain ⟨h1, g, z, s⟩ := key
  obtain ⟨n, hn⟩ := k L xs _ g
  exact ⟨8, n, h1, by decide, hn n (Nat.le_refl n) n (Nat.le_refl n), z, s⟩
end
section
theorem mg_law (L : Nat) (hL : L ≤ 3) (xs : Nat → Int32) : ∃ (d n : Nat) (h1 : ax_H), d ≤ 1000 ∧ ax_loop (mgT L xs) (ax_call (mgT L xs) d n) 0 n 0 (ax_entry (mgT L xs) 0 [.ref ax_big]) [] mg_h0 = some (.inl (some (.int 1)), h1) ∧ h1.2.1 ≤ 600002 ∧ h1.2.2.1 ≤ 7302232 := by
  obtain ⟨d, n, h1, hd, hr, hc, hs⟩ := mg_law3 L hL xs
  exact ⟨d, n, h1, hd, hr, by omega, by omega⟩
end
section
/-! THE CLAIM OUT OF ONE WALK OF THE LAW'S BODY. Your part is whole_start (and what it stands on); all else here is the same for every law, but numbers. -/
def R_law : String := "MailGuardLaw"
def lw_P (b : Addr) (xs : List Int32) (args : Array Value) (s : State) : Prop := args = #[.ref b] ∧ s.IntsAt b xs ∧ xs.length ≤ 3 ∧ (Jvm.Cond.and given_1 narrow_1).before args s = true
def lw_Q (_ : Array Value) (s : State) (o : Outcome) (t : State) : Prop := o = .returned (some (.int 1)) ∧ Framed s o t [] 600002 7302232
def lw_Z (below : List Frame) (a : Array Value) (s : State) : State → Prop := fun t => ∃ o, t.status = .running ∧ Ended t below o ∧ lw_Q a s o t
/-- the law's own end, with 1 on the stack, nothing written that was there before, its room as the claim has it -/
theorem lw_ret {p : Program} {l : Launch} {e : Env} {s : State} {m : MethodId} {below : List Frame} {meth : Method} {c : Code} {b : Nat} (hx : p.tables.exec = Jvm.exec) (hb : c.code = code) (hr : meth.sig.returnType = ret) (hlocks : meth.locks = false) {pc : Nat} {H : Heap} {ls : Array Slot} (hdg : decode code pc = .ok (.ireturn, 1)) : W p l e room_1 s m #[Value.ref b] below meth c H [] 600002 7302232 (lw_Z below #[Value.ref b] s) (F0 m pc ls [.int 1]) := by
  intro T hT X
  obtain ⟨fs, hret, hrun, hended, hW, hframe⟩ := X.leave (v := some (.int 1)) (hlocks := hlocks) (fun h => by rw [hr] at h; cases h)
  have hmeth' : T.vm.method? m = some meth := X.method'
  refine ⟨T.setFrames fs, ?_, .returned (some (.int 1)), hrun, hended, rfl, ⟨_, rfl⟩, hW, hframe⟩
  jvm_step X.here [X.here.top, hx, hb, hdg, hmeth', hr, ret, narrow_b1]
  (try refine ⟨rfl, ?_⟩); (try refine ⟨rfl, ?_⟩)
  first | (intro acts; rw [hret _ acts rfl rfl rfl]) | rw [hret _ _ rfl rfl rfl]
  exact Steps.refl _
/-- what holds at the law's entry: the machine, the code, the tables' words (any of lw_tbl by 'hts w (by decide +kernel)'), the script of L ints xs at the cell b, what the Statement gives of the start (any of its parts by flat_of_before) -/
def lw_At (p : Program) (s : State) (m : MethodId) (meth : Method) (c : Code) (b L : Nat) (xs : Nat → Int32) : Prop :=
  p.tables.exec = Jvm.exec ∧ c.code = code ∧ meth.sig.returnType = ret ∧ c.maxLocals = 7 ∧ s.vm.findClass R_law = some m.cls ∧ (∀ w ∈ lw_tbl, w.before #[Value.ref b] s = true) ∧ va_X b L xs s s.heap ∧ b < s.heap.size ∧ meth.locks = false ∧ (Jvm.Cond.and given_1 narrow_1).before #[Value.ref b] s = true ∧ c.exceptionTable.toList = []
-- ===== YOUR PART BEGINS =====
/-- YOUR PART: from the entry, for every script of at most 3 ints, the law comes to its end with true -/
theorem whole_start {p : Program} {e : Env} {s : State} {m : MethodId} {below : List Frame} {meth : Method} {c : Code} (l : Launch) (hfl : l.flags = Jvm.pinnedFlags ++ [Jvm.noTraceFlag]) {b L : Nat} {xs : Nat → Int32} (hL : L ≤ 3) (C0 : lw_At p s m meth c b L xs) : W p l e room_1 s m #[Value.ref b] below meth c s.heap [] 0 0 (lw_Z below #[Value.ref b] s) (entryFrame m ([Value.ref b] : List Value).toArray 7) := by
  obtain ⟨hx, hb, hr, hml, hown, hts, hX, hbl, hlk, hgv, hexc⟩ := C0
  obtain ⟨d, n, h1, hd1, hrun, hc1, hs1⟩ := mg_law L hL xs
  have has : ∃ as : Nat → Nat, ax_As s.heap.size as ∧ as ax_big = b := ⟨fun i => if i < ax_big then s.heap.size + i else b, ⟨fun i hi => if_pos hi, fun i hi => by
    show (if i < ax_big then s.heap.size + i else b) < s.heap.size
    rw [if_neg (Nat.not_lt.mpr hi)]; exact hbl⟩, if_neg (Nat.lt_irrefl _)⟩
  obtain ⟨as, hAs, hab⟩ := has
  have htb : ∀ w ∈ mg_TB, w.before #[Value.ref b] s = true := fun w hw => hts w (List.mem_filter.mp hw).1
  obtain ⟨D, tA, hK⟩ := mg_K (L := L) (xs := xs) htb
  have hnar := flat_of_before _ hgv
  have X : ax_X s.heap.size as mg_TB (mgT L xs) D tA 0 p s m #[Value.ref b] meth c := by
    refine ⟨hx, hb, hml, hr, hlk, by rw [hexc]; rfl, fun h => absurd (show ("law" : String) = "<init>" from h) (by decide), hown, htb, hK, ⟨fun q hq => by rw [hab]; cases hq; exact hX, ?_, ?_⟩, hAs⟩
    · exact ax_Zr.of (hts _ (List.mem_of_getElem? (i := 440) (by decide +kernel))) (hnar _ (by decide +kernel)) (Nat.le_refl _)
    · exact ax_Zr.of (hts _ (List.mem_of_getElem? (i := 442) (by decide +kernel))) (hnar _ (by decide +kernel)) (Nat.le_refl _)
  have e1 : ([Value.ref b] : List Value) = [Value.ref ax_big].map (ax_tv as) := by rw [← hab]; rfl
  have key : W p l e room_1 s m #[Value.ref b] below meth c s.heap [] 0 0 (lw_Z below #[Value.ref b] s) (entryFrame m ([Value.ref ax_big].map (ax_tv as)).toArray 7) := by
    rw [lg_entry_eq]
    refine ax_loop_ok (w := 0) (b := s.heap.size) (as := as) (R := room_1) (Q := lw_Z below #[Value.ref b] s) (mg_ok L xs) X (d := d) (by show d + 9 ≤ 2048; omega) (by show 40 * d + 160 ≤ 84000; omega) (ax_call_mono d n) (fun mj av h v h1 hq => (ax_call_ok (mg_ok L xs) hAs hfl d n mj av h).1 v h1 hq) (fun mj av h x h1 hq => (ax_call_ok (mg_ok L xs) hAs hfl d n mj av h).2 x h1 hq) n 0 (ax_entry (mgT L xs) 0 [.ref ax_big]) [] mg_h0 _ hrun 0 0 _ rfl (ax_entry_lr as 7 [.ref ax_big] (by decide)) (by show 0 + (h1.2.1 - 0) ≤ 600002; omega) (by show 0 + (h1.2.2.1 - 0) ≤ 7302232; omega) ?_ ?_ s.heap [] ⟨rfl, Nat.zero_le _, fun i c hi => by cases hi⟩ va_S.rf ⟨Nat.le_refl _, fun _ _ _ => rfl⟩
    · intro v hv pc' a' i hd hret H locs hR hS hE
      cases hv
      have hi : i = .ireturn := by
        unfold ax_ret at hret
        split at hret
        · rename_i hq; cases hq
        · rfl
        · rename_i hq _; cases hq
        · rename_i hq _; cases hq
        · rename_i hq _; cases hq
        · cases hret
      subst hi
      refine va_forget hS.2.2 ?_
      refine W.widen (k := 600002) (n := 7302232) (by show 0 + (h1.2.1 - 0) ≤ 600002; omega) (by show 0 + (h1.2.2.1 - 0) ≤ 7302232; omega) ?_
      exact lw_ret hx hb hr hlk hd
    · intro pc' ls' a' st' i h8 k1 k2 k3 k4 k5 k6
      obtain ⟨⟨x, hx⟩, -⟩ := ax_thr_mono k2
      cases hx
  rw [← e1] at key
  exact key
-- ===== YOUR PART ENDS =====
set_option maxHeartbeats 4000000 in
theorem lw_walk (l : Launch) (hfl : l.flags = Jvm.pinnedFlags ++ [Jvm.noTraceFlag]) (b : Addr) (xs : List Int32) : MetFree l x (headSpec (Jvm.Cond.code x code maxLocals ret :: tables_1) room_1) (lw_P b xs) (fun _ _ _ _ _ => True) lw_Q := by
  refine MetFree.of_bodyS (code := code) (maxLocals := maxLocals) (ret := ret) (by decide) ?_ ?_
  · intro args s m h hn
    obtain ⟨meth, c, h1, h2, h3, h4, h5, h6, -, -⟩ := Cond.code_spec hn (atoms_spec (ws := Jvm.Cond.code x code maxLocals ret :: tables_1) h _ List.mem_cons_self)
    exact ⟨meth, c, h1, h2, h3, h4, h5, h6⟩
  · intro p e s m args below meth c s₁ B hml0 hP _
    obtain ⟨rfl, hx, hbd, hgv⟩ := hP
    obtain ⟨scr, harrAt, hlist, hof, hsmall⟩ := hx
    obtain ⟨hcb, hkn, -, -⟩ := State.arrayAt?_spec harrAt
    have hown : s.vm.findClass R_law = some m.cls := findClass_of_methodNamed B.named
    have hts0 : ∀ c ∈ (Jvm.Cond.code x code maxLocals ret :: tables_1), c.before #[Value.ref b] s = true := atoms_spec (ws := Jvm.Cond.code x code maxLocals ret :: tables_1) B.pre
    have hts : ∀ w ∈ lw_tbl, w.before #[Value.ref b] s = true := k2_hts_sels lw_privs (fun w hw => hts0 w (List.mem_cons_of_mem _ hw)) lw_privs_ok
    have hml : c.maxLocals = 7 := B.maxLocals_eq (hts0 _ List.mem_cons_self)
    have X₀ : Stand p l e room_1 s m #[Value.ref b] below meth c s₁ [] 0 0 := Stand.of_body B
    have hh0 : s₁.heap = s.heap := by rw [B.state]; rfl
    have hsz : scr.slots.size = xs.length := by rw [← Array.length_toList, hlist, List.length_map]
    have hval : ∀ j : Nat, j < xs.length → scr.slots[j]? = some (.int (xs.getD j 0)) := fun j hj => by
      rw [← Array.getElem?_toList, hlist]
      simp [hj]
    have hbl : b < s.heap.size := (Array.getElem?_eq_some_iff.mp hcb).1
    have hX : va_X b xs.length (fun j => xs.getD j 0) s s.heap := ⟨scr, hcb, hof, hkn, hsz, hval⟩
    have hexc : c.exceptionTable.toList = [] := by
      obtain ⟨meth', c', g1, g2, -, -, -, -, g7, -⟩ := Cond.code_spec B.named (hts0 _ List.mem_cons_self)
      cases g1.symm.trans B.method
      cases g2.symm.trans X₀.code
      have : c.exceptionTable = #[] := by simpa using g7
      rw [this]
    have K : W p l e room_1 s m #[Value.ref b] below meth c s₁.heap [] 0 0 (lw_Z below #[Value.ref b] s) (entryFrame m ([Value.ref b] : List Value).toArray 7) := by
      rw [hh0]
      exact whole_start l hfl hbd ⟨B.exec, B.bytes, B.returns, hml, hown, hts, hX, hbl, B.notSynchronized, hgv, hexc⟩
    obtain ⟨t, a1, o, b1, b2, b3⟩ := K s₁ rfl X₀
    exact ⟨t, o, a1, b1, b2, b3⟩
theorem lw_pre_spec {args : Array Value} {s : State} (h : (Jvm.Cond.and given_1 narrow_1).before args s = true) (hr : rest_1_c.before args s = true) : ∃ (b : Addr) (xs : List Int32), lw_P b xs args s := by
  have hs := flat_of_before _ h
  have hq := flat_of_before _ hr
  have hc : (Cond.count 1).before args s = true := hs _ (by decide +kernel)
  have harr : (Cond.arrayOf (.arg 0) .int).before args s = true := hs _ (by decide +kernel)
  have hle : (Cond.le (.length (.arg 0)) (.int 3)).before args s = true := hs _ (by decide +kernel)
  have hlen : (Cond.isInt (.length (.arg 0))).before args s = true := hq _ (by decide +kernel)
  have hall : (Cond.all (.arg 0) (.isInt (.elem (.arg 0) (.index 0)))).before args s = true := hq _ (by decide +kernel)
  obtain ⟨b, xs, hb, hx⟩ := State.ints_of_pre rfl harr hlen hall
  have hsm : xs.length < 2 ^ 31 := hx.choose_spec.2.2.2
  have hev : (Term.length (.arg 0)).eval args s none [] s = some (.int xs.length.toInt32) := hx.length_eval hb
  have hv := Cond.le_ints hev (show (Term.int 3).eval args s none [] s = some (.int 3) from rfl)
  have hd : xs.length.toInt32 ≤ 3 := by
    simpa [Cond.before, Cond.holds, hv] using hle
  have hN : xs.length ≤ 3 := (Int32.ofNat_le_ofNat hsm (by decide)).mp (show Int32.ofNat xs.length ≤ Int32.ofNat 3 from hd)
  exact ⟨b, xs, Cond.one_arg hc (show args[0]? = some (.ref b) from hb), hx, hN, h⟩
theorem lw_comes (l : Launch) (hfl : l.flags = Jvm.pinnedFlags ++ [Jvm.noTraceFlag]) : Comes l x (Jvm.Cond.code x code maxLocals ret :: tables_1) room_1 (fun tb e args s => Calls_1 tb e args s ∧ rest_1 tb e args s ∧ Pre_1 tb e args s)
    (fun _ _ args s o t => lw_Q args s o t) := by
  intro p e ha hc hk s m args below hf hfit hheap happ hpre
  obtain ⟨b, xs, hP⟩ := lw_pre_spec hpre.2.2 hpre.2.1
  obtain ⟨k, o, h1, h2, h3, hQ⟩ := lw_walk l hfl b xs p e ha hc hk s m args below hf ((Spec.applies_iff_loose hf).mp happ).1 hP trivial
  exact ⟨k, o, h1, h2, h3, hQ⟩
theorem lw_frame {s t : State} {o : Outcome} {args : Array Value} (h : Framed s o t [] 600002 7302232) :
    Framed s o t (fieldLocs frame_1_writes args s ++ arrayLocs frame_1_arrays args s ++ staticLocs frame_1_statics s) 600002 7302232 := h
theorem lw_limb (L : Cond) (hL : ∀ (args : Array Value) (s t : State), L.after args s (.returned (some (.int 1))) t = true) :
    ArmFor flags0 classFile x code maxLocals ret World_1 tables_1 room_1 Calls_1 rest_1 Pre_1
      (fun tb e a s o t => postC L tb e a s o t ∧ Framed s o t (fieldLocs frame_1_writes a s ++ arrayLocs frame_1_arrays a s ++ staticLocs frame_1_statics s) 600002 7302232) := by
  intro l hfl _ _ p e ha hc hk s m args below hf hfit hheap happ hpre
  obtain ⟨k, o, h1, h2, h3, rfl, hF⟩ := lw_comes l hfl p e ha hc hk s m args below hf hfit hheap happ hpre
  exact ⟨k, _, h1, h2, h3, hL args s _, lw_frame hF⟩
theorem i_vc : Claimed_1_1 ∧ Claimed_1_2 := ⟨lw_limb limb_1_1 (fun args s t => by simp [limb_1_1, Cond.after, Cond.holds, Cond.value]), lw_limb limb_1_2 (fun args s t => Cond.after_iff.mpr (by
  first | (rw [show limb_1_2 = Cond.eq .result (.int 1) from rfl, Cond.eq_ints (x := 1) (y := 1) rfl rfl]; simp; done) | (simp [limb_1_2, Cond.value, Term.eval]; done)))⟩
end
