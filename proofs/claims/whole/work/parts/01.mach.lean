/-! An abstract machine over the class files' own code: cells by numbers (the cell number i stands at the address base + i), frames as lists; its runs are runs of the machine (02b). -/
abbrev ax_C : Type := (Nat × vp_A) ⊕ (Nat × List Value)
/-- cells, how many have been made, how many slots, how many writes there were -/
abbrev ax_H : Type := (Nat → Option ax_C) × Nat × Nat × Nat
abbrev ax_L : Type := List (Option Value)
/-- methods (name, code, locals, answer's type); pool entries (method, index) ↦ (kind, a, b); classes; field types; array types; handlers (from, to, handler, catch type); the law's script -/
abbrev ax_T : Type := (Nat → MethodName × ByteArray × Nat × Option FieldType) × (Nat → Nat → Nat × Nat × Nat) × List vw_C × (Nat → Nat → FieldType) × List FieldType × (Nat → List (Nat × Nat × Nat × Nat)) × Option (Nat × (Nat → Int32))
/-- the number of the cell that holds the script: numbers from here on are cells that nobody writes -/
def ax_big : Nat := 1048576
abbrev ax_nm (T : ax_T) (mi : Nat) : MethodName := (T.1 mi).1
abbrev ax_code (T : ax_T) (mi : Nat) : ByteArray := (T.1 mi).2.1
abbrev ax_mx (T : ax_T) (mi : Nat) : Nat := (T.1 mi).2.2.1
abbrev ax_rt (T : ax_T) (mi : Nat) : Option FieldType := (T.1 mi).2.2.2
abbrev ax_pl (T : ax_T) (mi idx : Nat) : Nat × Nat × Nat := T.2.1 mi idx
abbrev ax_cl (T : ax_T) : List vw_C := T.2.2.1
abbrev ax_fty (T : ax_T) (ci k : Nat) : FieldType := T.2.2.2.1 ci k
abbrev ax_ty (T : ax_T) : List FieldType := T.2.2.2.2.1
abbrev ax_hs (T : ax_T) (mi : Nat) : List (Nat × Nat × Nat × Nat) := T.2.2.2.2.2.1 mi
/-- the handler of an exception of the class n: the first row, if it is of that class (12); or the second, where the first is of the class 1 and n is 2 -/
def ax_hd (T : ax_T) (mi pc n : Nat) : Option Nat := match ax_hs T mi with
  | x :: t => if x.1 ≤ pc ∧ pc < x.2.1 ∧ x.2.2.2 ≠ 0 ∧ ax_pl T mi x.2.2.2 = (12, n, 0) then some x.2.2.1 else match t with
    | y :: _ => if n = 2 ∧ (x.1 ≤ pc ∧ pc < x.2.1 ∧ x.2.2.2 ≠ 0 ∧ ax_pl T mi x.2.2.2 = (12, 1, 0)) ∧ y.1 ≤ pc ∧ pc < y.2.1 ∧ y.2.2.2 ≠ 0 ∧ ax_pl T mi y.2.2.2 = (12, 2, 0) then some y.2.2.1 else none
    | [] => none
  | [] => none
abbrev ax_sc (T : ax_T) : Option (Nat × (Nat → Int32)) := T.2.2.2.2.2.2
/-- what a run comes to: an answer, or the number of an exception's class; and the cells -/
abbrev ax_O : Type := (Option Value ⊕ Nat) × ax_H
def ax_up (h : ax_H) (a : Nat) (c : ax_C) : ax_H := (fun k => if k = a then some c else h.1 k, h.2.1, h.2.2.1, h.2.2.2 + 1)
def ax_add (h : ax_H) (c : ax_C) (n : Nat) : ax_H := (fun k => if k = h.2.1 then some c else h.1 k, h.2.1 + 1, h.2.2.1 + n, h.2.2.2)
/-- a local is set: a long ahead of it dies, a long takes two places -/
def ax_kill (ls : ax_L) : Nat → ax_L
  | 0 => ls
  | j + 1 => match ls[j]? with
    | some (some w) => if w.category = 2 then ls.set j none else ls
    | _ => ls
def ax_set (ls : ax_L) (i : Nat) (v : Value) : ax_L :=
  if v.category = 2 then ((ax_kill ls i).set i (some v)).set (i + 1) none else (ax_kill ls i).set i (some v)
def ax_jmp (pc : Nat) (off : Int) : Option Nat := if 0 ≤ (pc : Int) + off then some ((pc : Int) + off).toNat else none
def ax_br (b : Bool) (pc : Nat) (off : Int) (ls : ax_L) (st : List Value) : Option (Nat × ax_L × List Value) :=
  (ax_jmp pc off).map (fun t => (cond b t (pc + 3), ls, st))
def ax_cmp (c : ClassFile.Cond) (x y : Int32) : Bool := match c with
  | .eq => decide (x = y)
  | .ne => decide (¬ x = y)
  | .lt => decide (x < y)
  | .ge => decide (y ≤ x)
  | .gt => decide (y < x)
  | .le => decide (x ≤ y)
/-- one value for one -/
def ax_un (i : Instr) (x : Value) : Option Value := match i, x with
  | .ineg, .int a => some (.int (-a))
  | .i2l, .int a => some (.long a.toInt64)
  | .l2i, .long a => some (.int a.toInt32)
  | .i2c, .int a => some (.int (a.toUInt32 % 65536).toInt32)
  | _, _ => none
/-- one value for two: y on top -/
def ax_bin (i : Instr) (x y : Value) : Option Value := match i, x, y with
  | .iadd, .int a, .int b => some (.int (a + b))
  | .isub, .int a, .int b => some (.int (a - b))
  | .imul, .int a, .int b => some (.int (a * b))
  | .iand, .int a, .int b => some (.int (a &&& b))
  | .ior, .int a, .int b => some (.int (a ||| b))
  | .ixor, .int a, .int b => some (.int (a ^^^ b))
  | .ishl, .int a, .int b => some (.int (a <<< (b &&& 31)))
  | .ishr, .int a, .int b => some (.int (a >>> (b &&& 31)))
  | .iushr, .int a, .int b => some (.int (a.toUInt32 >>> (b.toUInt32 &&& Int32.toUInt32 31)).toInt32)
  | .idiv, .int a, .int b => if b = 0 then none else some (.int (a / b))
  | .irem, .int a, .int b => if b = 0 then none else some (.int (a - a / b * b))
  | .ladd, .long a, .long b => some (.long (a + b))
  | .land, .long a, .long b => some (.long (a &&& b))
  | .lor, .long a, .long b => some (.long (a ||| b))
  | .lshl, .long a, .int b => some (.long (a <<< (b.toInt64 &&& 63)))
  | .lshr, .long a, .int b => some (.long (a >>> (b.toInt64 &&& 63)))
  | .lushr, .long a, .int b => some (.long (a.toUInt64 >>> (b.toInt64.toUInt64 &&& Int64.toUInt64 63)).toInt64)
  | .lcmp, .long a, .long b => some (.int (lg_cmp a b))
  | _, _, _ => none
def ax_ld (ls : ax_L) (i : Nat) : Option Value := (ls[i]?).bind id
/-- kinds: 0 int, 1 long, 2 a cell or null -/
def ax_load (k : Nat) (ls : ax_L) (i pc : Nat) (st : List Value) : Option (Nat × ax_L × List Value) := match k, ax_ld ls i with
  | 0, some (.int x) => some (pc, ls, .int x :: st)
  | 1, some (.long x) => some (pc, ls, .long x :: st)
  | 2, some (.ref x) => some (pc, ls, .ref x :: st)
  | 2, some .null => some (pc, ls, .null :: st)
  | _, _ => none
def ax_store (k : Nat) (ls : ax_L) (i pc : Nat) (st : List Value) : Option (Nat × ax_L × List Value) := match k, st with
  | 0, .int x :: r => if i < ls.length then some (pc, ax_set ls i (.int x), r) else none
  | 1, .long x :: r => if i + 1 < ls.length then some (pc, ax_set ls i (.long x), r) else none
  | 2, .ref x :: r => if i < ls.length then some (pc, ax_set ls i (.ref x), r) else none
  | 2, .null :: r => if i < ls.length then some (pc, ax_set ls i .null, r) else none
  | _, _ => none
def ax_stk (i : Instr) (pc : Nat) (ls : ax_L) (st : List Value) : Option (Nat × ax_L × List Value) := match i, st with
  | .dup, a :: r => if a.category = 1 then some (pc + 1, ls, a :: a :: r) else none
  | .pop, a :: r => if a.category = 1 then some (pc + 1, ls, r) else none
  | .dup_x1, a :: b :: r => if a.category = 1 ∧ b.category = 1 then some (pc + 1, ls, a :: b :: a :: r) else none
  | .dup2, a :: b :: r => if a.category = 1 ∧ b.category = 1 then some (pc + 1, ls, a :: b :: a :: b :: r) else none
  | .ifnull off, .ref _ :: r => some (pc + 3, ls, r)
  | .ifnull off, .null :: r => (ax_jmp pc off).map (fun t => (t, ls, r))
  | .ifnonnull off, .ref _ :: r => (ax_jmp pc off).map (fun t => (t, ls, r))
  | .ifnonnull off, .null :: r => some (pc + 3, ls, r)
  | .tableswitch d lo hi offs, .int x :: r => if x.toInt < lo ∨ hi < x.toInt then (ax_jmp pc d).map (fun t => (t, ls, r)) else (offs[(x.toInt - lo).toNat]?).bind (fun o => (ax_jmp pc o).map (fun t => (t, ls, r)))
  | .lookupswitch d ps, .int x :: r => if (ps.toList.zip (ps.toList.drop 1)).all (fun (a, next) => a.1 < next.1) = true then (ax_jmp pc (Op.lookupswitch.offset ps.toList d x.toInt)).map (fun t => (t, ls, r)) else none
  | .ifCond c off, .int x :: r => ax_br (ax_cmp c x 0) pc off ls r
  | .if_icmp c off, .int y :: .int x :: r => ax_br (ax_cmp c x y) pc off ls r
  | _, _ => none
/-- the instructions that leave the cells alone -/
def ax_pure (i : Instr) (len pc : Nat) (ls : ax_L) (st : List Value) : Option (Nat × ax_L × List Value) := match i, len with
  | .iconst n, 1 => some (pc + 1, ls, .int (Int32.ofInt n) :: st)
  | .bipush n, 2 => some (pc + 2, ls, .int (Int8.ofInt n).toInt32 :: st)
  | .sipush n, 3 => some (pc + 3, ls, .int (Int16.ofInt n).toInt32 :: st)
  | .lconst n, 1 => some (pc + 1, ls, .long (Int64.ofNat (n : Nat)) :: st)
  | .aconst_null, 1 => some (pc + 1, ls, .null :: st)
  | .iload n, 2 => ax_load 0 ls n (pc + 2) st
  | .iload_n n, 1 => ax_load 0 ls n (pc + 1) st
  | .lload n, 2 => ax_load 1 ls n (pc + 2) st
  | .lload_n n, 1 => ax_load 1 ls n (pc + 1) st
  | .aload n, 2 => ax_load 2 ls n (pc + 2) st
  | .aload_n n, 1 => ax_load 2 ls n (pc + 1) st
  | .istore n, 2 => ax_store 0 ls n (pc + 2) st
  | .istore_n n, 1 => ax_store 0 ls n (pc + 1) st
  | .lstore n, 2 => ax_store 1 ls n (pc + 2) st
  | .lstore_n n, 1 => ax_store 1 ls n (pc + 1) st
  | .astore n, 2 => ax_store 2 ls n (pc + 2) st
  | .astore_n n, 1 => ax_store 2 ls n (pc + 1) st
  | .iinc n k, 3 => match ax_ld ls n with
    | some (.int x) => some (pc + 3, ax_set ls n (.int (x + Int32.ofInt k)), st)
    | _ => none
  | .goto off, 3 => (ax_jmp pc off).map (fun t => (t, ls, st))
  | .ineg, 1 | .i2l, 1 | .l2i, 1 | .i2c, 1 => match st with
    | x :: r => (ax_un i x).map (fun v => (pc + 1, ls, v :: r))
    | _ => none
  | .iadd, 1 | .isub, 1 | .imul, 1 | .iand, 1 | .ior, 1 | .ixor, 1 | .ishl, 1 | .ishr, 1 | .iushr, 1 | .idiv, 1 | .irem, 1 | .ladd, 1 | .land, 1 | .lor, 1 | .lshl, 1 | .lshr, 1 | .lushr, 1 | .lcmp, 1 => match st with
    | y :: x :: r => (ax_bin i x y).map (fun v => (pc + 1, ls, v :: r))
    | _ => none
  | .dup, 1 | .pop, 1 | .dup_x1, 1 | .dup2, 1 => ax_stk i pc ls st
  | .ifnull _, 3 | .ifnonnull _, 3 | .ifCond _ _, 3 | .if_icmp _ _, 3 => ax_stk i pc ls st
  | .tableswitch _ _ _ _, _ | .lookupswitch _ _, _ => ax_stk i pc ls st
  | _, _ => none
def ax_fit (ty : FieldType) (v : Value) : Bool := decide (narrow ty v = v) && fits ty v
def ax_tn (T : ax_T) (ty : FieldType) : Option Nat := (ax_ty T).findIdx? (fun q => decide (q = ty))
def ax_blank (T : ax_T) (ci n : Nat) : List Value := (List.range n).map (fun k => defaultValue (ax_fty T ci k))
abbrev ax_S : Type := Nat × ax_L × List Value × ax_H
/-- kinds of pool entries: 1 a field (class, place), 2 a nest mate's, 4 a class (its number, its slots), 5 a class of an array's cells (the type's number), 9 Object.<init> -/
def ax_getf (T : ax_T) (mi idx a pc : Nat) (ls : ax_L) (r : List Value) (h : ax_H) : Option ax_S := match h.1 a with
  | some (.inr (cj, fs)) => if ((ax_pl T mi idx).1 = 1 ∨ (ax_pl T mi idx).1 = 2) ∧ (ax_pl T mi idx).2.1 = cj then (fs[(ax_pl T mi idx).2.2]?).map (fun v => (pc + 3, ls, v :: r, h)) else none
  | _ => none
/-- a final field: only in a constructor of its own class -/
def ax_fin (T : ax_T) (mi ci k : Nat) : Bool := match (ax_cl T)[ci]? with
  | some q => !(q.2.1 k).2.2.2 || (decide ((ax_nm T mi).name = "<init>") && decide ((ax_nm T mi).cls = (q.2.1 k).1))
  | none => false
def ax_putf (T : ax_T) (mi idx a pc : Nat) (v : Value) (ls : ax_L) (r : List Value) (h : ax_H) : Option ax_S := match h.1 a with
  | some (.inr (cj, fs)) => if a < h.2.1 ∧ (ax_pl T mi idx).1 = 1 ∧ (ax_pl T mi idx).2.1 = cj ∧ (ax_pl T mi idx).2.2 < fs.length ∧ ax_fit (ax_fty T cj (ax_pl T mi idx).2.2) v = true ∧ ax_fin T mi cj (ax_pl T mi idx).2.2 = true then some (pc + 3, ls, r, ax_up h a (.inr (cj, fs.set (ax_pl T mi idx).2.2 v))) else none
  | _ => none
/-- the script is read -/
def ax_scr (T : ax_T) (i : Instr) (j : Int32) (pc : Nat) (ls : ax_L) (r : List Value) (h : ax_H) : Option ax_S := match i with
  | .iaload => match ax_sc T with
    | some q => if j < 0 ∨ q.1 ≤ j.toNatClampNeg then none else some (pc + 1, ls, .int (q.2 j.toNatClampNeg) :: r, h)
    | none => none
  | _ => none
def ax_ald (T : ax_T) (i : Instr) (j : Int32) (a pc : Nat) (ls : ax_L) (r : List Value) (h : ax_H) : Option ax_S := if a = ax_big then ax_scr T i j pc ls r h else match h.1 a with
  | some (.inl (t, n, x)) => if j < 0 ∨ n ≤ j.toNatClampNeg then none else match i, (ax_ty T)[t]?, x with
    | .iaload, some .int, .inl f => some (pc + 1, ls, .int (f j.toNatClampNeg) :: r, h)
    | .caload, some .char, .inl f => some (pc + 1, ls, .int (f j.toNatClampNeg) :: r, h)
    | .laload, some .long, .inr (.inl f) => some (pc + 1, ls, .long (f j.toNatClampNeg) :: r, h)
    | .aaload, some (.object _), .inr (.inr (.inr (.inr f))) => some (pc + 1, ls, va_rf (f j.toNatClampNeg) :: r, h)
    | _, _, _ => none
  | _ => none
def ax_ast (T : ax_T) (i : Instr) (v : Value) (j : Int32) (a pc : Nat) (ls : ax_L) (r : List Value) (h : ax_H) : Option ax_S := match h.1 a with
  | some (.inl (t, n, x)) => if h.2.1 ≤ a ∨ j < 0 ∨ n ≤ j.toNatClampNeg then none else match i, (ax_ty T)[t]?, x, v with
    | .iastore, some .int, .inl f, .int y => some (pc + 1, ls, r, ax_up h a (.inl (t, n, .inl (upd f j.toNatClampNeg y))))
    | .castore, some .char, .inl f, .int y => some (pc + 1, ls, r, ax_up h a (.inl (t, n, .inl (upd f j.toNatClampNeg (vp_nar .char y)))))
    | .lastore, some .long, .inr (.inl f), .long y => some (pc + 1, ls, r, ax_up h a (.inl (t, n, .inr (.inl (vp_updL f j.toNatClampNeg y)))))
    | .aastore, some (.object C), .inr (.inr (.inr (.inr f))), .ref y => match h.1 y with
      | some (.inr (ci, _)) => if ((ax_cl T)[ci]?).map (fun q => q.1) = some C then some (pc + 1, ls, r, ax_up h a (.inl (t, n, .inr (.inr (.inr (.inr (va_up f j.toNatClampNeg (some y)))))))) else none
      | _ => none
    | _, _, _, _ => none
  | _ => none
def ax_alen (T : ax_T) (a pc : Nat) (ls : ax_L) (r : List Value) (h : ax_H) : Option ax_S := if a = ax_big then (ax_sc T).map (fun q => (pc + 1, ls, .int (Int32.ofNat q.1) :: r, h)) else match h.1 a with
  | some (.inl (t, n, _)) => if t < (ax_ty T).length then some (pc + 1, ls, .int (Int32.ofNat n) :: r, h) else none
  | _ => none
def ax_newa (T : ax_T) (aty : ArrayType) (n : Int32) (pc : Nat) (ls : ax_L) (r : List Value) (h : ax_H) : Option ax_S :=
  if n < 0 ∨ 65536 < n.toNatClampNeg ∨ ax_big ≤ h.2.1 then none else match aty, ax_tn T (newarray.typeOf aty) with
    | .int, some t => some (pc + 2, ls, .ref h.2.1 :: r, ax_add h (.inl (t, n.toNatClampNeg, .inl (fun _ => 0))) n.toNatClampNeg)
    | .char, some t => some (pc + 2, ls, .ref h.2.1 :: r, ax_add h (.inl (t, n.toNatClampNeg, .inl (fun _ => 0))) n.toNatClampNeg)
    | .long, some t => some (pc + 2, ls, .ref h.2.1 :: r, ax_add h (.inl (t, n.toNatClampNeg, .inr (.inl (fun _ => 0)))) n.toNatClampNeg)
    | _, _ => none
def ax_anew (T : ax_T) (mi idx : Nat) (n : Int32) (pc : Nat) (ls : ax_L) (r : List Value) (h : ax_H) : Option ax_S :=
  if n < 0 ∨ 65536 < n.toNatClampNeg ∨ ax_big ≤ h.2.1 then none else if (ax_pl T mi idx).1 = 4 then match (ax_cl T)[(ax_pl T mi idx).2.1]? with
    | some q => match ax_tn T (.object q.1) with
      | some t => some (pc + 3, ls, .ref h.2.1 :: r, ax_add h (.inl (t, n.toNatClampNeg, .inr (.inr (.inr (.inr (fun _ => none)))))) n.toNatClampNeg)
      | none => none
    | none => none
    else none
def ax_new (T : ax_T) (mi idx pc : Nat) (ls : ax_L) (r : List Value) (h : ax_H) : Option ax_S :=
  if (ax_pl T mi idx).1 = 4 ∧ h.2.1 < ax_big then some (pc + 3, ls, .ref h.2.1 :: r, ax_add h (.inr ((ax_pl T mi idx).2.1, ax_blank T (ax_pl T mi idx).2.1 (ax_pl T mi idx).2.2)) (ax_pl T mi idx).2.2) else none
def ax_oini (T : ax_T) (mi idx pc : Nat) (ls : ax_L) (r : List Value) (h : ax_H) : Option ax_S :=
  if (ax_pl T mi idx).1 = 9 ∧ (r.map (fun v => v.category)).sum ≤ 8 then some (pc + 3, ls, r, h) else none
/-- a long constant: 11 (its number) -/
def ax_ldc2 (T : ax_T) (mi idx pc : Nat) (ls : ax_L) (r : List Value) (h : ax_H) : Option ax_S :=
  if (ax_pl T mi idx).1 = 11 then some (pc + 3, ls, .long (Int64.ofNat (ax_pl T mi idx).2.1) :: r, h) else none
/-- the instructions that read or write cells -/
def ax_mem (T : ax_T) (mi : Nat) (i : Instr) (pc : Nat) (ls : ax_L) (st : List Value) (h : ax_H) : Option ax_S := match i, st with
  | .getfield idx, .ref a :: r => ax_getf T mi idx a pc ls r h
  | .putfield idx, v :: .ref a :: r => ax_putf T mi idx a pc v ls r h
  | .iaload, .int j :: .ref a :: r => ax_ald T .iaload j a pc ls r h
  | .caload, .int j :: .ref a :: r => ax_ald T .caload j a pc ls r h
  | .laload, .int j :: .ref a :: r => ax_ald T .laload j a pc ls r h
  | .aaload, .int j :: .ref a :: r => ax_ald T .aaload j a pc ls r h
  | .iastore, v :: .int j :: .ref a :: r => ax_ast T .iastore v j a pc ls r h
  | .castore, v :: .int j :: .ref a :: r => ax_ast T .castore v j a pc ls r h
  | .lastore, v :: .int j :: .ref a :: r => ax_ast T .lastore v j a pc ls r h
  | .aastore, v :: .int j :: .ref a :: r => ax_ast T .aastore v j a pc ls r h
  | .arraylength, .ref a :: r => ax_alen T a pc ls r h
  | .newarray aty, .int n :: r => ax_newa T aty n pc ls r h
  | .anewarray idx, .int n :: r => ax_anew T mi idx n pc ls r h
  | .new idx, r => ax_new T mi idx pc ls r h
  | .ldc2_w idx, r => ax_ldc2 T mi idx pc ls r h
  | .invokespecial idx, .ref _ :: r => ax_oini T mi idx pc ls r h
  | _, _ => none
/-- the String constants: the class, the place in its pool, the text, its letters -/
def ax_str : List (String × Nat × String × List Nat) := [("MailGuard$Checker", 122, "v=spf1", [118, 61, 115, 112, 102, 49]), ("MailGuard$Term", 46, "redirect", [114, 101, 100, 105, 114, 101, 99, 116]), ("MailGuard$Term", 91, "all", [97, 108, 108]), ("MailGuard$Term", 93, "include", [105, 110, 99, 108, 117, 100, 101]), ("MailGuard$Term", 95, "a", [97]), ("MailGuard$Term", 97, "mx", [109, 120]), ("MailGuard$Term", 99, "ip4", [105, 112, 52]), ("MailGuard$Term", 101, "exists", [101, 120, 105, 115, 116, 115]), ("MailGuard$Judge", 62, "_dmarc.", [95, 100, 109, 97, 114, 99, 46]), ("MailGuard$Policy", 24, "v=DMARC1", [118, 61, 68, 77, 65, 82, 67, 49]), ("MailGuard$Policy", 69, "p", [112]), ("MailGuard$Policy", 88, "none", [110, 111, 110, 101]), ("MailGuard$Policy", 92, "quarantine", [113, 117, 97, 114, 97, 110, 116, 105, 110, 101]), ("MailGuard$Policy", 94, "reject", [114, 101, 106, 101, 99, 116]), ("MailGuard$Policy", 75, "sp", [115, 112]), ("MailGuard$Policy", 77, "aspf", [97, 115, 112, 102]), ("MailGuard$Policy", 96, "\u0072", [114]), ("MailGuard$Policy", 98, "s", [115]), ("MailGuard$Policy", 82, "pct", [112, 99, 116])]
/-- the kinds 13 (a String constant's number), 14 String.length, 15 String.charAt, 19 Math.min, 20 Math.max: they leave the cells alone -/
def ax_pri (T : ax_T) (mi : Nat) (i : Instr) (pc : Nat) (st : List Value) : Option (Nat × List Value) := match i, st with
  | .ldc idx, r => if (ax_pl T mi idx).1 = 13 then some (pc + 2, .ref (ax_big + 1 + (ax_pl T mi idx).2.1) :: r) else none
  | .invokevirtual idx, .ref a :: r => if (ax_pl T mi idx).1 = 14 ∧ ax_big < a ∧ (r.map (fun v => v.category)).sum ≤ 8 then (ax_str[a - ax_big - 1]?).map (fun q => (pc + 3, .int (Int32.ofNat q.2.2.2.length) :: r)) else none
  | .invokevirtual idx, .int j :: .ref a :: r => if (ax_pl T mi idx).1 = 15 ∧ ax_big < a ∧ (r.map (fun v => v.category)).sum ≤ 8 ∧ ¬ j < 0 then (ax_str[a - ax_big - 1]?).bind (fun q => (q.2.2.2[j.toNatClampNeg]?).map (fun x => (pc + 3, .int (Int32.ofNat x) :: r))) else none
  | .invokestatic idx, .int y :: .int x :: r => if (r.map (fun v => v.category)).sum ≤ 8 then (if (ax_pl T mi idx).1 = 19 then some (pc + 3, .int (if y < x then y else x) :: r) else if (ax_pl T mi idx).1 = 20 then some (pc + 3, .int (if x < y then y else x) :: r) else none) else none
  | _, _ => none
/-- how long an instruction of these is -/
def ax_ml (i : Instr) : Nat := match i with
  | .getfield _ | .putfield _ | .ldc2_w _ | .anewarray _ | .new _ | .invokespecial _ | .invokestatic _ | .invokevirtual _ => 3
  | .newarray _ | .ldc _ => 2
  | _ => 1
/-- a call: method, its arguments, what is left on the stack. Kinds: 6 static, 7 virtual, 8 a constructor; 16, 17, 18 the same of a nest mate's private method; 26 a static method with handlers -/
def ax_inv (T : ax_T) (mi : Nat) (i : Instr) (st : List Value) (h : ax_H) : Option (Nat × List Value × List Value) := match i with
  | .invokestatic idx => if ((ax_pl T mi idx).1 = 6 ∨ (ax_pl T mi idx).1 = 16 ∨ (ax_pl T mi idx).1 = 26) ∧ (ax_pl T mi idx).2.2 ≤ st.length ∧ ((st.drop (ax_pl T mi idx).2.2).map (fun v => v.category)).sum ≤ 8 then some ((ax_pl T mi idx).2.1, (st.take (ax_pl T mi idx).2.2).reverse, st.drop (ax_pl T mi idx).2.2) else none
  | .invokevirtual idx => match st.drop (ax_pl T mi idx).2.2 with
    | .ref a :: r => match h.1 a with
      | some (.inr (ci, _)) => if ((ax_pl T mi idx).1 = 7 ∨ (ax_pl T mi idx).1 = 17) ∧ ((ax_cl T)[ci]?).map (fun q => q.1) = some (ax_nm T (ax_pl T mi idx).2.1).cls ∧ (r.map (fun v => v.category)).sum ≤ 8 then some ((ax_pl T mi idx).2.1, .ref a :: (st.take (ax_pl T mi idx).2.2).reverse, r) else none
      | _ => none
    | _ => none
  | .invokespecial idx => match st.drop (ax_pl T mi idx).2.2 with
    | .ref a :: r => if ((ax_pl T mi idx).1 = 8 ∨ (ax_pl T mi idx).1 = 18) ∧ (r.map (fun v => v.category)).sum ≤ 8 then some ((ax_pl T mi idx).2.1, .ref a :: (st.take (ax_pl T mi idx).2.2).reverse, r) else none
    | _ => none
  | _ => none
def ax_ret (rt : Option FieldType) (i : Instr) (st : List Value) : Option (Option Value) := match i, st, rt with
  | .return_, [], none => some none
  | .ireturn, [.int x], some ty => if narrow ty (.int x) = .int x then some (some (.int x)) else none
  | .lreturn, [.long x], some .long => some (some (.long x))
  | .areturn, [.ref x], some (.object _) => some (some (.ref x))
  | .areturn, [.null], some (.object _) => some (some .null)
  | _, _, _ => none
/-- the cells behind a throw: one more, of which nothing is said -/
def ax_one (h : ax_H) : ax_H := (h.1, h.2.1 + 1, h.2.2.1 + 6, h.2.2.2)
/-- 'new X; dup; X.<init>; athrow': 10 (X, the constructor's index) -/
def ax_thr (T : ax_T) (mi : Nat) (i : Instr) (pc : Nat) (st : List Value) (h : ax_H) : Option ax_O := match i with
  | .new idx => match decode (ax_code T mi) (pc + 3), decode (ax_code T mi) (pc + 4), decode (ax_code T mi) (pc + 7) with
    | .ok (.dup, 1), .ok (.invokespecial ic, 3), .ok (.athrow, 1) => if (ax_pl T mi idx).1 = 10 ∧ (ax_pl T mi idx).2.2 = ic ∧ h.2.1 < ax_big ∧ (st.map (fun v => v.category)).sum ≤ 8 ∧ ax_hs T mi = [] then some (.inr (ax_pl T mi idx).2.1, ax_one h) else none
    | _, _, _ => none
  | _ => none
/-- the calls whose exceptions are caught -/
def ax_cv (T : ax_T) (mi : Nat) (i : Instr) : Bool := match i with
  | .invokevirtual idx => decide ((ax_pl T mi idx).1 = 7)
  | _ => false
/-- n steps at most from here on in the method mi; cf says what calls come to -/
def ax_loop (T : ax_T) (cf : Nat → List Value → ax_H → Option ax_O) (mi : Nat) : Nat → Nat → ax_L → List Value → ax_H → Option ax_O
  | 0, _, _, _, _ => none
  | n + 1, pc, ls, st, h => match decode (ax_code T mi) pc with
    | .ok (i, len) => match ax_pure i len pc ls st with
      | some (pc', ls', st') => ax_loop T cf mi n pc' ls' st' h
      | none => if len = ax_ml i then match ax_mem T mi i pc ls st h with
        | some (pc', ls', st', h') => ax_loop T cf mi n pc' ls' st' h'
        | none => match ax_inv T mi i st h with
          | some (mj, av, r) => match cf mj av h with
            | some (.inl v, h') => ax_loop T cf mi n (pc + 3) ls (v.toList ++ r) h'
            | some (.inr x, h') => if ax_cv T mi i = true then match ax_hd T mi pc x with
              | some pc' => ax_loop T cf mi n pc' ls [.ref (h'.2.1 - 1)] h'
              | none => none
              else none
            | none => none
          | none => match ax_pri T mi i pc st with
            | some (pc', st') => ax_loop T cf mi n pc' ls st' h
            | none => match ax_thr T mi i pc st h with
              | some o => some o
              | none => (ax_ret (ax_rt T mi) i st).map (fun v => (.inl v, h))
        else none
    | _ => none
def ax_sl (av : List Value) : ax_L := av.flatMap fun v => if v.category = 2 then [some v, none] else [some v]
def ax_entry (T : ax_T) (mi : Nat) (av : List Value) : ax_L := ax_sl av ++ List.replicate (ax_mx T mi - (ax_sl av).length) none
/-- a method that throws has made nothing and written nothing before -/
def ax_fit1 (h : ax_H) (o : ax_O) : Bool := match o.1 with
  | .inl _ => true
  | .inr _ => decide (o.2.2.1 = h.2.1 + 1 ∧ o.2.2.2.1 = h.2.2.1 + 6 ∧ o.2.2.2.2 = h.2.2.2)
/-- a call of the method mi, frames d deep, of at most n steps a frame -/
def ax_call (T : ax_T) : Nat → Nat → Nat → List Value → ax_H → Option ax_O
  | 0, _, _, _, _ => none
  | d + 1, n, mi, av, h => if (ax_sl av).length ≤ ax_mx T mi then (ax_loop T (ax_call T d n) mi n 0 (ax_entry T mi av) [] h).filter (fun o => ax_fit1 h o) else none
