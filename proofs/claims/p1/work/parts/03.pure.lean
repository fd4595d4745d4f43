section AX1
variable {p : Program} {l : Launch} {e : Env} {R : Room} {s : State} {m : MethodId} {args : Array Value} {below : List Frame} {meth : Method} {c : Code} {H : Heap} {locs : List Loc} {cells slots : Nat} {Q : State → Prop}
variable {cc : ByteArray} {pc : Nat} {as : Nat → Nat} {a : Array Slot} {rest : List Value} {ls : ax_L}
theorem ax_un_ok (hx : p.tables.exec = Jvm.exec) (hb : c.code = cc) {i : Instr} {x v : Value} (hd : decode cc pc = .ok (i, 1)) (hp : ax_un i x = some v)
    (k : W p l e R s m args below meth c H locs cells slots Q (F0 m (pc + 1) a (ax_tv as v :: rest))) : W p l e R s m args below meth c H locs cells slots Q (F0 m pc a (ax_tv as x :: rest)) := by
  unfold ax_un at hp
  split at hp
  · cases hp; exact lv_ineg hx hb hd k
  · cases hp; exact lv_i2l hx hb hd rfl k
  · cases hp; exact lv_l2i hx hb hd rfl k
  · cases hp; exact lv_i2c hx hb hd rfl k
  · cases hp
theorem ax_bin_ok (hx : p.tables.exec = Jvm.exec) (hb : c.code = cc) {i : Instr} {x y v : Value} (hd : decode cc pc = .ok (i, 1)) (hp : ax_bin i x y = some v)
    (k : W p l e R s m args below meth c H locs cells slots Q (F0 m (pc + 1) a (ax_tv as v :: rest))) : W p l e R s m args below meth c H locs cells slots Q (F0 m pc a (ax_tv as y :: ax_tv as x :: rest)) := by
  unfold ax_bin at hp
  split at hp
  · cases hp; exact lv_iadd hx hb hd k
  · cases hp; exact lv_isub hx hb hd k
  · cases hp; exact lv_imul hx hb hd k
  · cases hp; exact lv_iand hx hb hd k
  · cases hp; exact lv_ior hx hb hd k
  · cases hp; exact lv_ixor hx hb hd k
  · cases hp; exact lv_ishl hx hb hd k
  · cases hp; exact lv_ishr hx hb hd k
  · cases hp; exact lv_iushr hx hb hd rfl k
  · split at hp
    · cases hp
    · rename_i hne
      cases hp; exact lv_idiv hx hb hd hne k
  · split at hp
    · cases hp
    · rename_i hne
      cases hp; exact lv_irem hx hb hd hne k
  · cases hp; exact lv_ladd hx hb hd k
  · cases hp; exact lv_land hx hb hd k
  · cases hp; exact lv_lor hx hb hd k
  · cases hp; exact lv_lshl hx hb hd rfl k
  · cases hp; exact lv_lshr hx hb hd rfl k
  · cases hp; exact lv_lushr hx hb hd rfl k
  · cases hp; exact W.lcmp hx hb hd k
  · cases hp
theorem ax_br_ok {t : Bool} {off : Int} {st st' : List Value} {pc' : Nat} {ls' : ax_L} (hp : ax_br t pc off ls st = some (pc', ls', st')) :
    ∃ q : Nat, (pc : Int) + off = (q : Int) ∧ pc' = cond t q (pc + 3) ∧ ls' = ls ∧ st' = st := by
  unfold ax_br at hp
  cases hj : ax_jmp pc off with
  | none => rw [hj] at hp; cases hp
  | some q =>
    rw [hj] at hp
    cases hp
    exact ⟨q, ax_jmp_eq hj, rfl, rfl, rfl⟩
theorem ax_if_ok (hx : p.tables.exec = Jvm.exec) (hb : c.code = cc) {cd : ClassFile.Cond} {off : Int} {x : Int32} {q : Nat} (hd : decode cc pc = .ok (.ifCond cd off, 3)) (ht : (pc : Int) + off = (q : Int))
    (k : W p l e R s m args below meth c H locs cells slots Q (F0 m (cond (ax_cmp cd x 0) q (pc + 3)) a rest)) : W p l e R s m args below meth c H locs cells slots Q (F0 m pc a (.int x :: rest)) := by
  cases cd
  · exact lv_if_eq hx hb hd ht (fun z => by rw [show ax_cmp .eq x 0 = true from decide_eq_true z] at k; exact k) (fun z => by rw [show ax_cmp .eq x 0 = false from decide_eq_false z] at k; exact k)
  · exact lv_if_ne hx hb hd ht (fun z => by rw [show ax_cmp .ne x 0 = true from decide_eq_true z] at k; exact k) (fun z => by rw [show ax_cmp .ne x 0 = false from decide_eq_false (not_not_intro z)] at k; exact k)
  · exact lv_if_lt hx hb hd ht (fun z => by rw [show ax_cmp .lt x 0 = true from decide_eq_true z] at k; exact k) (fun z => by rw [show ax_cmp .lt x 0 = false from decide_eq_false z] at k; exact k)
  · exact lv_if_ge hx hb hd ht (fun z => by rw [show ax_cmp .ge x 0 = true from decide_eq_true z] at k; exact k) (fun z => by rw [show ax_cmp .ge x 0 = false from decide_eq_false z] at k; exact k)
  · exact lv_if_gt hx hb hd ht (fun z => by rw [show ax_cmp .gt x 0 = true from decide_eq_true z] at k; exact k) (fun z => by rw [show ax_cmp .gt x 0 = false from decide_eq_false z] at k; exact k)
  · exact lv_if_le hx hb hd ht (fun z => by rw [show ax_cmp .le x 0 = true from decide_eq_true z] at k; exact k) (fun z => by rw [show ax_cmp .le x 0 = false from decide_eq_false z] at k; exact k)
theorem ax_ic_ok (hx : p.tables.exec = Jvm.exec) (hb : c.code = cc) {cd : ClassFile.Cond} {off : Int} {x y : Int32} {q : Nat} (hd : decode cc pc = .ok (.if_icmp cd off, 3)) (ht : (pc : Int) + off = (q : Int))
    (k : W p l e R s m args below meth c H locs cells slots Q (F0 m (cond (ax_cmp cd x y) q (pc + 3)) a rest)) : W p l e R s m args below meth c H locs cells slots Q (F0 m pc a (.int y :: .int x :: rest)) := by
  cases cd
  · exact lv_icmp_eq hx hb hd ht (fun z => by rw [show ax_cmp .eq x y = true from decide_eq_true z] at k; exact k) (fun z => by rw [show ax_cmp .eq x y = false from decide_eq_false z] at k; exact k)
  · exact lv_icmp_ne hx hb hd ht (fun z => by rw [show ax_cmp .ne x y = true from decide_eq_true z] at k; exact k) (fun z => by rw [show ax_cmp .ne x y = false from decide_eq_false (not_not_intro z)] at k; exact k)
  · exact lv_icmp_lt hx hb hd ht (fun z => by rw [show ax_cmp .lt x y = true from decide_eq_true z] at k; exact k) (fun z => by rw [show ax_cmp .lt x y = false from decide_eq_false z] at k; exact k)
  · exact lv_icmp_ge hx hb hd ht (fun z => by rw [show ax_cmp .ge x y = true from decide_eq_true z] at k; exact k) (fun z => by rw [show ax_cmp .ge x y = false from decide_eq_false z] at k; exact k)
  · exact lv_icmp_gt hx hb hd ht (fun z => by rw [show ax_cmp .gt x y = true from decide_eq_true z] at k; exact k) (fun z => by rw [show ax_cmp .gt x y = false from decide_eq_false z] at k; exact k)
  · exact lv_icmp_le hx hb hd ht (fun z => by rw [show ax_cmp .le x y = true from decide_eq_true z] at k; exact k) (fun z => by rw [show ax_cmp .le x y = false from decide_eq_false z] at k; exact k)
theorem ax_load_ok {k0 i pc' q : Nat} {st st' : List Value} {ls' : ax_L} (hp : ax_load k0 ls i q st = some (pc', ls', st')) : pc' = q ∧ ls' = ls ∧ ∃ v, ax_ld ls i = some v ∧ st' = v :: st ∧
    ((k0 = 0 ∧ ∃ x, v = .int x) ∨ (k0 = 1 ∧ ∃ x, v = .long x) ∨ (k0 = 2 ∧ ((∃ x, v = .ref x) ∨ v = .null))) := by
  unfold ax_load at hp
  split at hp
  · rename_i h; cases hp; exact ⟨rfl, rfl, _, h, rfl, Or.inl ⟨rfl, _, rfl⟩⟩
  · rename_i h; cases hp; exact ⟨rfl, rfl, _, h, rfl, Or.inr (Or.inl ⟨rfl, _, rfl⟩)⟩
  · rename_i h; cases hp; exact ⟨rfl, rfl, _, h, rfl, Or.inr (Or.inr ⟨rfl, Or.inl ⟨_, rfl⟩⟩)⟩
  · rename_i h; cases hp; exact ⟨rfl, rfl, _, h, rfl, Or.inr (Or.inr ⟨rfl, Or.inr rfl⟩)⟩
  · cases hp
theorem ax_store_ok {k0 i pc' q : Nat} {st st' : List Value} {ls' : ax_L} (hp : ax_store k0 ls i q st = some (pc', ls', st')) : pc' = q ∧ ∃ v, ls' = ax_set ls i v ∧ st = v :: st' ∧
    ((k0 = 0 ∧ i < ls.length ∧ ∃ x, v = .int x) ∨ (k0 = 1 ∧ i + 1 < ls.length ∧ ∃ x, v = .long x) ∨ (k0 = 2 ∧ i < ls.length ∧ ((∃ x, v = .ref x) ∨ v = .null))) := by
  unfold ax_store at hp
  split at hp
  · split at hp
    · rename_i h; cases hp; exact ⟨rfl, _, rfl, rfl, Or.inl ⟨rfl, h, _, rfl⟩⟩
    · cases hp
  · split at hp
    · rename_i h; cases hp; exact ⟨rfl, _, rfl, rfl, Or.inr (Or.inl ⟨rfl, h, _, rfl⟩)⟩
    · cases hp
  · split at hp
    · rename_i h; cases hp; exact ⟨rfl, _, rfl, rfl, Or.inr (Or.inr ⟨rfl, h, Or.inl ⟨_, rfl⟩⟩)⟩
    · cases hp
  · split at hp
    · rename_i h; cases hp; exact ⟨rfl, _, rfl, rfl, Or.inr (Or.inr ⟨rfl, h, Or.inr rfl⟩)⟩
    · cases hp
  · cases hp
theorem ax_stk_ok (hx : p.tables.exec = Jvm.exec) (hb : c.code = cc) {i : Instr} {len : Nat} {st st' : List Value} {pc' : Nat} {ls' : ax_L} (hd : decode cc pc = .ok (i, len)) (hlen : (match i with | .dup | .pop | .dup_x1 | .dup2 => len = 1 | .tableswitch _ _ _ _ | .lookupswitch _ _ => True | _ => len = 3))
    (hp : ax_stk i pc ls st = some (pc', ls', st'))
    (k : ls' = ls → W p l e R s m args below meth c H locs cells slots Q (F0 m pc' a (st'.map (ax_tv as)))) : W p l e R s m args below meth c H locs cells slots Q (F0 m pc a (st.map (ax_tv as))) := by
  unfold ax_stk at hp
  split at hp
  · cases hlen
    split at hp
    · rename_i h; cases hp; exact lv_dup hx hb hd (by rw [ax_tv_cat]; exact h) (k rfl)
    · cases hp
  · cases hlen
    split at hp
    · rename_i h; cases hp; exact lv_pop hx hb hd (by rw [ax_tv_cat]; exact h) (k rfl)
    · cases hp
  · cases hlen
    split at hp
    · rename_i h; cases hp; exact lv_dup_x1 hx hb hd (by rw [ax_tv_cat]; exact h.1) (by rw [ax_tv_cat]; exact h.2) (k rfl)
    · cases hp
  · cases hlen
    split at hp
    · rename_i h; cases hp; exact lv_dup2_11 hx hb hd (by rw [ax_tv_cat]; exact h.1) (by rw [ax_tv_cat]; exact h.2) (k rfl)
    · cases hp
  · cases hlen
    cases hp; exact lv_ifnull hx hb hd (k rfl)
  · cases hlen
    rename_i off _
    cases hj : ax_jmp pc off with
    | none => rw [hj] at hp; cases hp
    | some q => rw [hj] at hp; cases hp; exact lv_ifnullN hx hb hd (ax_jmp_eq hj) (k rfl)
  · cases hlen
    rename_i off _ _
    cases hj : ax_jmp pc off with
    | none => rw [hj] at hp; cases hp
    | some q => rw [hj] at hp; cases hp; exact lv_ifnonnull hx hb hd (ax_jmp_eq hj) (k rfl)
  · cases hlen
    cases hp; exact lv_ifnonnullN hx hb hd (k rfl)
  · rename_i d lo hi offs x r
    split at hp
    · rename_i h
      cases hj : ax_jmp pc d with
      | none => rw [hj] at hp; cases hp
      | some q => rw [hj] at hp; cases hp; exact lv_tableOut hx hb hd h (ax_jmp_eq hj) (k rfl)
    · rename_i h
      cases ho : offs[(x.toInt - lo).toNat]? with
      | none => rw [ho] at hp; cases hp
      | some o =>
        rw [ho] at hp
        cases hj : ax_jmp pc o with
        | none => simp [hj] at hp
        | some q =>
          simp only [Option.bind_some, hj, Option.map_some, Option.some.injEq, Prod.mk.injEq] at hp
          obtain ⟨rfl, rfl, rfl⟩ := hp
          exact lv_tableIn hx hb hd (fun z => h (Or.inl z)) (fun z => h (Or.inr z)) ho (ax_jmp_eq hj) (k rfl)
  · rename_i d ps x r
    split at hp
    · rename_i h
      cases hj : ax_jmp pc (Op.lookupswitch.offset ps.toList d x.toInt) with
      | none => rw [hj] at hp; cases hp
      | some q => rw [hj] at hp; cases hp; exact lv_lookup hx hb hd h rfl (ax_jmp_eq hj) (k rfl)
    · cases hp
  · cases hlen
    obtain ⟨q, h1, rfl, rfl, rfl⟩ := ax_br_ok hp
    exact ax_if_ok hx hb hd h1 (k rfl)
  · cases hlen
    obtain ⟨q, h1, rfl, rfl, rfl⟩ := ax_br_ok hp
    exact ax_ic_ok hx hb hd h1 (k rfl)
  · cases hp
theorem ax_pure_ok (hx : p.tables.exec = Jvm.exec) (hb : c.code = cc) {i : Instr} {len : Nat} {st st' : List Value} {pc' : Nat} {ls' : ax_L} (hd : decode cc pc = .ok (i, len))
    (hp : ax_pure i len pc ls st = some (pc', ls', st')) (hl : ax_lr as ls a)
    (k : ∀ a', ax_lr as ls' a' → ls'.length = ls.length → W p l e R s m args below meth c H locs cells slots Q (F0 m pc' a' (st'.map (ax_tv as)))) : W p l e R s m args below meth c H locs cells slots Q (F0 m pc a (st.map (ax_tv as))) := by
  unfold ax_pure at hp
  split at hp
  · cases hp; exact lv_iconst hx hb hd rfl (k a hl rfl)
  · cases hp; exact lv_bipush hx hb hd rfl (k a hl rfl)
  · cases hp; exact lv_sipush hx hb hd rfl (k a hl rfl)
  · cases hp; exact lv_lconst hx hb hd rfl (k a hl rfl)
  · cases hp; exact lv_null hx hb hd (k a hl rfl)
  · obtain ⟨rfl, rfl, v, hv, rfl, h⟩ := ax_load_ok hp
    rcases h with ⟨hk, x, rfl⟩ | ⟨hk, x, rfl⟩ | ⟨hk, ⟨x, rfl⟩ | rfl⟩
    · exact lv_iload hx hb hd (hl.ld hv) (k a hl rfl)
    · exact absurd hk (by decide)
    · exact absurd hk (by decide)
    · exact absurd hk (by decide)
  · obtain ⟨rfl, rfl, v, hv, rfl, h⟩ := ax_load_ok hp
    rcases h with ⟨hk, x, rfl⟩ | ⟨hk, x, rfl⟩ | ⟨hk, ⟨x, rfl⟩ | rfl⟩
    · exact lv_iload_n hx hb hd rfl (hl.ld hv) (k a hl rfl)
    · exact absurd hk (by decide)
    · exact absurd hk (by decide)
    · exact absurd hk (by decide)
  · obtain ⟨rfl, rfl, v, hv, rfl, h⟩ := ax_load_ok hp
    rcases h with ⟨hk, x, rfl⟩ | ⟨hk, x, rfl⟩ | ⟨hk, ⟨x, rfl⟩ | rfl⟩
    · exact absurd hk (by decide)
    · exact lv_lload hx hb hd (hl.ld hv) (k a hl rfl)
    · exact absurd hk (by decide)
    · exact absurd hk (by decide)
  · obtain ⟨rfl, rfl, v, hv, rfl, h⟩ := ax_load_ok hp
    rcases h with ⟨hk, x, rfl⟩ | ⟨hk, x, rfl⟩ | ⟨hk, ⟨x, rfl⟩ | rfl⟩
    · exact absurd hk (by decide)
    · exact lv_lload_n hx hb hd rfl (hl.ld hv) (k a hl rfl)
    · exact absurd hk (by decide)
    · exact absurd hk (by decide)
  · obtain ⟨rfl, rfl, v, hv, rfl, h⟩ := ax_load_ok hp
    rcases h with ⟨hk, x, rfl⟩ | ⟨hk, x, rfl⟩ | ⟨hk, ⟨x, rfl⟩ | rfl⟩
    · exact absurd hk (by decide)
    · exact absurd hk (by decide)
    · exact lv_aload hx hb hd (hl.ld hv) (k a hl rfl)
    · exact lv_aloadN hx hb hd (hl.ld hv) (k a hl rfl)
  · obtain ⟨rfl, rfl, v, hv, rfl, h⟩ := ax_load_ok hp
    rcases h with ⟨hk, x, rfl⟩ | ⟨hk, x, rfl⟩ | ⟨hk, ⟨x, rfl⟩ | rfl⟩
    · exact absurd hk (by decide)
    · exact absurd hk (by decide)
    · exact lv_aload_n hx hb hd rfl (hl.ld hv) (k a hl rfl)
    · exact lv_aload_nN hx hb hd rfl (hl.ld hv) (k a hl rfl)
  · obtain ⟨rfl, v, rfl, rfl, h⟩ := ax_store_ok hp
    rcases h with ⟨hk, hi, x, rfl⟩ | ⟨hk, hi, x, rfl⟩ | ⟨hk, hi, ⟨x, rfl⟩ | rfl⟩
    · exact lv_istore hx hb hd hl.has hi rfl (fun a2 h2 => k a2 (ax_lr.st1 rfl h2) (ax_set_len _ _ _))
    · exact absurd hk (by decide)
    · exact absurd hk (by decide)
    · exact absurd hk (by decide)
  · obtain ⟨rfl, v, rfl, rfl, h⟩ := ax_store_ok hp
    rcases h with ⟨hk, hi, x, rfl⟩ | ⟨hk, hi, x, rfl⟩ | ⟨hk, hi, ⟨x, rfl⟩ | rfl⟩
    · exact lv_istore_n hx hb hd rfl hl.has hi rfl (fun a2 h2 => k a2 (ax_lr.st1 rfl h2) (ax_set_len _ _ _))
    · exact absurd hk (by decide)
    · exact absurd hk (by decide)
    · exact absurd hk (by decide)
  · obtain ⟨rfl, v, rfl, rfl, h⟩ := ax_store_ok hp
    rcases h with ⟨hk, hi, x, rfl⟩ | ⟨hk, hi, x, rfl⟩ | ⟨hk, hi, ⟨x, rfl⟩ | rfl⟩
    · exact absurd hk (by decide)
    · exact lv_lstore hx hb hd hl.has hi rfl (fun a2 h2 => k a2 (ax_lr.st2 rfl h2) (ax_set_len _ _ _))
    · exact absurd hk (by decide)
    · exact absurd hk (by decide)
  · obtain ⟨rfl, v, rfl, rfl, h⟩ := ax_store_ok hp
    rcases h with ⟨hk, hi, x, rfl⟩ | ⟨hk, hi, x, rfl⟩ | ⟨hk, hi, ⟨x, rfl⟩ | rfl⟩
    · exact absurd hk (by decide)
    · exact lv_lstore_n hx hb hd rfl hl.has hi rfl (fun a2 h2 => k a2 (ax_lr.st2 rfl h2) (ax_set_len _ _ _))
    · exact absurd hk (by decide)
    · exact absurd hk (by decide)
  · obtain ⟨rfl, v, rfl, rfl, h⟩ := ax_store_ok hp
    rcases h with ⟨hk, hi, x, rfl⟩ | ⟨hk, hi, x, rfl⟩ | ⟨hk, hi, ⟨x, rfl⟩ | rfl⟩
    · exact absurd hk (by decide)
    · exact absurd hk (by decide)
    · exact lv_astore hx hb hd hl.has hi rfl (fun a2 h2 => k a2 (ax_lr.st1 rfl h2) (ax_set_len _ _ _))
    · exact lv_astoreN hx hb hd hl.has hi rfl (fun a2 h2 => k a2 (ax_lr.st1 rfl h2) (ax_set_len _ _ _))
  · obtain ⟨rfl, v, rfl, rfl, h⟩ := ax_store_ok hp
    rcases h with ⟨hk, hi, x, rfl⟩ | ⟨hk, hi, x, rfl⟩ | ⟨hk, hi, ⟨x, rfl⟩ | rfl⟩
    · exact absurd hk (by decide)
    · exact absurd hk (by decide)
    · exact lv_astore_n hx hb hd rfl hl.has hi rfl (fun a2 h2 => k a2 (ax_lr.st1 rfl h2) (ax_set_len _ _ _))
    · exact lv_astore_nN hx hb hd rfl hl.has hi rfl (fun a2 h2 => k a2 (ax_lr.st1 rfl h2) (ax_set_len _ _ _))
  · rename_i n kk
    split at hp
    · rename_i x hv
      cases hp
      obtain ⟨j, hj⟩ := List.mem_iff_getElem?.mp (ax_lv_mem (as := as) (ax_ld_iff.mp hv))
      exact lv_iinc hx hb hd hl.has hj rfl (List.getElem?_eq_some_iff.mp (ax_ld_iff.mp hv)).1 rfl (fun a2 h2 => k a2 (ax_lr.st1 rfl h2) (ax_set_len _ _ _))
    · cases hp
  · rename_i off
    cases hj : ax_jmp pc off with
    | none => rw [hj] at hp; cases hp
    | some q => rw [hj] at hp; cases hp; exact lv_goto hx hb hd (ax_jmp_eq hj) (k a hl rfl)
  · split at hp
    · rename_i x r
      cases hu : ax_un _ x with
      | none => rw [hu] at hp; cases hp
      | some v => rw [hu] at hp; cases hp; exact ax_un_ok hx hb hd hu (k a hl rfl)
    · cases hp
  · split at hp
    · rename_i x r
      cases hu : ax_un _ x with
      | none => rw [hu] at hp; cases hp
      | some v => rw [hu] at hp; cases hp; exact ax_un_ok hx hb hd hu (k a hl rfl)
    · cases hp
  · split at hp
    · rename_i x r
      cases hu : ax_un _ x with
      | none => rw [hu] at hp; cases hp
      | some v => rw [hu] at hp; cases hp; exact ax_un_ok hx hb hd hu (k a hl rfl)
    · cases hp
  · split at hp
    · rename_i x r
      cases hu : ax_un _ x with
      | none => rw [hu] at hp; cases hp
      | some v => rw [hu] at hp; cases hp; exact ax_un_ok hx hb hd hu (k a hl rfl)
    · cases hp
  · split at hp
    · rename_i y x r
      cases hu : ax_bin _ x y with
      | none => rw [hu] at hp; cases hp
      | some v => rw [hu] at hp; cases hp; exact ax_bin_ok hx hb hd hu (k a hl rfl)
    · cases hp
  · split at hp
    · rename_i y x r
      cases hu : ax_bin _ x y with
      | none => rw [hu] at hp; cases hp
      | some v => rw [hu] at hp; cases hp; exact ax_bin_ok hx hb hd hu (k a hl rfl)
    · cases hp
  · split at hp
    · rename_i y x r
      cases hu : ax_bin _ x y with
      | none => rw [hu] at hp; cases hp
      | some v => rw [hu] at hp; cases hp; exact ax_bin_ok hx hb hd hu (k a hl rfl)
    · cases hp
  · split at hp
    · rename_i y x r
      cases hu : ax_bin _ x y with
      | none => rw [hu] at hp; cases hp
      | some v => rw [hu] at hp; cases hp; exact ax_bin_ok hx hb hd hu (k a hl rfl)
    · cases hp
  · split at hp
    · rename_i y x r
      cases hu : ax_bin _ x y with
      | none => rw [hu] at hp; cases hp
      | some v => rw [hu] at hp; cases hp; exact ax_bin_ok hx hb hd hu (k a hl rfl)
    · cases hp
  · split at hp
    · rename_i y x r
      cases hu : ax_bin _ x y with
      | none => rw [hu] at hp; cases hp
      | some v => rw [hu] at hp; cases hp; exact ax_bin_ok hx hb hd hu (k a hl rfl)
    · cases hp
  · split at hp
    · rename_i y x r
      cases hu : ax_bin _ x y with
      | none => rw [hu] at hp; cases hp
      | some v => rw [hu] at hp; cases hp; exact ax_bin_ok hx hb hd hu (k a hl rfl)
    · cases hp
  · split at hp
    · rename_i y x r
      cases hu : ax_bin _ x y with
      | none => rw [hu] at hp; cases hp
      | some v => rw [hu] at hp; cases hp; exact ax_bin_ok hx hb hd hu (k a hl rfl)
    · cases hp
  · split at hp
    · rename_i y x r
      cases hu : ax_bin _ x y with
      | none => rw [hu] at hp; cases hp
      | some v => rw [hu] at hp; cases hp; exact ax_bin_ok hx hb hd hu (k a hl rfl)
    · cases hp
  · split at hp
    · rename_i y x r
      cases hu : ax_bin _ x y with
      | none => rw [hu] at hp; cases hp
      | some v => rw [hu] at hp; cases hp; exact ax_bin_ok hx hb hd hu (k a hl rfl)
    · cases hp
  · split at hp
    · rename_i y x r
      cases hu : ax_bin _ x y with
      | none => rw [hu] at hp; cases hp
      | some v => rw [hu] at hp; cases hp; exact ax_bin_ok hx hb hd hu (k a hl rfl)
    · cases hp
  · split at hp
    · rename_i y x r
      cases hu : ax_bin _ x y with
      | none => rw [hu] at hp; cases hp
      | some v => rw [hu] at hp; cases hp; exact ax_bin_ok hx hb hd hu (k a hl rfl)
    · cases hp
  · split at hp
    · rename_i y x r
      cases hu : ax_bin _ x y with
      | none => rw [hu] at hp; cases hp
      | some v => rw [hu] at hp; cases hp; exact ax_bin_ok hx hb hd hu (k a hl rfl)
    · cases hp
  · split at hp
    · rename_i y x r
      cases hu : ax_bin _ x y with
      | none => rw [hu] at hp; cases hp
      | some v => rw [hu] at hp; cases hp; exact ax_bin_ok hx hb hd hu (k a hl rfl)
    · cases hp
  · split at hp
    · rename_i y x r
      cases hu : ax_bin _ x y with
      | none => rw [hu] at hp; cases hp
      | some v => rw [hu] at hp; cases hp; exact ax_bin_ok hx hb hd hu (k a hl rfl)
    · cases hp
  · split at hp
    · rename_i y x r
      cases hu : ax_bin _ x y with
      | none => rw [hu] at hp; cases hp
      | some v => rw [hu] at hp; cases hp; exact ax_bin_ok hx hb hd hu (k a hl rfl)
    · cases hp
  · split at hp
    · rename_i y x r
      cases hu : ax_bin _ x y with
      | none => rw [hu] at hp; cases hp
      | some v => rw [hu] at hp; cases hp; exact ax_bin_ok hx hb hd hu (k a hl rfl)
    · cases hp
  · split at hp
    · rename_i y x r
      cases hu : ax_bin _ x y with
      | none => rw [hu] at hp; cases hp
      | some v => rw [hu] at hp; cases hp; exact ax_bin_ok hx hb hd hu (k a hl rfl)
    · cases hp
  · exact ax_stk_ok hx hb hd rfl hp (fun q => k a (q ▸ hl) (congrArg List.length q))
  · exact ax_stk_ok hx hb hd rfl hp (fun q => k a (q ▸ hl) (congrArg List.length q))
  · exact ax_stk_ok hx hb hd rfl hp (fun q => k a (q ▸ hl) (congrArg List.length q))
  · exact ax_stk_ok hx hb hd rfl hp (fun q => k a (q ▸ hl) (congrArg List.length q))
  · exact ax_stk_ok hx hb hd rfl hp (fun q => k a (q ▸ hl) (congrArg List.length q))
  · exact ax_stk_ok hx hb hd rfl hp (fun q => k a (q ▸ hl) (congrArg List.length q))
  · exact ax_stk_ok hx hb hd rfl hp (fun q => k a (q ▸ hl) (congrArg List.length q))
  · exact ax_stk_ok hx hb hd rfl hp (fun q => k a (q ▸ hl) (congrArg List.length q))
  · exact ax_stk_ok hx hb hd trivial hp (fun q => k a (q ▸ hl) (congrArg List.length q))
  · exact ax_stk_ok hx hb hd trivial hp (fun q => k a (q ▸ hl) (congrArg List.length q))
  · cases hp
end AX1
