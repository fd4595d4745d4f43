/-! THE CLAIM OUT OF ONE WALK OF THE LAW'S BODY. Your part is whole_start (and what it stands on); all else here is the same for every law, but numbers. -/
def R_law : String := "MailGuardLaw"
def lw_P (b : Addr) (xs : List Int32) (args : Array Value) (s : State) : Prop := args = #[.ref b] ∧ s.IntsAt b xs ∧ xs.length ≤ 1536 ∧ (Jvm.Cond.and given_1 narrow_1).before args s = true
def lw_Q (_ : Array Value) (s : State) (o : Outcome) (t : State) : Prop := o = .returned (some (.int 1)) ∧ Framed s o t [] 601024 7293034
def lw_Z (below : List Frame) (a : Array Value) (s : State) : State → Prop := fun t => ∃ o, t.status = .running ∧ Ended t below o ∧ lw_Q a s o t
/-- the law's own end, with 1 on the stack, nothing written that was there before, its room as the claim has it -/
theorem lw_ret {p : Program} {l : Launch} {e : Env} {s : State} {m : MethodId} {below : List Frame} {meth : Method} {c : Code} {b : Nat} (hx : p.tables.exec = Jvm.exec) (hb : c.code = code) (hr : meth.sig.returnType = ret) (hlocks : meth.locks = false) {pc : Nat} {H : Heap} {ls : Array Slot} (hdg : decode code pc = .ok (.ireturn, 1)) : W p l e room_1 s m #[Value.ref b] below meth c H [] 601024 7293034 (lw_Z below #[Value.ref b] s) (F0 m pc ls [.int 1]) := by
  intro T hT X
  obtain ⟨fs, hret, hrun, hended, hW, hframe⟩ := X.leave (v := some (.int 1)) (hlocks := hlocks) (fun h => by rw [hr] at h; cases h)
  have hmeth' : T.vm.method? m = some meth := X.method'
  refine ⟨T.setFrames fs, ?_, .returned (some (.int 1)), hrun, hended, rfl, ⟨_, rfl⟩, hW, hframe⟩
  jvm_step X.here [X.here.top, hx, hb, hdg, hmeth', hr, ret, narrow_b1]
  (try refine ⟨rfl, ?_⟩); (try refine ⟨rfl, ?_⟩)
  first | (intro acts; rw [hret _ acts rfl rfl rfl]) | rw [hret _ _ rfl rfl rfl]
  exact Steps.refl _
/-- what holds at the law's entry: the machine, the code, the tables' words (any of lw_tbl by 'hts w (by decide +kernel)'), the script of L ints xs at the cell b, what the Statement gives of the start (any of its parts by flat_of_before) -/
def lw_At (p : Program) (s : State) (m : MethodId) (meth : Method) (c : Code) (b L : Nat) (xs : Nat → Int32) : Prop :=
  p.tables.exec = Jvm.exec ∧ c.code = code ∧ meth.sig.returnType = ret ∧ c.maxLocals = 7 ∧ s.vm.findClass R_law = some m.cls ∧ (∀ w ∈ lw_tbl, w.before #[Value.ref b] s = true) ∧ va_X b L xs s s.heap ∧ b < s.heap.size ∧ meth.locks = false ∧ (Jvm.Cond.and given_1 narrow_1).before #[Value.ref b] s = true ∧ c.exceptionTable.toList = []
-- ===== YOUR PART BEGINS =====
/-- YOUR PART: from the entry, for every script of at most 1536 ints, the law comes to its end with true -/
theorem whole_start {p : Program} {e : Env} {s : State} {m : MethodId} {below : List Frame} {meth : Method} {c : Code} (l : Launch) (hfl : l.flags = Jvm.pinnedFlags ++ [Jvm.noTraceFlag]) {b L : Nat} {xs : Nat → Int32} (hL : L ≤ 1536) (C0 : lw_At p s m meth c b L xs) : W p l e room_1 s m #[Value.ref b] below meth c s.heap [] 0 0 (lw_Z below #[Value.ref b] s) (entryFrame m ([Value.ref b] : List Value).toArray 7) := by
  obtain ⟨hx, hb, hr, hml, hown, hts, hX, hbl, hlk, hgv, hexc⟩ := C0
  obtain ⟨d, n, h1, hd1, hrun, hc1, hs1⟩ := mg_law L hL xs
  have hnar := flat_of_before _ hgv
  have hstr : ∀ (k : Nat) (q : String × Nat × String × List Nat), ax_str[k]? = some q → ∃ a, a < s.heap.size ∧ vk_R q.1 q.2.1 q.2.2.1 a s ∧ sx_k s.heap.size a q.2.2.2 s s.heap := fun k q hk => by
    have hm := List.mem_of_getElem? hk
    obtain ⟨g1, g2, g3⟩ := mg_str_l q hm
    exact sx_k_of g1 g2 (hts _ g3) (fun w hw => hnar w (mg_str_w q hm w hw))
  have hf0 : ∀ k : Nat, ∃ a : Nat, a < s.heap.size ∧ ∀ q : String × Nat × String × List Nat, ax_str[k]? = some q → vk_R q.1 q.2.1 q.2.2.1 a s ∧ sx_k s.heap.size a q.2.2.2 s s.heap := fun k => by
    cases hk : ax_str[k]? with
    | none => exact ⟨b, hbl, fun q hq => by cases hq⟩
    | some q =>
      obtain ⟨a, h1, h2, h3⟩ := hstr k q hk
      exact ⟨a, h1, fun q' hq' => by cases hq'; exact ⟨h2, h3⟩⟩
  obtain ⟨f, hf⟩ : ∃ f : Nat → Nat, ∀ k : Nat, f k < s.heap.size ∧ ∀ q : String × Nat × String × List Nat, ax_str[k]? = some q → vk_R q.1 q.2.1 q.2.2.1 (f k) s ∧ sx_k s.heap.size (f k) q.2.2.2 s s.heap := ⟨fun k => (hf0 k).choose, fun k => (hf0 k).choose_spec⟩
  have has : ∃ as : Nat → Nat, ax_As s.heap.size as ∧ as ax_big = b ∧ ∀ k, as (ax_big + 1 + k) = f k := ⟨fun i => if i < ax_big then s.heap.size + i else if i = ax_big then b else f (i - (ax_big + 1)), ⟨fun i hi => if_pos hi, fun i hi => by
    show (if i < ax_big then s.heap.size + i else if i = ax_big then b else f (i - (ax_big + 1))) < s.heap.size
    rw [if_neg (Nat.not_lt.mpr hi)]
    split
    · exact hbl
    · exact (hf _).1⟩, by
    show (if ax_big < ax_big then s.heap.size + ax_big else if ax_big = ax_big then b else f (ax_big - (ax_big + 1))) = b
    rw [if_neg (Nat.lt_irrefl _), if_pos rfl], fun k => by
    show (if ax_big + 1 + k < ax_big then s.heap.size + (ax_big + 1 + k) else if ax_big + 1 + k = ax_big then b else f (ax_big + 1 + k - (ax_big + 1))) = f k
    rw [if_neg (by omega), if_neg (by omega), Nat.add_sub_cancel_left]⟩
  obtain ⟨as, hAs, hab, hask⟩ := has
  have htb : ∀ w ∈ mg_TB, w.before #[Value.ref b] s = true := fun w hw => hts w (List.mem_filter.mp hw).1
  obtain ⟨D, tA, hK⟩ := mg_K (L := L) (xs := xs) htb
  have X : ax_X s.heap.size as mg_TB (mgT L xs) D tA 0 p s m #[Value.ref b] meth c := by
    refine ⟨hx, hb, hml, hr, hlk, by rw [hexc]; rfl, fun h => absurd (show ("law" : String) = "<init>" from h) (by decide), hown, htb, hK, ⟨fun q hq => by rw [hab]; cases hq; exact hX, ?_, ?_, ⟨⟨1, by decide, ?_⟩, ?_, fun k q hk => by rw [hask k]; exact (hf k).2 q hk⟩, ?_⟩, hAs⟩
    · exact ax_Zr.of (hts _ (List.mem_of_getElem? (i := 440) (by decide +kernel))) (hnar _ (by decide +kernel)) (Nat.le_refl _)
    · exact ax_Zr.of (hts _ (List.mem_of_getElem? (i := 442) (by decide +kernel))) (hnar _ (by decide +kernel)) (Nat.le_refl _)
    · exact sx_st_of (hts (.laysStatic Lib.str "COMPACT_STRINGS" "Z") (by decide +kernel)) (hts (.initialized Lib.str) (by decide +kernel)) (va_eqt (hnar (.eq (.static Lib.str "COMPACT_STRINGS" "Z") (.int 1)) (by decide +kernel)))
    · have hw := hnar (.isRef (.static Lib.pre_ "SIOOBE_FORMATTER" "Ljava/util/function/BiFunction;")) (by decide +kernel)
      cases hv : (Jvm.Term.static Lib.pre_ "SIOOBE_FORMATTER" "Ljava/util/function/BiFunction;").eval #[Value.ref b] s none [] s with
      | none => simp [Cond.before, Cond.holds, Cond.value, hv] at hw
      | some v =>
        refine ⟨v, ?_, sx_st_of (hts (.laysStatic Lib.pre_ "SIOOBE_FORMATTER" "Ljava/util/function/BiFunction;") (by decide +kernel)) (hts (.initialized Lib.pre_) (by decide +kernel)) hv⟩
        simp [Cond.before, Cond.holds, Cond.value, hv] at hw
        clear hv
        cases v <;> first | rfl | cases hw
    · intro c1 c2 k1 k2
      have hw := hnar (.not (.castable "java/lang/IllegalStateException" "java/lang/IllegalArgumentException")) (by decide +kernel)
      simp only [Cond.before, Cond.holds, Cond.value] at hw
      rw [show s.vm.findClass "java/lang/IllegalStateException" = some c2 from k2, show s.vm.findClass "java/lang/IllegalArgumentException" = some c1 from k1] at hw
      simpa using hw
  have e1 : ([Value.ref b] : List Value) = [Value.ref ax_big].map (ax_tv as) := by rw [← hab]; rfl
  have key : W p l e room_1 s m #[Value.ref b] below meth c s.heap [] 0 0 (lw_Z below #[Value.ref b] s) (entryFrame m ([Value.ref ax_big].map (ax_tv as)).toArray 7) := by
    rw [lg_entry_eq]
    refine ax_loop_ok (w := 0) (b := s.heap.size) (as := as) (R := room_1) (Q := lw_Z below #[Value.ref b] s) (mg_ok L xs) X (d := d) (by show d + 9 ≤ 2048; omega) (by show 40 * d + 160 ≤ 84000; omega) (ax_call_mono d n) (fun mj av h v h1 hq => (ax_call_ok (mg_ok L xs) hAs hfl d n mj av h).1 v h1 hq) (fun mj av h x h1 hq => (ax_call_ok (mg_ok L xs) hAs hfl d n mj av h).2 x h1 hq) n 0 (ax_entry (mgT L xs) 0 [.ref ax_big]) [] mg_h0 _ hrun 0 0 _ rfl (ax_entry_lr as 7 [.ref ax_big] (by decide)) (by show 0 + (h1.2.1 - 0) ≤ 601024; omega) (by show 0 + (h1.2.2.1 - 0) ≤ 7293034; omega) ?_ ?_ s.heap [] ⟨rfl, Nat.zero_le _, fun i c hi => by cases hi⟩ va_S.rf ⟨Nat.le_refl _, fun _ _ _ => rfl⟩
    · intro v hv pc' a' i hd hret H locs hR hS hE
      cases hv
      have hi : i = .ireturn := by
        unfold ax_ret at hret
        split at hret
        · rename_i hq; cases hq
        · rfl
        · rename_i hq _; cases hq
        · rename_i hq _; cases hq
        · rename_i hq _; cases hq
        · cases hret
      subst hi
      refine va_forget hS.2.2 ?_
      refine W.widen (k := 601024) (n := 7293034) (by show 0 + (h1.2.1 - 0) ≤ 601024; omega) (by show 0 + (h1.2.2.1 - 0) ≤ 7293034; omega) ?_
      exact lw_ret hx hb hr hlk hd
    · intro pc' ls' a' st' i h8 k1 k2 k3 k4 k5 k6
      obtain ⟨⟨x, hx⟩, -⟩ := ax_thr_mono k2
      cases hx
  rw [← e1] at key
  exact key
-- ===== YOUR PART ENDS =====
set_option maxHeartbeats 4000000 in
theorem lw_walk (l : Launch) (hfl : l.flags = Jvm.pinnedFlags ++ [Jvm.noTraceFlag]) (b : Addr) (xs : List Int32) : MetFree l x (headSpec (Jvm.Cond.code x code maxLocals ret :: tables_1) room_1) (lw_P b xs) (fun _ _ _ _ _ => True) lw_Q := by
  refine MetFree.of_bodyS (code := code) (maxLocals := maxLocals) (ret := ret) (by decide) ?_ ?_
  · intro args s m h hn
    obtain ⟨meth, c, h1, h2, h3, h4, h5, h6, -, -⟩ := Cond.code_spec hn (atoms_spec (ws := Jvm.Cond.code x code maxLocals ret :: tables_1) h _ List.mem_cons_self)
    exact ⟨meth, c, h1, h2, h3, h4, h5, h6⟩
  · intro p e s m args below meth c s₁ B hml0 hP _
    obtain ⟨rfl, hx, hbd, hgv⟩ := hP
    obtain ⟨scr, harrAt, hlist, hof, hsmall⟩ := hx
    obtain ⟨hcb, hkn, -, -⟩ := State.arrayAt?_spec harrAt
    have hown : s.vm.findClass R_law = some m.cls := findClass_of_methodNamed B.named
    have hts0 : ∀ c ∈ (Jvm.Cond.code x code maxLocals ret :: tables_1), c.before #[Value.ref b] s = true := atoms_spec (ws := Jvm.Cond.code x code maxLocals ret :: tables_1) B.pre
    have hts : ∀ w ∈ lw_tbl, w.before #[Value.ref b] s = true := k2_hts_sels lw_privs (fun w hw => hts0 w (List.mem_cons_of_mem _ hw)) lw_privs_ok
    have hml : c.maxLocals = 7 := B.maxLocals_eq (hts0 _ List.mem_cons_self)
    have X₀ : Stand p l e room_1 s m #[Value.ref b] below meth c s₁ [] 0 0 := Stand.of_body B
    have hh0 : s₁.heap = s.heap := by rw [B.state]; rfl
    have hsz : scr.slots.size = xs.length := by rw [← Array.length_toList, hlist, List.length_map]
    have hval : ∀ j : Nat, j < xs.length → scr.slots[j]? = some (.int (xs.getD j 0)) := fun j hj => by
      rw [← Array.getElem?_toList, hlist]
      simp [hj]
    have hbl : b < s.heap.size := (Array.getElem?_eq_some_iff.mp hcb).1
    have hX : va_X b xs.length (fun j => xs.getD j 0) s s.heap := ⟨scr, hcb, hof, hkn, hsz, hval⟩
    have hexc : c.exceptionTable.toList = [] := by
      obtain ⟨meth', c', g1, g2, -, -, -, -, g7, -⟩ := Cond.code_spec B.named (hts0 _ List.mem_cons_self)
      cases g1.symm.trans B.method
      cases g2.symm.trans X₀.code
      have : c.exceptionTable = #[] := by simpa using g7
      rw [this]
    have K : W p l e room_1 s m #[Value.ref b] below meth c s₁.heap [] 0 0 (lw_Z below #[Value.ref b] s) (entryFrame m ([Value.ref b] : List Value).toArray 7) := by
      rw [hh0]
      exact whole_start l hfl hbd ⟨B.exec, B.bytes, B.returns, hml, hown, hts, hX, hbl, B.notSynchronized, hgv, hexc⟩
    obtain ⟨t, a1, o, b1, b2, b3⟩ := K s₁ rfl X₀
    exact ⟨t, o, a1, b1, b2, b3⟩
theorem lw_pre_spec {args : Array Value} {s : State} (h : (Jvm.Cond.and given_1 narrow_1).before args s = true) (hr : rest_1_c.before args s = true) : ∃ (b : Addr) (xs : List Int32), lw_P b xs args s := by
  have hs := flat_of_before _ h
  have hq := flat_of_before _ hr
  have hc : (Cond.count 1).before args s = true := hs _ (by decide +kernel)
  have harr : (Cond.arrayOf (.arg 0) .int).before args s = true := hs _ (by decide +kernel)
  have hle : (Cond.le (.length (.arg 0)) (.int 1536)).before args s = true := hs _ (by decide +kernel)
  have hlen : (Cond.isInt (.length (.arg 0))).before args s = true := hq _ (by decide +kernel)
  have hall : (Cond.all (.arg 0) (.isInt (.elem (.arg 0) (.index 0)))).before args s = true := hq _ (by decide +kernel)
  obtain ⟨b, xs, hb, hx⟩ := State.ints_of_pre rfl harr hlen hall
  have hsm : xs.length < 2 ^ 31 := hx.choose_spec.2.2.2
  have hev : (Term.length (.arg 0)).eval args s none [] s = some (.int xs.length.toInt32) := hx.length_eval hb
  have hv := Cond.le_ints hev (show (Term.int 1536).eval args s none [] s = some (.int 1536) from rfl)
  have hd : xs.length.toInt32 ≤ 1536 := by
    simpa [Cond.before, Cond.holds, hv] using hle
  have hN : xs.length ≤ 1536 := (Int32.ofNat_le_ofNat hsm (by decide)).mp (show Int32.ofNat xs.length ≤ Int32.ofNat 1536 from hd)
  exact ⟨b, xs, Cond.one_arg hc (show args[0]? = some (.ref b) from hb), hx, hN, h⟩
theorem lw_comes (l : Launch) (hfl : l.flags = Jvm.pinnedFlags ++ [Jvm.noTraceFlag]) : Comes l x (Jvm.Cond.code x code maxLocals ret :: tables_1) room_1 (fun tb e args s => Calls_1 tb e args s ∧ rest_1 tb e args s ∧ Pre_1 tb e args s)
    (fun _ _ args s o t => lw_Q args s o t) := by
  intro p e ha hc hk s m args below hf hfit hheap happ hpre
  obtain ⟨b, xs, hP⟩ := lw_pre_spec hpre.2.2 hpre.2.1
  obtain ⟨k, o, h1, h2, h3, hQ⟩ := lw_walk l hfl b xs p e ha hc hk s m args below hf ((Spec.applies_iff_loose hf).mp happ).1 hP trivial
  exact ⟨k, o, h1, h2, h3, hQ⟩
theorem lw_frame {s t : State} {o : Outcome} {args : Array Value} (h : Framed s o t [] 601024 7293034) :
    Framed s o t (fieldLocs frame_1_writes args s ++ arrayLocs frame_1_arrays args s ++ staticLocs frame_1_statics s) 601024 7293034 := h
theorem lw_limb (L : Cond) (hL : ∀ (args : Array Value) (s t : State), L.after args s (.returned (some (.int 1))) t = true) :
    ArmFor flags0 classFile x code maxLocals ret World_1 tables_1 room_1 Calls_1 rest_1 Pre_1
      (fun tb e a s o t => postC L tb e a s o t ∧ Framed s o t (fieldLocs frame_1_writes a s ++ arrayLocs frame_1_arrays a s ++ staticLocs frame_1_statics s) 601024 7293034) := by
  intro l hfl _ _ p e ha hc hk s m args below hf hfit hheap happ hpre
  obtain ⟨k, o, h1, h2, h3, rfl, hF⟩ := lw_comes l hfl p e ha hc hk s m args below hf hfit hheap happ hpre
  exact ⟨k, _, h1, h2, h3, hL args s _, lw_frame hF⟩
theorem i_vc : Claimed_1_1 ∧ Claimed_1_2 := ⟨lw_limb limb_1_1 (fun args s t => by simp [limb_1_1, Cond.after, Cond.holds, Cond.value]), lw_limb limb_1_2 (fun args s t => Cond.after_iff.mpr (by
  first | (rw [show limb_1_2 = Cond.eq .result (.int 1) from rfl, Cond.eq_ints (x := 1) (y := 1) rfl rfl]; simp; done) | (simp [limb_1_2, Cond.value, Term.eval]; done)))⟩
