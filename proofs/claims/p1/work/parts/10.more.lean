/-! small rows for walks by program -/
theorem ag_top {T : ax_T} {d mi pc : Nat} {ls : ax_L} {st : List Value} {h : ax_H} {o : ax_O} {x y : Int32} (e : x = y) (k : ax_Go T d mi pc ls (.int y :: st) h o) : ax_Go T d mi pc ls (.int x :: st) h o := e ▸ k
theorem ag_ref {T : ax_T} {d mi pc : Nat} {ls : ax_L} {st : List Value} {h : ax_H} {o : ax_O} {a b : Nat} (e : a = b) (k : ax_Go T d mi pc ls (.ref b :: st) h o) : ax_Go T d mi pc ls (.ref a :: st) h o := e ▸ k
theorem ax_up_at (h : ax_H) (a : Nat) (c : ax_C) : (ax_up h a c).1 a = some c := if_pos rfl
theorem ax_up_ne (h : ax_H) (c : ax_C) {a b : Nat} (e : b ≠ a) : (ax_up h a c).1 b = h.1 b := if_neg e
theorem ax_one_at (h : ax_H) (a : Nat) : (ax_one h).1 a = h.1 a := rfl
theorem ax_one_sz {h : ax_H} {n : Nat} (e : h.2.1 = n) : (ax_one h).2.1 = n + 1 := congrArg (fun q => q + 1) e
theorem ax_lt {h : ax_H} {a n : Nat} (e : h.2.1 = n) (l : a < n) : a < h.2.1 := e ▸ l
theorem ag_tswIn {T : ax_T} {d mi pc : Nat} {ls : ax_L} {st : List Value} {h : ax_H} {o : ax_O} {x : Int32} {dflt lo hi of : Int} {offs : Array Int} {len t : Nat} (hd : decode (ax_code T mi) pc = .ok (.tableswitch dflt lo hi offs, len)) (h1 : ¬ (x.toInt < lo ∨ hi < x.toInt)) (ho : offs[(x.toInt - lo).toNat]? = some of) (ht : ax_jmp pc of = some t) (k : ax_Go T d mi t ls st h o) : ax_Go T d mi pc ls (.int x :: st) h o := by
  refine ag_pure hd ?_ k
  simp only [ax_pure, ax_stk, if_neg h1, ho, Option.bind_some, ht, Option.map_some]
theorem ag_tswOut {T : ax_T} {d mi pc : Nat} {ls : ax_L} {st : List Value} {h : ax_H} {o : ax_O} {x : Int32} {dflt lo hi : Int} {offs : Array Int} {len t : Nat} (hd : decode (ax_code T mi) pc = .ok (.tableswitch dflt lo hi offs, len)) (h1 : x.toInt < lo ∨ hi < x.toInt) (ht : ax_jmp pc dflt = some t) (k : ax_Go T d mi t ls st h o) : ax_Go T d mi pc ls (.int x :: st) h o := by
  refine ag_pure hd ?_ k
  simp only [ax_pure, ax_stk, if_pos h1, ht, Option.map_some]
theorem ag_new {T : ax_T} {d mi pc : Nat} {ls : ax_L} {st : List Value} {h : ax_H} {o : ax_O} {idx ci n : Nat} (hd : decode (ax_code T mi) pc = .ok (.new idx, 3)) (hpl : ax_pl T mi idx = (4, ci, n)) (hb : h.2.1 < ax_big) (k : ax_Go T d mi (pc + 3) ls (.ref h.2.1 :: st) (ax_add h (.inr (ci, ax_blank T ci n)) n) o) : ax_Go T d mi pc ls st h o := by
  refine ag_mem hd rfl ?_ k
  simp only [ax_mem, ax_new, hpl, hb, and_self, if_true]
theorem ag_newl {T : ax_T} {d mi pc t : Nat} {ls : ax_L} {st : List Value} {h : ax_H} {o : ax_O} {n : Int32} (hd : decode (ax_code T mi) pc = .ok (.newarray .long, 2)) (ht : ax_tn T .long = some t) (hb : ¬ (n < 0 ∨ 65536 < n.toNatClampNeg ∨ ax_big ≤ h.2.1)) (k : ax_Go T d mi (pc + 2) ls (.ref h.2.1 :: st) (ax_add h (.inl (t, n.toNatClampNeg, .inr (.inl (fun _ => 0)))) n.toNatClampNeg) o) : ax_Go T d mi pc ls (.int n :: st) h o := by
  refine ag_mem hd rfl ?_ k
  have ht' : ax_tn T (newarray.typeOf .long) = some t := ht
  simp only [ax_mem, ax_newa, if_neg hb, ht']
