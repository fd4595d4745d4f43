/-! small rows for walks by program -/
theorem ag_top {T : ax_T} {d mi pc : Nat} {ls : ax_L} {st : List Value} {h : ax_H} {o : ax_O} {x y : Int32} (e : x = y) (k : ax_Go T d mi pc ls (.int y :: st) h o) : ax_Go T d mi pc ls (.int x :: st) h o := e ▸ k
theorem ag_ref {T : ax_T} {d mi pc : Nat} {ls : ax_L} {st : List Value} {h : ax_H} {o : ax_O} {a b : Nat} (e : a = b) (k : ax_Go T d mi pc ls (.ref b :: st) h o) : ax_Go T d mi pc ls (.ref a :: st) h o := e ▸ k
theorem ax_up_at (h : ax_H) (a : Nat) (c : ax_C) : (ax_up h a c).1 a = some c := if_pos rfl
theorem ax_up_ne (h : ax_H) (c : ax_C) {a b : Nat} (e : b ≠ a) : (ax_up h a c).1 b = h.1 b := if_neg e
theorem ax_one_at (h : ax_H) (a : Nat) : (ax_one h).1 a = h.1 a := rfl
theorem ax_one_sz {h : ax_H} {n : Nat} (e : h.2.1 = n) : (ax_one h).2.1 = n + 1 := congrArg (fun q => q + 1) e
theorem ax_lt {h : ax_H} {a n : Nat} (e : h.2.1 = n) (l : a < n) : a < h.2.1 := e ▸ l
