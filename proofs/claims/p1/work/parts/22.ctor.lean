/-! the constructors, run by the kernel -/
def ax_obj (h : ax_H) (a : Nat) : Option (Nat × List Value) := match h.1 a with
  | some (.inr o) => some o
  | _ => none
def ax_arr (h : ax_H) (a : Nat) : Option (Nat × Nat) := match h.1 a with
  | some (.inl (t, n, .inl _)) => some (t, n)
  | _ => none
theorem ax_obj_at {h : ax_H} {a : Nat} {o : Nat × List Value} (e : ax_obj h a = some o) : h.1 a = some (.inr o) := by
  unfold ax_obj at e
  split at e
  · rename_i q hq; cases e; exact hq
  · cases e
theorem ax_arr_at {h : ax_H} {a t n : Nat} (e : ax_arr h a = some (t, n)) : ∃ f, h.1 a = some (.inl (t, n, .inl f)) := by
  unfold ax_arr at e
  split at e
  · rename_i t' n' f hq; cases e; exact ⟨f, hq⟩
  · cases e
def mg_hA : ax_H := ax_add mg_h0 (.inr (0, ax_blank mg_T0 0 4)) 4
