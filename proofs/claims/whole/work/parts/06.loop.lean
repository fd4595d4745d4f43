section AX4
variable {p : Program} {l : Launch} {e : Env} {R : Room} {s : State} {m : MethodId} {args : Array Value} {below : List Frame} {meth : Method} {c : Code} {H : Heap} {locs : List Loc} {cells slots : Nat} {Q : State → Prop}
variable {pc w : Nat} {b : Nat} {as : Nat → Nat} {a : Array Slot} {ls : ax_L} {T : ax_T} {TB : List Jvm.Cond} {D : va_G} {tA : Nat → ClassId} {mi : Nat} {h : ax_H}
theorem ax_ald_mono {i : Instr} {j : Int32} {q pc' : Nat} {r st' : List Value} {ls' : ax_L} {h' : ax_H} (hp : ax_ald T i j q pc ls r h = some (pc', ls', st', h')) : ls' = ls ∧ h.2.1 ≤ h'.2.1 ∧ h.2.2.1 ≤ h'.2.2.1 := by
  unfold ax_ald at hp
  split at hp
  · unfold ax_scr at hp
    split at hp
    · split at hp
      · split at hp
        · cases hp
        · cases hp; exact ⟨rfl, Nat.le_refl _, Nat.le_refl _⟩
      · cases hp
    · cases hp
  · split at hp
    · split at hp
      · cases hp
      · split at hp <;> cases hp <;> exact ⟨rfl, Nat.le_refl _, Nat.le_refl _⟩
    · cases hp
theorem ax_mem_mono {i : Instr} {st st' : List Value} {pc' : Nat} {ls' : ax_L} {h' : ax_H} (hp : ax_mem T mi i pc ls st h = some (pc', ls', st', h')) : ls' = ls ∧ h.2.1 ≤ h'.2.1 ∧ h.2.2.1 ≤ h'.2.2.1 := by
  unfold ax_mem at hp
  split at hp
  · unfold ax_getf at hp
    split at hp
    · split at hp
      · rw [Option.map_eq_some_iff] at hp
        obtain ⟨v, -, hv⟩ := hp
        cases hv
        exact ⟨rfl, Nat.le_refl _, Nat.le_refl _⟩
      · cases hp
    · cases hp
  · unfold ax_putf at hp
    split at hp
    · split at hp
      · cases hp; exact ⟨rfl, Nat.le_refl _, Nat.le_refl _⟩
      · cases hp
    · cases hp
  iterate 4 · exact ax_ald_mono hp
  iterate 4
    · unfold ax_ast at hp
      split at hp
      · split at hp
        · cases hp
        · split at hp
          · cases hp; exact ⟨rfl, Nat.le_refl _, Nat.le_refl _⟩
          · cases hp; exact ⟨rfl, Nat.le_refl _, Nat.le_refl _⟩
          · cases hp; exact ⟨rfl, Nat.le_refl _, Nat.le_refl _⟩
          · split at hp
            · split at hp
              · cases hp; exact ⟨rfl, Nat.le_refl _, Nat.le_refl _⟩
              · cases hp
            · cases hp
          · cases hp
      · cases hp
  · unfold ax_alen at hp
    split at hp
    · rw [Option.map_eq_some_iff] at hp
      obtain ⟨q9, hq9, hp⟩ := hp
      cases hp; exact ⟨rfl, Nat.le_refl _, Nat.le_refl _⟩
    · split at hp
      · split at hp
        · cases hp; exact ⟨rfl, Nat.le_refl _, Nat.le_refl _⟩
        · cases hp
      · cases hp
  · unfold ax_newa at hp
    split at hp
    · cases hp
    · split at hp <;> cases hp <;> exact ⟨rfl, Nat.le_succ _, Nat.le_add_right _ _⟩
  · unfold ax_anew at hp
    split at hp
    · cases hp
    · split at hp
      · split at hp
        · split at hp
          · cases hp; exact ⟨rfl, Nat.le_succ _, Nat.le_add_right _ _⟩
          · cases hp
        · cases hp
      · cases hp
  · unfold ax_new at hp
    split at hp
    · cases hp; exact ⟨rfl, Nat.le_succ _, Nat.le_add_right _ _⟩
    · cases hp
  · unfold ax_ldc2 at hp
    split at hp
    · cases hp; exact ⟨rfl, Nat.le_refl _, Nat.le_refl _⟩
    · cases hp
  · unfold ax_oini at hp
    split at hp
    · cases hp; exact ⟨rfl, Nat.le_refl _, Nat.le_refl _⟩
    · cases hp
  · cases hp
theorem ax_mem_ok (hO : ax_ok TB T) (X : ax_X b as TB T D tA mi p s m args meth c) (hl : ax_lr as ls a) (hml : ls.length = ax_mx T mi) (hRf : 1 ≤ R.frames) (hRl : 20 ≤ R.locals) {i : Instr} {st st' : List Value} {pc' : Nat} {ls' : ax_L} {h' : ax_H} (hd : decode (ax_code T mi) pc = .ok (i, ax_ml i)) (hp : ax_mem T mi i pc ls st h = some (pc', ls', st', h'))
    (hc : cells + (h'.2.1 - h.2.1) ≤ R.cells) (hs : slots + (h'.2.2.1 - h.2.2.1) ≤ R.slots)
    (k : ax_G w b as T D tA p l e R s m args below meth c (cells + (h'.2.1 - h.2.1)) (slots + (h'.2.2.1 - h.2.2.1)) Q h' pc' a st') : ax_G w b as T D tA p l e R s m args below meth c cells slots Q h pc a st := by
  have same : (h'.2.1 = h.2.1 ∧ h'.2.2.1 = h.2.2.1) → ax_G w b as T D tA p l e R s m args below meth c cells slots Q h' pc' a st' := by
    intro q
    rw [q.1, q.2, Nat.sub_self, Nat.sub_self] at k
    exact k
  have same' : h' = h → ax_G w b as T D tA p l e R s m args below meth c cells slots Q h' pc' a st' := fun q => same ⟨by rw [q], by rw [q]⟩
  unfold ax_mem at hp
  split at hp
  · exact ax_getf_ok hO.1 hO.2.1 X hd hp (fun _ => same')
  · exact ax_putf_ok hO.1 hO.2.1 X hd hp (fun _ => same)
  · exact ax_ald_ok X hd hp (fun _ => same')
  · exact ax_ald_ok X hd hp (fun _ => same')
  · exact ax_ald_ok X hd hp (fun _ => same')
  · exact ax_ald_ok X hd hp (fun _ => same')
  · exact ax_ast_ok X hd hp (fun _ => same)
  · exact ax_ast_ok X hd hp (fun _ => same)
  · exact ax_ast_ok X hd hp (fun _ => same)
  · exact ax_ast_ok X hd hp (fun _ => same)
  · exact ax_alen_ok X hd hp (fun _ => same')
  · exact ax_newa_ok hO.2.2.1 X hd hp hc hs (fun _ _ _ => k)
  · exact ax_anew_ok hO.2.2.1 hO.2.1 X hd hp hc hs (fun _ _ _ => k)
  · exact ax_new_ok hO.1 hO.2.1 X hd hp hc hs (fun _ _ _ => k)
  · exact ax_ldc2_ok hO.2.1 X hd hp (fun _ => same')
  · exact ax_oini_ok hO.2.1 X hl hml hRf hRl hd hp (fun _ => same')
  · cases hp
theorem ax_thr_mono {i : Instr} {st : List Value} {o : ax_O} (h0 : ax_thr T mi i pc st h = some o) : (∃ x, o = (.inr x, ax_one h)) ∧ h.2.1 ≤ o.2.2.1 ∧ h.2.2.1 ≤ o.2.2.2.1 := by
  unfold ax_thr at h0
  split at h0
  · split at h0
    · split at h0
      · cases h0; exact ⟨⟨_, rfl⟩, Nat.le_succ _, Nat.le_add_right _ _⟩
      · cases h0
    · cases h0
  · cases h0
theorem ax_loop_mono {cf : Nat → List Value → ax_H → Option ax_O} (hcf : ∀ mj av h o, cf mj av h = some o → h.2.1 ≤ o.2.2.1 ∧ h.2.2.1 ≤ o.2.2.2.1) :
    ∀ (n pc : Nat) (ls : ax_L) (st : List Value) (h : ax_H) (o : ax_O), ax_loop T cf mi n pc ls st h = some o → h.2.1 ≤ o.2.2.1 ∧ h.2.2.1 ≤ o.2.2.2.1 := by
  intro n
  induction n with
  | zero => intro pc ls st h o hr; cases hr
  | succ n ih =>
    intro pc ls st h o hr
    rw [ax_loop] at hr
    split at hr
    · split at hr
      · exact ih _ _ _ _ _ hr
      · split at hr
        · split at hr
          · rename_i hp
            obtain ⟨-, m1, m2⟩ := ax_mem_mono hp
            obtain ⟨g1, g2⟩ := ih _ _ _ _ _ hr
            exact ⟨Nat.le_trans m1 g1, Nat.le_trans m2 g2⟩
          · split at hr
            · split at hr
              · rename_i hcall
                obtain ⟨m1, m2⟩ := hcf _ _ _ _ hcall
                obtain ⟨g1, g2⟩ := ih _ _ _ _ _ hr
                exact ⟨Nat.le_trans m1 g1, Nat.le_trans m2 g2⟩
              · rename_i hcall
                obtain ⟨m1, m2⟩ := hcf _ _ _ _ hcall
                split at hr
                · split at hr
                  · obtain ⟨g1, g2⟩ := ih _ _ _ _ _ hr
                    exact ⟨Nat.le_trans m1 g1, Nat.le_trans m2 g2⟩
                  · cases hr
                · cases hr
              · cases hr
            · split at hr
              · exact ih _ _ _ _ _ hr
              · split at hr
                · rename_i ht
                  cases hr
                  exact (ax_thr_mono ht).2
                · cases hv : ax_ret (ax_rt T mi) _ st with
                  | none => rw [hv] at hr; cases hr
                  | some w => rw [hv] at hr; cases hr; exact ⟨Nat.le_refl _, Nat.le_refl _⟩
        · cases hr
    · cases hr
theorem ax_call_spec {d n mi : Nat} {av : List Value} {h : ax_H} {o : ax_O} (hr : ax_call T (d + 1) n mi av h = some o) : (ax_sl av).length ≤ ax_mx T mi ∧ ax_loop T (ax_call T d n) mi n 0 (ax_entry T mi av) [] h = some o ∧ ax_fit1 h o = true := by
  rw [ax_call] at hr
  split at hr
  · rename_i hl
    rw [Option.filter_eq_some_iff] at hr
    exact ⟨hl, hr.1, hr.2⟩
  · cases hr
theorem ax_call_mono : ∀ (d n mi : Nat) (av : List Value) (h : ax_H) (o : ax_O), ax_call T d n mi av h = some o → h.2.1 ≤ o.2.2.1 ∧ h.2.2.1 ≤ o.2.2.2.1 := by
  intro d
  induction d with
  | zero => intro n mi av h o hr; cases hr
  | succ d ih =>
    intro n mi av h o hr
    exact ax_loop_mono (ih n) _ _ _ _ _ _ (ax_call_spec hr).2.1
/-- a run of a method's body is the machine's: from here to the instruction that returns, or to the one that throws -/
theorem ax_loop_ok (hO : ax_ok TB T) (X : ax_X b as TB T D tA mi p s m args meth c) {d : Nat} (hRf : d + 9 ≤ R.frames) (hRl : 40 * d + 160 ≤ R.locals) {cf : Nat → List Value → ax_H → Option ax_O}
    (hcm : ∀ mj av h o, cf mj av h = some o → h.2.1 ≤ o.2.2.1 ∧ h.2.2.1 ≤ o.2.2.2.1) (hcf : ∀ mj av h v h1, cf mj av h = some (.inl v, h1) → ax_K TB T D tA b as l d mj av h v h1) (hct : ∀ mj av h x h1, cf mj av h = some (.inr x, h1) → ax_KT TB T D tA b as l d mj av h x h1) :
    ∀ (n pc : Nat) (ls : ax_L) (st : List Value) (h : ax_H) (o : ax_O), ax_loop T cf mi n pc ls st h = some o →
      ∀ (cells slots : Nat) (a : Array Slot), ls.length = ax_mx T mi → ax_lr as ls a → cells + (o.2.2.1 - h.2.1) ≤ R.cells → slots + (o.2.2.2.1 - h.2.2.1) ≤ R.slots →
        (∀ (v : Option Value), o.1 = .inl v → ∀ (pc' : Nat) (a' : Array Slot) (i : Instr), decode (ax_code T mi) pc' = .ok (i, ax_ml i) → ax_ret (ax_rt T mi) i v.toList = some v → ax_G w b as T D tA p l e R s m args below meth c (cells + (o.2.2.1 - h.2.1)) (slots + (o.2.2.2.1 - h.2.2.1)) Q o.2 pc' a' v.toList) →
        (∀ (pc' : Nat) (ls' : ax_L) (a' : Array Slot) (st' : List Value) (i : Instr) (h8 : ax_H), decode (ax_code T mi) pc' = .ok (i, ax_ml i) → ax_thr T mi i pc' st' h8 = some o → ls'.length = ax_mx T mi → ax_lr as ls' a' → h.2.1 ≤ h8.2.1 → h.2.2.1 ≤ h8.2.2.1 → ax_G w b as T D tA p l e R s m args below meth c (cells + (h8.2.1 - h.2.1)) (slots + (h8.2.2.1 - h.2.2.1)) Q h8 pc' a' st') →
        ax_G w b as T D tA p l e R s m args below meth c cells slots Q h pc a st := by
  intro n
  induction n with
  | zero => intro pc ls st h o hr; cases hr
  | succ n ih =>
    intro pc ls st h o hr
    rw [ax_loop] at hr
    split at hr
    · rename_i i len hd
      split at hr
      · rename_i pc' ls' st' hp
        have g3 := ih _ _ _ _ _ hr
        intro cells slots a hml hl hc hs fin fit H locs hR hS hE0
        exact ax_pure_ok X.1 X.2.1 hd hp hl (fun a' hl' hlen => g3 cells slots a' (hlen.trans hml) hl' hc hs fin fit H locs hR hS hE0)
      · split at hr
        · rename_i hlen
          subst hlen
          split at hr
          · rename_i pc' ls' st' h' hp
            obtain ⟨rfl, m1, m2⟩ := ax_mem_mono hp
            have g3 := ih _ _ _ _ _ hr
            obtain ⟨g1, g2⟩ := ax_loop_mono hcm _ _ _ _ _ _ hr
            intro cells slots a hml hl hc hs fin fit
            refine ax_mem_ok hO X hl hml (by omega) (by omega) hd hp (by omega) (by omega) (g3 _ _ a hml hl (by omega) (by omega) ?_ ?_)
            · rw [show cells + (h'.2.1 - h.2.1) + (o.2.2.1 - h'.2.1) = cells + (o.2.2.1 - h.2.1) by omega, show slots + (h'.2.2.1 - h.2.2.1) + (o.2.2.2.1 - h'.2.2.1) = slots + (o.2.2.2.1 - h.2.2.1) by omega]
              exact fin
            · intro pc9 ls9 a9 st9 i9 h8 k1 k2 k3 k4 k5 k6
              rw [show cells + (h'.2.1 - h.2.1) + (h8.2.1 - h'.2.1) = cells + (h8.2.1 - h.2.1) by omega, show slots + (h'.2.2.1 - h.2.2.1) + (h8.2.2.1 - h'.2.2.1) = slots + (h8.2.2.1 - h.2.2.1) by omega]
              exact fit pc9 ls9 a9 st9 i9 h8 k1 k2 k3 k4 (by omega) (by omega)
          · split at hr
            · rename_i mj av r hi
              have hd3 : decode (ax_code T mi) pc = .ok (i, 3) := by
                have : ax_ml i = 3 := by
                  unfold ax_inv at hi
                  split at hi
                  · rfl
                  · rfl
                  · rfl
                  · cases hi
                rw [← this]; exact hd
              split at hr
              · rename_i v h' hcall
                obtain ⟨m1, m2⟩ := hcm _ _ _ _ hcall
                dsimp only at m1 m2
                have hM := hcf _ _ _ _ _ hcall
                have g3 := ih _ _ _ _ _ hr
                obtain ⟨g1, g2⟩ := ax_loop_mono hcm _ _ _ _ _ _ hr
                intro cells slots a hml hl hc hs fin fit
                refine ax_inv_ok hO X hl hml hRf hRl hd3 hi hM (by omega) (by omega) (g3 _ _ a hml hl (by omega) (by omega) ?_ ?_)
                · rw [show cells + (h'.2.1 - h.2.1) + (o.2.2.1 - h'.2.1) = cells + (o.2.2.1 - h.2.1) by omega, show slots + (h'.2.2.1 - h.2.2.1) + (o.2.2.2.1 - h'.2.2.1) = slots + (o.2.2.2.1 - h.2.2.1) by omega]
                  exact fin
                · intro pc9 ls9 a9 st9 i9 h8 k1 k2 k3 k4 k5 k6
                  rw [show cells + (h'.2.1 - h.2.1) + (h8.2.1 - h'.2.1) = cells + (h8.2.1 - h.2.1) by omega, show slots + (h'.2.2.1 - h.2.2.1) + (h8.2.2.1 - h'.2.2.1) = slots + (h8.2.2.1 - h.2.2.1) by omega]
                  exact fit pc9 ls9 a9 st9 i9 h8 k1 k2 k3 k4 (by omega) (by omega)
              · rename_i x h' hcall
                split at hr
                · rename_i hcv
                  split at hr
                  · rename_i pc' hh
                    have hM := hct _ _ _ _ _ hcall
                    obtain ⟨e1, e2, e3⟩ := hM.1
                    have g3 := ih _ _ _ _ _ hr
                    obtain ⟨g1, g2⟩ := ax_loop_mono hcm _ _ _ _ _ _ hr
                    intro cells slots a hml hl hc hs fin fit
                    refine ax_catchV hO X hl hml hRf hRl hd3 hcv hi hM hh (by omega) (by omega) (g3 _ _ a hml hl (by omega) (by omega) ?_ ?_)
                    · rw [show cells + 1 + (o.2.2.1 - h'.2.1) = cells + (o.2.2.1 - h.2.1) by omega, show slots + 6 + (o.2.2.2.1 - h'.2.2.1) = slots + (o.2.2.2.1 - h.2.2.1) by omega]
                      exact fin
                    · intro pc9 ls9 a9 st9 i9 h8 k1 k2 k3 k4 k5 k6
                      rw [show cells + 1 + (h8.2.1 - h'.2.1) = cells + (h8.2.1 - h.2.1) by omega, show slots + 6 + (h8.2.2.1 - h'.2.2.1) = slots + (h8.2.2.1 - h.2.2.1) by omega]
                      exact fit pc9 ls9 a9 st9 i9 h8 k1 k2 k3 k4 (by omega) (by omega)
                  · cases hr
                · cases hr
              · cases hr
            · split at hr
              · rename_i pc' st' hp
                have g3 := ih _ _ _ _ _ hr
                intro cells slots a hml hl hc hs fin fit
                exact ax_pri_ok hO X hl hml (by omega) (by omega) (by omega) (by omega) hd hp (g3 cells slots a hml hl hc hs fin fit)
              · split at hr
                · rename_i o' ht
                  cases hr
                  intro cells slots a hml hl hc hs fin fit
                  have := fit pc ls a st i h hd ht hml hl (Nat.le_refl _) (Nat.le_refl _)
                  rw [Nat.sub_self, Nat.sub_self] at this
                  exact this
                · cases hv : ax_ret (ax_rt T mi) i st with
                  | none => rw [hv] at hr; cases hr
                  | some v =>
                    rw [hv] at hr
                    cases hr
                    intro cells slots a hml hl hc hs fin fit
                    have hst : st = v.toList := by
                      unfold ax_ret at hv
                      split at hv
                      · cases hv; rfl
                      · split at hv
                        · cases hv; rfl
                        · cases hv
                      · cases hv; rfl
                      · cases hv; rfl
                      · cases hv; rfl
                      · cases hv
                    subst hst
                    have := fin v rfl pc a i hd hv
                    rw [Nat.sub_self, Nat.sub_self] at this
                    exact this
        · cases hr
    · cases hr
theorem ax_sl_get (as : Nat → Nat) : ∀ (av : List Value) (i : Nat) (v : Value), (ax_sl av)[i]? = some (some v) → (lg_sl (av.map (ax_tv as)))[i]? = some (.val (ax_tv as v)) := by
  intro av
  induction av with
  | nil => intro i v h; simp [ax_sl] at h
  | cons x av ih =>
    intro i v h
    by_cases hx : x.category = 2
    · have e1 : ax_sl (x :: av) = some x :: none :: ax_sl av := by simp [ax_sl, hx]
      have e2 : lg_sl ((x :: av).map (ax_tv as)) = .val (ax_tv as x) :: .second :: lg_sl (av.map (ax_tv as)) := by simp [lg_sl, ax_tv_cat, hx]
      rw [e1] at h
      rw [e2]
      match i, h with
      | 0, h => simp at h; subst h; rfl
      | 1, h => simp at h
      | i + 2, h => exact ih i v (by simpa using h)
    · have e1 : ax_sl (x :: av) = some x :: ax_sl av := by simp [ax_sl, hx]
      have e2 : lg_sl ((x :: av).map (ax_tv as)) = .val (ax_tv as x) :: lg_sl (av.map (ax_tv as)) := by simp [lg_sl, ax_tv_cat, hx]
      rw [e1] at h
      rw [e2]
      match i, h with
      | 0, h => simp at h; subst h; rfl
      | i + 1, h => exact ih i v (by simpa using h)
theorem ax_sl_len (as : Nat → Nat) (av : List Value) : (lg_sl (av.map (ax_tv as))).length = (ax_sl av).length := by
  induction av with
  | nil => rfl
  | cons x av ih =>
    by_cases hx : x.category = 2
    · simp only [ax_sl, lg_sl, List.map_cons, List.flatMap_cons, ax_tv_cat, hx, if_true, List.length_append] at ih ⊢
      simp only [List.length_cons, List.length_nil]
      omega
    · simp only [ax_sl, lg_sl, List.map_cons, List.flatMap_cons, ax_tv_cat, hx, if_false, List.length_append] at ih ⊢
      simp only [List.length_cons, List.length_nil]
      omega
theorem ax_entry_lr (as : Nat → Nat) (n : Nat) (av : List Value) (hn : (ax_sl av).length ≤ n) : ax_lr as (ax_sl av ++ List.replicate (n - (ax_sl av).length) none) ((lg_sl (av.map (ax_tv as)) ++ List.replicate (n - (lg_sl (av.map (ax_tv as))).length) Slot.unset).toArray) := by
  obtain ⟨h1, h2, -⟩ := lv_entry (av.map (ax_tv as)) (n := n) (by rw [ax_sl_len]; exact hn)
  refine ⟨by rw [h1]; simp; omega, h2, fun i v hv => ?_⟩
  by_cases hi : i < (ax_sl av).length
  · rw [List.getElem?_append_left hi] at hv
    have := ax_sl_get as av i v hv
    rw [List.getElem?_toArray, List.getElem?_append_left (by rw [ax_sl_len]; exact hi)]
    exact this
  · rw [List.getElem?_append_right (by omega), List.getElem?_replicate] at hv
    split at hv <;> cases hv
theorem ax_his {mi : Nat} {args : Array Value} {s : State} {m : MethodId} (h : (ax_cd T mi).before args s = true) (hn : s.methodNamed? (ax_nm T mi) = some m) : ∃ meth c, s.vm.method? m = some meth ∧ meth.code = some c ∧ c.code = ax_code T mi ∧ c.maxLocals = ax_mx T mi ∧ meth.sig.returnType = ax_rt T mi ∧ meth.locks = false ∧ c.exceptionTable.toList.map (fun h => (h.startPc, h.endPc, h.handlerPc, h.catchType)) = ax_hs T mi := by
  by_cases hh : ax_hs T mi = []
  · rw [ax_cd_n hh] at h
    obtain ⟨meth, c, h1, h2, h3, h4, h5, h6, h7, -⟩ := Cond.code_spec hn h
    refine ⟨meth, c, h1, h2, h3, h4, h5, h6, ?_⟩
    rw [hh]
    have : c.exceptionTable = #[] := by simpa using h7
    rw [this]
    rfl
  · rw [ax_cd_c hh] at h
    obtain ⟨m', meth, c, h0, h1, h2, h3, h4, h5, h6, h7, -⟩ := Cond.codeWith_spec h
    cases h0.symm.trans hn
    exact ⟨meth, c, h1, h2, h3, h4, h6, h7, h5⟩
/-- every call of the abstract machine is a contract -/
theorem ax_call_ok (hO : ax_ok TB T) (hAs : ax_As b as) (hfl : l.flags = Jvm.pinnedFlags ++ [Jvm.noTraceFlag]) : ∀ (d n mi : Nat) (av : List Value) (h : ax_H), (∀ (v : Option Value) (h1 : ax_H), ax_call T d n mi av h = some (.inl v, h1) → ax_K TB T D tA b as l d mi av h v h1) ∧ (∀ (x : Nat) (h1 : ax_H), ax_call T d n mi av h = some (.inr x, h1) → ax_KT TB T D tA b as l d mi av h x h1) := by
  intro d
  induction d with
  | zero => intro n mi av h; exact ⟨fun v h1 hr => (by cases hr), fun v h1 hr => (by cases hr)⟩
  | succ d ih =>
    intro n mi av h
    have his : ∀ (rm : Room) (args : Array Value) (s : State) (m : MethodId), (headSpec (ax_w TB T mi) rm).pre.before args s = true → s.methodNamed? (ax_nm T mi) = some m → ∃ meth c, s.vm.method? m = some meth ∧ meth.code = some c ∧ c.code = ax_code T mi ∧ c.maxLocals = ax_mx T mi ∧ meth.sig.returnType = ax_rt T mi ∧ meth.locks = false := by
      intro rm args s m hp hn
      obtain ⟨meth, c, h1, h2, h3, h4, h5, h6, -⟩ := ax_his (T := T) (mi := mi) (atoms_spec (ws := ax_w TB T mi) hp _ List.mem_cons_self) hn
      exact ⟨meth, c, h1, h2, h3, h4, h5, h6⟩
    have mkX : ∀ {rm : Room} {p : Program} {e : Env} {s : State} {m : MethodId} {below : List Frame} {meth : Method} {c : Code} {s₁ : State}, BodyLoose p l (ax_nm T mi) (headSpec (ax_w TB T mi) rm) (ax_code T mi) (ax_mx T mi) (ax_rt T mi) e s m (av.map (ax_tv as)).toArray below meth c s₁ → c.maxLocals = ax_mx T mi → va_K D (ax_cl T) (ax_tys tA T) s → ax_ro b as T s s.heap → ax_X b as TB T D tA mi p s m (av.map (ax_tv as)).toArray meth c := by
      intro rm p e s m below meth c s₁ B hml hK hX
      have hts := atoms_spec (ws := ax_w TB T mi) B.pre
      obtain ⟨meth', c', h1, h2, h3, h4, h5, h6, h7⟩ := ax_his (T := T) (mi := mi) (hts _ List.mem_cons_self) B.named
      cases h1.symm.trans B.method
      cases h2.symm.trans (Stand.of_body B).code
      exact ⟨B.exec, B.bytes, hml, B.returns, B.notSynchronized, h7, fun hq => by rw [(name_of_methodNamed B.named B.method).1]; exact hq, findClass_of_methodNamed B.named, fun w hw => hts w (List.mem_cons_of_mem _ hw), hK, hX, hAs⟩
    refine ⟨fun v h1 hr => ?_, fun x h1 hr => ?_⟩
    · obtain ⟨hsl, hr, -⟩ := ax_call_spec hr
      unfold ax_K Met
      refine MetFree.of_bodyS (code := ax_code T mi) (maxLocals := ax_mx T mi) (ret := ax_rt T mi) (hO.2.2.2.1 mi) (his _) ?_
      intro p e s m args below meth c s₁ B hml hv _
      obtain ⟨rfl, hR, hK, hX⟩ := hv
      have X := mkX B hml hK hX
      have hh0 : s₁.heap = s.heap := by rw [B.state]; rfl
      have K : W p l e (ax_rm (d + 1) (h1.2.1 - h.2.1) (h1.2.2.1 - h.2.2.1)) s m (av.map (ax_tv as)).toArray below meth c s.heap [] 0 0 (MQ below (fun _ st o t => o = .returned (v.map (ax_tv as)) ∧ ax_R b as D (ax_cl T) tA h1 t.heap ∧ va_F (fun q => b ≤ q) st t ∧ ax_E h.2.2.2 h1 st.heap t.heap) (av.map (ax_tv as)).toArray s (h1.2.1 - h.2.1) (h1.2.2.1 - h.2.2.1) (fun q => b ≤ q)) (entryFrame m (av.map (ax_tv as)).toArray (ax_mx T mi)) := by
        rw [lg_entry_eq]
        have g := ax_loop_ok (w := h.2.2.2) (b := b) (as := as) (l := l) (e := e) (R := ax_rm (d + 1) (h1.2.1 - h.2.1) (h1.2.2.1 - h.2.2.1)) (below := below) (Q := MQ below (fun _ st o t => o = .returned (v.map (ax_tv as)) ∧ ax_R b as D (ax_cl T) tA h1 t.heap ∧ va_F (fun q => b ≤ q) st t ∧ ax_E h.2.2.2 h1 st.heap t.heap) (av.map (ax_tv as)).toArray s (h1.2.1 - h.2.1) (h1.2.2.1 - h.2.2.1) (fun q => b ≤ q)) hO X (d := d) (by show d + 9 ≤ d + 1 + 8; omega) (by show 40 * d + 160 ≤ 40 * (d + 1) + 120; omega) (ax_call_mono d n) (fun mj av h v h1 hq => (ih n mj av h).1 v h1 hq) (fun mj av h x h1 hq => (ih n mj av h).2 x h1 hq) n 0 (ax_entry T mi av) [] h (.inl v, h1) hr
        refine g 0 0 _ (by simp [ax_entry]; omega) (ax_entry_lr as _ av hsl) (by show 0 + (h1.2.1 - h.2.1) ≤ h1.2.1 - h.2.1; omega) (by show 0 + (h1.2.2.1 - h.2.2.1) ≤ h1.2.2.1 - h.2.2.1; omega) ?_ ?_ s.heap [] hR va_S.rf ⟨Nat.le_refl _, fun _ _ _ => rfl⟩
        · intro v' hv' pc' a' i hd hv H locs hR' hS hE0
          cases hv'
          rw [Nat.zero_add, Nat.zero_add]
          have hq : ∀ t : State, t.heap = H → s.WarmedH t.vm → (.returned (v.map (ax_tv as)) : Outcome) = .returned (v.map (ax_tv as)) ∧ ax_R b as D (ax_cl T) tA h1 t.heap ∧ va_F (fun q => b ≤ q) s t ∧ ax_E h.2.2.2 h1 s.heap t.heap := fun t ht _ => ⟨rfl, by rw [ht]; exact hR', hS.F ht, by rw [ht]; exact hE0⟩
          have hr0 := X.2.2.2.1
          have hlk := X.2.2.2.2.1
          generalize hrt : ax_rt T mi = rt at *
          generalize hvl : v.toList = vl at *
          unfold ax_ret at hv
          split at hv
          · cases hv
            exact W.vret B.exec B.bytes hr0 hq hS.2.2 hd hlk
          · split at hv
            · rename_i hn
              cases hv
              exact W.zret B.exec B.bytes hr0 hn hq hS.2.2 hd hlk
            · cases hv
          · cases hv
            exact W.lret B.exec B.bytes hr0 hq hS.2.2 hd hlk
          · cases hv
            exact W.aret B.exec B.bytes hr0 (Or.inl ⟨_, rfl⟩) (Or.inr ⟨_, rfl⟩) hq hS.2.2 hd hlk
          · cases hv
            exact W.aret B.exec B.bytes hr0 (Or.inl ⟨_, rfl⟩) (Or.inl rfl) hq hS.2.2 hd hlk
          · cases hv
        · intro pc' ls' a' st' i h8 k1 k2 k3 k4 k5 k6
          obtain ⟨⟨x, hx⟩, -⟩ := ax_thr_mono k2
          cases hx
      obtain ⟨t, a1, o, b1, b2, b3⟩ := K s₁ hh0 (Stand.of_body B)
      exact ⟨t, o, a1, b1, b2, ⟨b3.1, b3.2⟩⟩
    · obtain ⟨hsl, hr, hf1⟩ := ax_call_spec hr
      have hf2 : h1.2.1 = h.2.1 + 1 ∧ h1.2.2.1 = h.2.2.1 + 6 ∧ h1.2.2.2 = h.2.2.2 := by simpa [ax_fit1] using hf1
      refine ⟨hf2, ?_⟩
      refine MetFree.of_bodyS (code := ax_code T mi) (maxLocals := ax_mx T mi) (ret := ax_rt T mi) (hO.2.2.2.1 mi) (his _) ?_
      intro p e s m args below meth c s₁ B hml hv _
      obtain ⟨rfl, hR, hK, hX⟩ := hv
      have X := mkX B hml hK hX
      have hh0 : s₁.heap = s.heap := by rw [B.state]; rfl
      have K : W p l e (ax_rm (d + 1) 1 6) s m (av.map (ax_tv as)).toArray below meth c s.heap [] 0 0 (ax_QT b as T D tA below s x h1 1 6) (entryFrame m (av.map (ax_tv as)).toArray (ax_mx T mi)) := by
        rw [lg_entry_eq]
        have g := ax_loop_ok (w := h.2.2.2) (b := b) (as := as) (l := l) (e := e) (R := ax_rm (d + 1) 1 6) (below := below) (Q := ax_QT b as T D tA below s x h1 1 6) hO X (d := d) (by show d + 9 ≤ d + 1 + 8; omega) (by show 40 * d + 160 ≤ 40 * (d + 1) + 120; omega) (ax_call_mono d n) (fun mj av h v h1 hq => (ih n mj av h).1 v h1 hq) (fun mj av h x h1 hq => (ih n mj av h).2 x h1 hq) n 0 (ax_entry T mi av) [] h (.inr x, h1) hr
        refine g 0 0 _ (by simp [ax_entry]; omega) (ax_entry_lr as _ av hsl) (by show 0 + (h1.2.1 - h.2.1) ≤ 1; omega) (by show 0 + (h1.2.2.1 - h.2.2.1) ≤ 6; omega) ?_ ?_ s.heap [] hR va_S.rf ⟨Nat.le_refl _, fun _ _ _ => rfl⟩
        · intro v' hv'
          cases hv'
        · intro pc' ls' a' st' i h8 k1 k2 k3 k4 k5 k6
          obtain ⟨⟨x', hx'⟩, -⟩ := ax_thr_mono k2
          have hx2 : x = x' ∧ h1 = ax_one h8 := by
            cases hx'
            exact ⟨rfl, rfl⟩
          obtain ⟨rfl, rfl⟩ := hx2
          have z1 : h8.2.1 + 1 = h.2.1 + 1 := hf2.1
          have z2 : h8.2.2.1 + 6 = h.2.2.1 + 6 := hf2.2.1
          have z3 : h8.2.2.2 = h.2.2.2 := hf2.2.2
          rw [show 0 + (h8.2.1 - h.2.1) = 0 by omega, show 0 + (h8.2.2.1 - h.2.2.1) = 0 by omega]
          unfold ax_thr at k2
          split at k2
          · rename_i idx
            split at k2
            · rename_i ic hd1 hd2 hd3
              split at k2
              · rename_i hk
                obtain ⟨q1, q2, q3, q4, q5⟩ := hk
                have hE := hO.2.1 mi idx
                have hpl : ax_pl T mi idx = (10, x, ic) := by
                  cases k2
                  generalize ax_pl T mi idx = y at *
                  obtain ⟨y1, y2, y3⟩ := y
                  dsimp only at q1 q2
                  rw [q1, q2]
                rw [hpl] at hE
                simp only [ax_okE] at hE
                have htab := X.2.2.2.2.2.1
                rw [q5] at htab
                exact ax_thr_ok hfl X k4 k3 hE k1 hd1 hd2 hd3 (fun y hy => by
                  rw [List.map_eq_nil_iff] at htab
                  rw [htab] at hy
                  cases hy) z3 q3 q4 (by show 8 ≤ d + 1 + 8; omega) (by show 120 ≤ 40 * (d + 1) + 120; omega) (Nat.le_refl _) (Nat.le_refl _) (by rw [hR.1]; omega)
              · cases k2
            · cases k2
          · cases k2
      obtain ⟨t, a1, b1, b2, b3, b4, b5, b6⟩ := K s₁ hh0 (Stand.of_body B)
      exact ⟨t, _, a1, b1, b2, rfl, b3, b4, b5, b6⟩
end AX4
