/-! rows, levels, terms, int arrays: shapes and what is written into them -/
def isR (r : Nat) : Prop := r < 167 ∧ (mg_sh.getD r (0, 0)).1 = 2
def isL (r : Nat) : Prop := r < 167 ∧ (mg_sh.getD r (0, 0)).1 = 3
def isM (r : Nat) : Prop := r < 167 ∧ (mg_sh.getD r (0, 0)).1 = 4
theorem rw_all : ∀ r, r < 167 → (mg_sh.getD r (0, 0)).1 = 2 → r + 4 < 87 ∧ 7 ≤ r ∧ (mg_sh.getD (r + 1) (0, 0)).1 = 0 ∧ (mg_sh.getD (r + 3) (0, 0)).1 = 0 ∧ (mg_sh.getD (r + 2) (0, 0)).2 = 48 ∧ (mg_sh.getD (r + 4) (0, 0)).2 = 98 := by decide +kernel
theorem lf_all : ∀ r, r < 167 → (mg_sh.getD r (0, 0)).1 = 3 → r + 3 < 137 ∧ 93 ≤ r ∧ (mg_sh.getD (r + 1) (0, 0)).1 = 0 ∧ (mg_sh.getD (r + 3) (0, 0)).1 = 4 ∧ (mg_sh.getD (r + 2) (0, 0)).2 = 48 := by decide +kernel
theorem rw_lt {r : Nat} (H : isR r) : r + 4 < 87 ∧ 7 ≤ r := ⟨(rw_all r H.1 H.2).1, (rw_all r H.1 H.2).2.1⟩
theorem rw_n {r : Nat} (H : isR r) : isT (r + 1) := ⟨by have := (rw_all r H.1 H.2).1; omega, (rw_all r H.1 H.2).2.2.1⟩
theorem rw_d {r : Nat} (H : isR r) : isT (r + 3) := ⟨by have := (rw_all r H.1 H.2).1; omega, (rw_all r H.1 H.2).2.2.2.1⟩
theorem rw_ln {r : Nat} (H : isR r) : tlim (r + 1) = 48 := (rw_all r H.1 H.2).2.2.2.2.1
theorem rw_ld {r : Nat} (H : isR r) : tlim (r + 3) = 98 := (rw_all r H.1 H.2).2.2.2.2.2
theorem lf_lt {r : Nat} (H : isL r) : r + 3 < 137 ∧ 93 ≤ r := ⟨(lf_all r H.1 H.2).1, (lf_all r H.1 H.2).2.1⟩
theorem lf_n {r : Nat} (H : isL r) : isT (r + 1) := ⟨by have := (lf_all r H.1 H.2).1; omega, (lf_all r H.1 H.2).2.2.1⟩
theorem lf_t {r : Nat} (H : isL r) : isM (r + 3) := ⟨by have := (lf_all r H.1 H.2).1; omega, (lf_all r H.1 H.2).2.2.2.1⟩
theorem lf_ln {r : Nat} (H : isL r) : tlim (r + 1) = 48 := (lf_all r H.1 H.2).2.2.2.2
theorem rw_c {s : mg_s} {r : Nat} (H : isR r) : mg_c s r = .inr (2, [.int (s.1 r 0), .ref (r + 1), .ref (r + 3), .int (s.1 r 3)]) := by
  unfold mg_c; rw [H.2]; rfl
theorem lf_c {s : mg_s} {r : Nat} (H : isL r) : mg_c s r = .inr (5, [.ref (r + 1), .ref (r + 3)]) := by
  unfold mg_c; rw [H.2]; rfl
theorem tm_c {s : mg_s} {r : Nat} (H : isM r) : mg_c s r = .inr (4, [.int (s.1 r 0), .int (s.1 r 1), .int (s.1 r 2), .int (s.1 r 3), .int (s.1 r 4), .int (s.1 r 5)]) := by
  unfold mg_c; rw [H.2]; rfl
theorem mg_I_own (s : mg_s) (a k : Nat) (x : Int32) : (mg_I s a k x).1 a = upd (s.1 a) k x := if_pos rfl
theorem mg_I_oth {s : mg_s} {a b k : Nat} {x : Int32} (h : ¬ b = a) : (mg_I s a k x).1 b = s.1 b := if_neg h
theorem mg_A_own (s : mg_s) (a k : Nat) (x : Int32) : (mg_A s a k x).2.1 a = upd (s.2.1 a) k x := if_pos rfl
theorem mg_A_oth {s : mg_s} {a b k : Nat} {x : Int32} (h : ¬ b = a) : (mg_A s a k x).2.1 b = s.2.1 b := if_neg h
theorem rw_cI0 {s : mg_s} {r : Nat} {x : Int32} (H : isR r) : mg_c (mg_I s r 0 x) r = .inr (2, List.set [.int (s.1 r 0), .ref (r + 1), .ref (r + 3), .int (s.1 r 3)] 0 (.int x)) := by rw [rw_c H, mg_I_own]; rfl
theorem rw_cI3 {s : mg_s} {r : Nat} {x : Int32} (H : isR r) : mg_c (mg_I s r 3 x) r = .inr (2, List.set [.int (s.1 r 0), .ref (r + 1), .ref (r + 3), .int (s.1 r 3)] 3 (.int x)) := by rw [rw_c H, mg_I_own]; rfl
theorem tm_cI0 {s : mg_s} {r : Nat} {x : Int32} (H : isM r) : mg_c (mg_I s r 0 x) r = .inr (4, List.set [.int (s.1 r 0), .int (s.1 r 1), .int (s.1 r 2), .int (s.1 r 3), .int (s.1 r 4), .int (s.1 r 5)] 0 (.int x)) := by rw [tm_c H, mg_I_own]; rfl
theorem tm_cI1 {s : mg_s} {r : Nat} {x : Int32} (H : isM r) : mg_c (mg_I s r 1 x) r = .inr (4, List.set [.int (s.1 r 0), .int (s.1 r 1), .int (s.1 r 2), .int (s.1 r 3), .int (s.1 r 4), .int (s.1 r 5)] 1 (.int x)) := by rw [tm_c H, mg_I_own]; rfl
theorem tm_cI2 {s : mg_s} {r : Nat} {x : Int32} (H : isM r) : mg_c (mg_I s r 2 x) r = .inr (4, List.set [.int (s.1 r 0), .int (s.1 r 1), .int (s.1 r 2), .int (s.1 r 3), .int (s.1 r 4), .int (s.1 r 5)] 2 (.int x)) := by rw [tm_c H, mg_I_own]; rfl
theorem tm_cI3 {s : mg_s} {r : Nat} {x : Int32} (H : isM r) : mg_c (mg_I s r 3 x) r = .inr (4, List.set [.int (s.1 r 0), .int (s.1 r 1), .int (s.1 r 2), .int (s.1 r 3), .int (s.1 r 4), .int (s.1 r 5)] 3 (.int x)) := by rw [tm_c H, mg_I_own]; rfl
theorem tm_cI4 {s : mg_s} {r : Nat} {x : Int32} (H : isM r) : mg_c (mg_I s r 4 x) r = .inr (4, List.set [.int (s.1 r 0), .int (s.1 r 1), .int (s.1 r 2), .int (s.1 r 3), .int (s.1 r 4), .int (s.1 r 5)] 4 (.int x)) := by rw [tm_c H, mg_I_own]; rfl
theorem tm_cI5 {s : mg_s} {r : Nat} {x : Int32} (H : isM r) : mg_c (mg_I s r 5 x) r = .inr (4, List.set [.int (s.1 r 0), .int (s.1 r 1), .int (s.1 r 2), .int (s.1 r 3), .int (s.1 r 4), .int (s.1 r 5)] 5 (.int x)) := by rw [tm_c H, mg_I_own]; rfl
theorem ar_dA {s : mg_s} {a N j : Nat} {x : Int32} (H : isA a N) : mg_c (mg_A s a j x) a = .inl (0, N, .inl (upd (s.2.1 a) j x)) := by rw [ar_d H, mg_A_own]
theorem sg_get {l : List Nat} {j : Nat} (h : j < l.length) : l[j]? = some (l.getD j 0) := by simp [List.getD, h]
theorem i2c_nI {c : Nat} (h : c < 65536) : ((nI c).toUInt32 % 65536).toInt32 = nI c := nar_nI h
theorem isA_all : isA 142 100 ∧ isA 143 16 ∧ isA 144 1600 ∧ isA 145 16 ∧ isA 146 16 ∧ isA 147 16 ∧ isA 148 60 ∧ isA 149 60 ∧ isA 150 16 ∧ isA 151 1500 ∧ isA 152 64 ∧ isA 153 64 ∧ isA 154 624 ∧ isA 155 13 ∧ isA 156 13 ∧ isA 157 13 ∧ isA 158 13 ∧ isA 159 13 ∧ isA 160 13 ∧ isA 161 13 ∧ isA 162 13 ∧ isA 163 48 ∧ isA 164 60 ∧ isA 165 60 := by
  refine ⟨?_, ?_, ?_, ?_, ?_, ?_, ?_, ?_, ?_, ?_, ?_, ?_, ?_, ?_, ?_, ?_, ?_, ?_, ?_, ?_, ?_, ?_, ?_, ?_⟩ <;> exact ⟨by decide, by decide +kernel⟩
theorem isT_all : isT 1 ∧ isT 5 ∧ isT 89 ∧ isT 91 ∧ isT 139 ∧ tlim 1 = 100 ∧ tlim 5 = 55 ∧ tlim 89 = 49 ∧ tlim 91 = 15 ∧ tlim 139 = 55 := by
  refine ⟨⟨by decide, by decide +kernel⟩, ⟨by decide, by decide +kernel⟩, ⟨by decide, by decide +kernel⟩, ⟨by decide, by decide +kernel⟩, ⟨by decide, by decide +kernel⟩, ?_, ?_, ?_, ?_, ?_⟩ <;> decide +kernel
