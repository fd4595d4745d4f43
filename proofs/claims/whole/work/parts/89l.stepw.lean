/-! the reference: a step, whole -/
theorem d136_0 (L : Nat) (xs : Nat → Int32) : decode (ax_code (mgT L xs) 136) 0 = .ok (.aload_n 0, 1) := by
  show decode prog_11_method_48_code 0 = _
  decide +kernel
theorem d136_1 (L : Nat) (xs : Nat → Int32) : decode (ax_code (mgT L xs) 136) 1 = .ok (.getfield 140, 3) := by
  show decode prog_11_method_48_code 1 = _
  decide +kernel
theorem d136_4 (L : Nat) (xs : Nat → Int32) : decode (ax_code (mgT L xs) 136) 4 = .ok (.iconst 1, 1) := by
  show decode prog_11_method_48_code 4 = _
  decide +kernel
theorem d136_5 (L : Nat) (xs : Nat → Int32) : decode (ax_code (mgT L xs) 136) 5 = .ok (.isub, 1) := by
  show decode prog_11_method_48_code 5 = _
  decide +kernel
theorem d136_6 (L : Nat) (xs : Nat → Int32) : decode (ax_code (mgT L xs) 136) 6 = .ok (.istore_n 1, 1) := by
  show decode prog_11_method_48_code 6 = _
  decide +kernel
theorem d136_7 (L : Nat) (xs : Nat → Int32) : decode (ax_code (mgT L xs) 136) 7 = .ok (.aload_n 0, 1) := by
  show decode prog_11_method_48_code 7 = _
  decide +kernel
theorem d136_8 (L : Nat) (xs : Nat → Int32) : decode (ax_code (mgT L xs) 136) 8 = .ok (.getfield 52, 3) := by
  show decode prog_11_method_48_code 8 = _
  decide +kernel
theorem d136_11 (L : Nat) (xs : Nat → Int32) : decode (ax_code (mgT L xs) 136) 11 = .ok (.iload_n 1, 1) := by
  show decode prog_11_method_48_code 11 = _
  decide +kernel
theorem d136_12 (L : Nat) (xs : Nat → Int32) : decode (ax_code (mgT L xs) 136) 12 = .ok (.iaload, 1) := by
  show decode prog_11_method_48_code 12 = _
  decide +kernel
theorem d136_13 (L : Nat) (xs : Nat → Int32) : decode (ax_code (mgT L xs) 136) 13 = .ok (.istore_n 2, 1) := by
  show decode prog_11_method_48_code 13 = _
  decide +kernel
theorem d136_14 (L : Nat) (xs : Nat → Int32) : decode (ax_code (mgT L xs) 136) 14 = .ok (.aload_n 0, 1) := by
  show decode prog_11_method_48_code 14 = _
  decide +kernel
theorem d136_15 (L : Nat) (xs : Nat → Int32) : decode (ax_code (mgT L xs) 136) 15 = .ok (.getfield 55, 3) := by
  show decode prog_11_method_48_code 15 = _
  decide +kernel
theorem d136_18 (L : Nat) (xs : Nat → Int32) : decode (ax_code (mgT L xs) 136) 18 = .ok (.iload_n 1, 1) := by
  show decode prog_11_method_48_code 18 = _
  decide +kernel
theorem d136_19 (L : Nat) (xs : Nat → Int32) : decode (ax_code (mgT L xs) 136) 19 = .ok (.iaload, 1) := by
  show decode prog_11_method_48_code 19 = _
  decide +kernel
theorem d136_20 (L : Nat) (xs : Nat → Int32) : decode (ax_code (mgT L xs) 136) 20 = .ok (.aload_n 0, 1) := by
  show decode prog_11_method_48_code 20 = _
  decide +kernel
theorem d136_21 (L : Nat) (xs : Nat → Int32) : decode (ax_code (mgT L xs) 136) 21 = .ok (.getfield 19, 3) := by
  show decode prog_11_method_48_code 21 = _
  decide +kernel
theorem d136_24 (L : Nat) (xs : Nat → Int32) : decode (ax_code (mgT L xs) 136) 24 = .ok (.iload_n 2, 1) := by
  show decode prog_11_method_48_code 24 = _
  decide +kernel
theorem d136_25 (L : Nat) (xs : Nat → Int32) : decode (ax_code (mgT L xs) 136) 25 = .ok (.iaload, 1) := by
  show decode prog_11_method_48_code 25 = _
  decide +kernel
theorem d136_26 (L : Nat) (xs : Nat → Int32) : decode (ax_code (mgT L xs) 136) 26 = .ok (.if_icmp .ge 165, 3) := by
  show decode prog_11_method_48_code 26 = _
  decide +kernel
theorem d136_29 (L : Nat) (xs : Nat → Int32) : decode (ax_code (mgT L xs) 136) 29 = .ok (.aload_n 0, 1) := by
  show decode prog_11_method_48_code 29 = _
  decide +kernel
theorem d136_30 (L : Nat) (xs : Nat → Int32) : decode (ax_code (mgT L xs) 136) 30 = .ok (.getfield 55, 3) := by
  show decode prog_11_method_48_code 30 = _
  decide +kernel
theorem d136_33 (L : Nat) (xs : Nat → Int32) : decode (ax_code (mgT L xs) 136) 33 = .ok (.iload_n 1, 1) := by
  show decode prog_11_method_48_code 33 = _
  decide +kernel
theorem d136_34 (L : Nat) (xs : Nat → Int32) : decode (ax_code (mgT L xs) 136) 34 = .ok (.iaload, 1) := by
  show decode prog_11_method_48_code 34 = _
  decide +kernel
theorem d136_35 (L : Nat) (xs : Nat → Int32) : decode (ax_code (mgT L xs) 136) 35 = .ok (.istore_n 3, 1) := by
  show decode prog_11_method_48_code 35 = _
  decide +kernel
theorem d136_36 (L : Nat) (xs : Nat → Int32) : decode (ax_code (mgT L xs) 136) 36 = .ok (.aload_n 0, 1) := by
  show decode prog_11_method_48_code 36 = _
  decide +kernel
theorem d136_37 (L : Nat) (xs : Nat → Int32) : decode (ax_code (mgT L xs) 136) 37 = .ok (.iload_n 2, 1) := by
  show decode prog_11_method_48_code 37 = _
  decide +kernel
theorem d136_38 (L : Nat) (xs : Nat → Int32) : decode (ax_code (mgT L xs) 136) 38 = .ok (.iload_n 3, 1) := by
  show decode prog_11_method_48_code 38 = _
  decide +kernel
theorem d136_39 (L : Nat) (xs : Nat → Int32) : decode (ax_code (mgT L xs) 136) 39 = .ok (.invokevirtual 184, 3) := by
  show decode prog_11_method_48_code 39 = _
  decide +kernel
theorem d136_42 (L : Nat) (xs : Nat → Int32) : decode (ax_code (mgT L xs) 136) 42 = .ok (.istore 4, 2) := by
  show decode prog_11_method_48_code 42 = _
  decide +kernel
theorem d136_44 (L : Nat) (xs : Nat → Int32) : decode (ax_code (mgT L xs) 136) 44 = .ok (.aload_n 0, 1) := by
  show decode prog_11_method_48_code 44 = _
  decide +kernel
theorem d136_45 (L : Nat) (xs : Nat → Int32) : decode (ax_code (mgT L xs) 136) 45 = .ok (.getfield 55, 3) := by
  show decode prog_11_method_48_code 45 = _
  decide +kernel
theorem d136_48 (L : Nat) (xs : Nat → Int32) : decode (ax_code (mgT L xs) 136) 48 = .ok (.iload_n 1, 1) := by
  show decode prog_11_method_48_code 48 = _
  decide +kernel
theorem d136_49 (L : Nat) (xs : Nat → Int32) : decode (ax_code (mgT L xs) 136) 49 = .ok (.iload 4, 2) := by
  show decode prog_11_method_48_code 49 = _
  decide +kernel
theorem d136_51 (L : Nat) (xs : Nat → Int32) : decode (ax_code (mgT L xs) 136) 51 = .ok (.iconst 1, 1) := by
  show decode prog_11_method_48_code 51 = _
  decide +kernel
theorem d136_52 (L : Nat) (xs : Nat → Int32) : decode (ax_code (mgT L xs) 136) 52 = .ok (.iadd, 1) := by
  show decode prog_11_method_48_code 52 = _
  decide +kernel
theorem d136_53 (L : Nat) (xs : Nat → Int32) : decode (ax_code (mgT L xs) 136) 53 = .ok (.iastore, 1) := by
  show decode prog_11_method_48_code 53 = _
  decide +kernel
theorem d136_54 (L : Nat) (xs : Nat → Int32) : decode (ax_code (mgT L xs) 136) 54 = .ok (.iload 4, 2) := by
  show decode prog_11_method_48_code 54 = _
  decide +kernel
theorem d136_56 (L : Nat) (xs : Nat → Int32) : decode (ax_code (mgT L xs) 136) 56 = .ok (.iload_n 3, 1) := by
  show decode prog_11_method_48_code 56 = _
  decide +kernel
theorem d136_57 (L : Nat) (xs : Nat → Int32) : decode (ax_code (mgT L xs) 136) 57 = .ok (.if_icmp .le 131, 3) := by
  show decode prog_11_method_48_code 57 = _
  decide +kernel
theorem d136_60 (L : Nat) (xs : Nat → Int32) : decode (ax_code (mgT L xs) 136) 60 = .ok (.aload_n 0, 1) := by
  show decode prog_11_method_48_code 60 = _
  decide +kernel
theorem d136_61 (L : Nat) (xs : Nat → Int32) : decode (ax_code (mgT L xs) 136) 61 = .ok (.iload_n 2, 1) := by
  show decode prog_11_method_48_code 61 = _
  decide +kernel
theorem d136_62 (L : Nat) (xs : Nat → Int32) : decode (ax_code (mgT L xs) 136) 62 = .ok (.iload_n 3, 1) := by
  show decode prog_11_method_48_code 62 = _
  decide +kernel
theorem d136_63 (L : Nat) (xs : Nat → Int32) : decode (ax_code (mgT L xs) 136) 63 = .ok (.iload 4, 2) := by
  show decode prog_11_method_48_code 63 = _
  decide +kernel
theorem d136_65 (L : Nat) (xs : Nat → Int32) : decode (ax_code (mgT L xs) 136) 65 = .ok (.invokevirtual 187, 3) := by
  show decode prog_11_method_48_code 65 = _
  decide +kernel
theorem d136_68 (L : Nat) (xs : Nat → Int32) : decode (ax_code (mgT L xs) 136) 68 = .ok (.ifCond .ge 120, 3) := by
  show decode prog_11_method_48_code 68 = _
  decide +kernel
theorem d136_71 (L : Nat) (xs : Nat → Int32) : decode (ax_code (mgT L xs) 136) 71 = .ok (.aload_n 0, 1) := by
  show decode prog_11_method_48_code 71 = _
  decide +kernel
theorem d136_72 (L : Nat) (xs : Nat → Int32) : decode (ax_code (mgT L xs) 136) 72 = .ok (.iload_n 2, 1) := by
  show decode prog_11_method_48_code 72 = _
  decide +kernel
theorem d136_73 (L : Nat) (xs : Nat → Int32) : decode (ax_code (mgT L xs) 136) 73 = .ok (.iload_n 3, 1) := by
  show decode prog_11_method_48_code 73 = _
  decide +kernel
theorem d136_74 (L : Nat) (xs : Nat → Int32) : decode (ax_code (mgT L xs) 136) 74 = .ok (.invokevirtual 166, 3) := by
  show decode prog_11_method_48_code 74 = _
  decide +kernel
theorem d136_77 (L : Nat) (xs : Nat → Int32) : decode (ax_code (mgT L xs) 136) 77 = .ok (.invokestatic 194, 3) := by
  show decode prog_11_method_48_code 77 = _
  decide +kernel
theorem d136_80 (L : Nat) (xs : Nat → Int32) : decode (ax_code (mgT L xs) 136) 80 = .ok (.istore 5, 2) := by
  show decode prog_11_method_48_code 80 = _
  decide +kernel
theorem d136_82 (L : Nat) (xs : Nat → Int32) : decode (ax_code (mgT L xs) 136) 82 = .ok (.aload_n 0, 1) := by
  show decode prog_11_method_48_code 82 = _
  decide +kernel
theorem d136_83 (L : Nat) (xs : Nat → Int32) : decode (ax_code (mgT L xs) 136) 83 = .ok (.aload_n 0, 1) := by
  show decode prog_11_method_48_code 83 = _
  decide +kernel
theorem d136_84 (L : Nat) (xs : Nat → Int32) : decode (ax_code (mgT L xs) 136) 84 = .ok (.iload_n 2, 1) := by
  show decode prog_11_method_48_code 84 = _
  decide +kernel
theorem d136_85 (L : Nat) (xs : Nat → Int32) : decode (ax_code (mgT L xs) 136) 85 = .ok (.iload_n 3, 1) := by
  show decode prog_11_method_48_code 85 = _
  decide +kernel
theorem d136_86 (L : Nat) (xs : Nat → Int32) : decode (ax_code (mgT L xs) 136) 86 = .ok (.invokevirtual 166, 3) := by
  show decode prog_11_method_48_code 86 = _
  decide +kernel
theorem d136_89 (L : Nat) (xs : Nat → Int32) : decode (ax_code (mgT L xs) 136) 89 = .ok (.invokestatic 273, 3) := by
  show decode prog_11_method_48_code 89 = _
  decide +kernel
theorem d136_92 (L : Nat) (xs : Nat → Int32) : decode (ax_code (mgT L xs) 136) 92 = .ok (.putfield 263, 3) := by
  show decode prog_11_method_48_code 92 = _
  decide +kernel
theorem d136_95 (L : Nat) (xs : Nat → Int32) : decode (ax_code (mgT L xs) 136) 95 = .ok (.iload 5, 2) := by
  show decode prog_11_method_48_code 95 = _
  decide +kernel
theorem d136_97 (L : Nat) (xs : Nat → Int32) : decode (ax_code (mgT L xs) 136) 97 = .ok (.ifCond .eq 9, 3) := by
  show decode prog_11_method_48_code 97 = _
  decide +kernel
theorem d136_100 (L : Nat) (xs : Nat → Int32) : decode (ax_code (mgT L xs) 136) 100 = .ok (.iload_n 3, 1) := by
  show decode prog_11_method_48_code 100 = _
  decide +kernel
theorem d136_101 (L : Nat) (xs : Nat → Int32) : decode (ax_code (mgT L xs) 136) 101 = .ok (.iconst 1, 1) := by
  show decode prog_11_method_48_code 101 = _
  decide +kernel
theorem d136_102 (L : Nat) (xs : Nat → Int32) : decode (ax_code (mgT L xs) 136) 102 = .ok (.iadd, 1) := by
  show decode prog_11_method_48_code 102 = _
  decide +kernel
theorem d136_103 (L : Nat) (xs : Nat → Int32) : decode (ax_code (mgT L xs) 136) 103 = .ok (.goto 4, 3) := by
  show decode prog_11_method_48_code 103 = _
  decide +kernel
theorem d136_106 (L : Nat) (xs : Nat → Int32) : decode (ax_code (mgT L xs) 136) 106 = .ok (.iload_n 3, 1) := by
  show decode prog_11_method_48_code 106 = _
  decide +kernel
theorem d136_107 (L : Nat) (xs : Nat → Int32) : decode (ax_code (mgT L xs) 136) 107 = .ok (.istore 6, 2) := by
  show decode prog_11_method_48_code 107 = _
  decide +kernel
theorem d136_191 (L : Nat) (xs : Nat → Int32) : decode (ax_code (mgT L xs) 136) 191 = .ok (.aload_n 0, 1) := by
  show decode prog_11_method_48_code 191 = _
  decide +kernel
theorem d136_192 (L : Nat) (xs : Nat → Int32) : decode (ax_code (mgT L xs) 136) 192 = .ok (.getfield 58, 3) := by
  show decode prog_11_method_48_code 192 = _
  decide +kernel
theorem d136_195 (L : Nat) (xs : Nat → Int32) : decode (ax_code (mgT L xs) 136) 195 = .ok (.iload_n 1, 1) := by
  show decode prog_11_method_48_code 195 = _
  decide +kernel
theorem d136_196 (L : Nat) (xs : Nat → Int32) : decode (ax_code (mgT L xs) 136) 196 = .ok (.iaload, 1) := by
  show decode prog_11_method_48_code 196 = _
  decide +kernel
theorem d136_197 (L : Nat) (xs : Nat → Int32) : decode (ax_code (mgT L xs) 136) 197 = .ok (.ifCond .ge 11, 3) := by
  show decode prog_11_method_48_code 197 = _
  decide +kernel
theorem d136_200 (L : Nat) (xs : Nat → Int32) : decode (ax_code (mgT L xs) 136) 200 = .ok (.aload_n 0, 1) := by
  show decode prog_11_method_48_code 200 = _
  decide +kernel
theorem d136_201 (L : Nat) (xs : Nat → Int32) : decode (ax_code (mgT L xs) 136) 201 = .ok (.iconst 1, 1) := by
  show decode prog_11_method_48_code 201 = _
  decide +kernel
theorem d136_202 (L : Nat) (xs : Nat → Int32) : decode (ax_code (mgT L xs) 136) 202 = .ok (.invokevirtual 206, 3) := by
  show decode prog_11_method_48_code 202 = _
  decide +kernel
theorem d136_205 (L : Nat) (xs : Nat → Int32) : decode (ax_code (mgT L xs) 136) 205 = .ok (.goto 45, 3) := by
  show decode prog_11_method_48_code 205 = _
  decide +kernel
theorem d136_208 (L : Nat) (xs : Nat → Int32) : decode (ax_code (mgT L xs) 136) 208 = .ok (.aload_n 0, 1) := by
  show decode prog_11_method_48_code 208 = _
  decide +kernel
theorem d136_209 (L : Nat) (xs : Nat → Int32) : decode (ax_code (mgT L xs) 136) 209 = .ok (.invokevirtual 253, 3) := by
  show decode prog_11_method_48_code 209 = _
  decide +kernel
theorem d136_212 (L : Nat) (xs : Nat → Int32) : decode (ax_code (mgT L xs) 136) 212 = .ok (.ifCond .eq 38, 3) := by
  show decode prog_11_method_48_code 212 = _
  decide +kernel
theorem d136_215 (L : Nat) (xs : Nat → Int32) : decode (ax_code (mgT L xs) 136) 215 = .ok (.aload_n 0, 1) := by
  show decode prog_11_method_48_code 215 = _
  decide +kernel
theorem d136_216 (L : Nat) (xs : Nat → Int32) : decode (ax_code (mgT L xs) 136) 216 = .ok (.iload_n 2, 1) := by
  show decode prog_11_method_48_code 216 = _
  decide +kernel
theorem d136_217 (L : Nat) (xs : Nat → Int32) : decode (ax_code (mgT L xs) 136) 217 = .ok (.aload_n 0, 1) := by
  show decode prog_11_method_48_code 217 = _
  decide +kernel
theorem d136_218 (L : Nat) (xs : Nat → Int32) : decode (ax_code (mgT L xs) 136) 218 = .ok (.getfield 58, 3) := by
  show decode prog_11_method_48_code 218 = _
  decide +kernel
theorem d136_221 (L : Nat) (xs : Nat → Int32) : decode (ax_code (mgT L xs) 136) 221 = .ok (.iload_n 1, 1) := by
  show decode prog_11_method_48_code 221 = _
  decide +kernel
theorem d136_222 (L : Nat) (xs : Nat → Int32) : decode (ax_code (mgT L xs) 136) 222 = .ok (.iaload, 1) := by
  show decode prog_11_method_48_code 222 = _
  decide +kernel
theorem d136_223 (L : Nat) (xs : Nat → Int32) : decode (ax_code (mgT L xs) 136) 223 = .ok (.aload_n 0, 1) := by
  show decode prog_11_method_48_code 223 = _
  decide +kernel
theorem d136_224 (L : Nat) (xs : Nat → Int32) : decode (ax_code (mgT L xs) 136) 224 = .ok (.getfield 61, 3) := by
  show decode prog_11_method_48_code 224 = _
  decide +kernel
theorem d136_227 (L : Nat) (xs : Nat → Int32) : decode (ax_code (mgT L xs) 136) 227 = .ok (.iload_n 1, 1) := by
  show decode prog_11_method_48_code 227 = _
  decide +kernel
theorem d136_228 (L : Nat) (xs : Nat → Int32) : decode (ax_code (mgT L xs) 136) 228 = .ok (.iaload, 1) := by
  show decode prog_11_method_48_code 228 = _
  decide +kernel
theorem d136_229 (L : Nat) (xs : Nat → Int32) : decode (ax_code (mgT L xs) 136) 229 = .ok (.invokevirtual 257, 3) := by
  show decode prog_11_method_48_code 229 = _
  decide +kernel
theorem d136_232 (L : Nat) (xs : Nat → Int32) : decode (ax_code (mgT L xs) 136) 232 = .ok (.ifCond .eq 12, 3) := by
  show decode prog_11_method_48_code 232 = _
  decide +kernel
theorem d136_235 (L : Nat) (xs : Nat → Int32) : decode (ax_code (mgT L xs) 136) 235 = .ok (.aload_n 0, 1) := by
  show decode prog_11_method_48_code 235 = _
  decide +kernel
theorem d136_236 (L : Nat) (xs : Nat → Int32) : decode (ax_code (mgT L xs) 136) 236 = .ok (.iconst 2, 1) := by
  show decode prog_11_method_48_code 236 = _
  decide +kernel
theorem d136_237 (L : Nat) (xs : Nat → Int32) : decode (ax_code (mgT L xs) 136) 237 = .ok (.iconst 0, 1) := by
  show decode prog_11_method_48_code 237 = _
  decide +kernel
theorem d136_238 (L : Nat) (xs : Nat → Int32) : decode (ax_code (mgT L xs) 136) 238 = .ok (.invokevirtual 266, 3) := by
  show decode prog_11_method_48_code 238 = _
  decide +kernel
theorem d136_241 (L : Nat) (xs : Nat → Int32) : decode (ax_code (mgT L xs) 136) 241 = .ok (.goto 9, 3) := by
  show decode prog_11_method_48_code 241 = _
  decide +kernel
theorem d136_244 (L : Nat) (xs : Nat → Int32) : decode (ax_code (mgT L xs) 136) 244 = .ok (.aload_n 0, 1) := by
  show decode prog_11_method_48_code 244 = _
  decide +kernel
theorem d136_245 (L : Nat) (xs : Nat → Int32) : decode (ax_code (mgT L xs) 136) 245 = .ok (.bipush 6, 2) := by
  show decode prog_11_method_48_code 245 = _
  decide +kernel
theorem d136_247 (L : Nat) (xs : Nat → Int32) : decode (ax_code (mgT L xs) 136) 247 = .ok (.invokevirtual 215, 3) := by
  show decode prog_11_method_48_code 247 = _
  decide +kernel
theorem d136_250 (L : Nat) (xs : Nat → Int32) : decode (ax_code (mgT L xs) 136) 250 = .ok (.return_, 1) := by
  show decode prog_11_method_48_code 250 = _
  decide +kernel
theorem kfr_e {E : ckE} {fs : List frT} {how sg p n te : Nat} {dom D : List Nat} {o : Nat × Nat} {σ : ckS} (h : p < D.length) (hte : t_te D p = te) (e : ¬ p < te) : k_fr E fs.length (how, sg, dom, D, p, n, o) σ = k_fr E fs.length (how, sg, dom, D, te + 1, n, o) σ := by
  subst hte
  have h2 := kfr_step (E := E) (fs := fs) (F := (how, sg, dom, D, p, n, o)) (σ := σ) h
  rw [if_neg (show ¬ fr_p (how, sg, dom, D, p, n, o) < t_te (fr_D (how, sg, dom, D, p, n, o)) (fr_p (how, sg, dom, D, p, n, o)) from e)] at h2
  exact h2
theorem kfr_m {E : ckE} {fs : List frT} {how sg p n te : Nat} {dom D : List Nat} {o : Nat × Nat} {σ : ckS} {t : tmT} (h : p < D.length) (hte : t_te D p = te) (e : p < te) (ht : t_term (gl D) p te = some t) (h6 : ¬ t.1 < 6) : k_fr E fs.length (how, sg, dom, D, p, n, o) σ = k_fr E fs.length (how, sg, dom, D, te + 1, n, o) σ := by
  subst hte
  have h2 := kfr_step (E := E) (fs := fs) (F := (how, sg, dom, D, p, n, o)) (σ := σ) h
  rw [if_pos (show fr_p (how, sg, dom, D, p, n, o) < t_te (fr_D (how, sg, dom, D, p, n, o)) (fr_p (how, sg, dom, D, p, n, o)) from e), show t_term (gl (fr_D (how, sg, dom, D, p, n, o))) (fr_p (how, sg, dom, D, p, n, o)) (t_te (fr_D (how, sg, dom, D, p, n, o)) (fr_p (how, sg, dom, D, p, n, o))) = some t from ht] at h2
  dsimp only at h2
  rw [if_neg h6] at h2
  exact h2
theorem kfr_t {E : ckE} {fs : List frT} {how sg p n te : Nat} {dom D : List Nat} {o : Nat × Nat} {σ : ckS} {t : tmT} (h : p < D.length) (hte : t_te D p = te) (e : p < te) (ht : t_term (gl D) p te = some t) (h6 : t.1 < 6) : k_fr E fs.length (how, sg, dom, D, p, n, o) σ = k_aft E fs (how, sg, dom, D, p, n, o) te t (x_ma E (k_in E fs.length) D dom t σ) := by
  subst hte
  have h2 := kfr_step (E := E) (fs := fs) (F := (how, sg, dom, D, p, n, o)) (σ := σ) h
  rw [if_pos (show fr_p (how, sg, dom, D, p, n, o) < t_te (fr_D (how, sg, dom, D, p, n, o)) (fr_p (how, sg, dom, D, p, n, o)) from e), show t_term (gl (fr_D (how, sg, dom, D, p, n, o))) (fr_p (how, sg, dom, D, p, n, o)) (t_te (fr_D (how, sg, dom, D, p, n, o)) (fr_p (how, sg, dom, D, p, n, o))) = some t from ht] at h2
  dsimp only at h2
  rw [if_pos h6] at h2
  exact h2
theorem kfr_x {E : ckE} {fs : List frT} {how sg p n : Nat} {dom D : List Nat} {o : Nat × Nat} {σ : ckS} (h : D.length ≤ p) : k_fr E fs.length (how, sg, dom, D, p, n, o) σ = x_rd E (k_in E fs.length) D dom o.1 o.2 σ := kfr_end (F := (how, sg, dom, D, p, n, o)) h
theorem c_res_le (x : Nat) : 1 ≤ c_res x ∧ c_res x ≤ 4 := by
  unfold c_res
  split
  · omega
  · split
    · omega
    · split <;> omega
theorem term_n {g : Nat → Nat} {p te : Nat} (h : t_mod g p te = none) : t_term g p te = t_rest g (if c_sg (g p) = true then p + 1 else p) te (c_res (g p)) := by unfold t_term; rw [h]; rfl
theorem term_s {g : Nat → Nat} {p te e : Nat} (h : t_mod g p te = some e) : t_term g p te = t_modi g p e te := by unfold t_term; rw [h]
section KL
variable {L : Nat} {xs : Nat → Int32} {d r c how sg : Nat} {D dom : List Nat} {o : Nat × Nat} {fs : List frT} {s : mg_s} {E : ckE} {σ : ckS} {Q : Option Value → mg_s → Prop}
theorem md_st191 {p n : Nat} {c3 c4 c5 c6 c7 c8 : Option Value} (hc : c = dom.length + 1) (hp : D.length ≤ p) (hst : isStk s (((how, sg, dom, D, p, n, o) : frT) :: fs)) (h23 : s.1 141 23 = nI (fs.length + 1)) (hE : isE s E) (h56 : s.2.1 156 fs.length = nI r) (hR : isRec s r c D) (hsg : isSg s σ) (hok : okS σ) (hdp : fs.length ≤ σ.1) : wp L xs (d + 9) 136 191 [some (.ref 141), some (.int (nI fs.length)), some (.int (nI r)), c3, c4, c5, c6, c7, c8] [] s (fun rv s' => rv = none ∧ mfr s s' kF kA ∧ kOut s' E (k_ret E fs how sg (k_fr E fs.length ((how, sg, dom, D, p, n, o) : frT) σ)) (2 * (10 - σ.1) + fs.length)) := by
  have hr16 := hR.1
  have hl10 := hok.1
  have hcl := hR.2.2.1
  rw [kfr_x hp]
  have h58 : s.2.1 158 fs.length = rdI c o := by rw [hc]; exact hst.1.2.2.2.2.2.1
  by_cases ho : o.1 < o.2
  · have h58p : s.2.1 158 fs.length = nI (c + o.1) := by rw [h58, rdI, if_pos ho]
    have h59p : s.2.1 159 fs.length = nI (c + o.2) := by rw [hc]; exact hst.1.2.2.2.2.2.2.1 ho
    have hot : o.2 ≤ D.length ∧ t_tgt (gl D) o.1 o.2 = true := hst.2.1.2.2.2.2.2.2.2.2 ho
    have hot1 := hot.1
    by_cases hl : σ.1 < 10
    · have hX1 := isX_of (isX_fr hst hE h23 (by omega) (hc ▸ hR) : isX s E r (dom.length + 1) fs.length D dom) (mfr_I s (k := 37) (x := nI (σ.1 + 1)) (F := [37]) (A := []) (by decide)) (by decide) (by decide) (by decide) (by decide)
      rw [← hc] at hX1
      have m01 : mfr s (mg_I s 141 37 (nI (σ.1 + 1))) kF kA := mfr_I s (by decide)
      cases hN : t_name (gl (x_w E D dom o.1 o.2)) 0 (x_w E D dom o.1 o.2).length with
      | false =>
        refine wg_aload_n (d136_191 L xs) rfl ?_
        refine wg_get (d136_192 L xs) (kd := 1) (cj := 9) (k0 := 28) rfl (Or.inl rfl) (by decide) rfl rfl ?_
        refine wg_iload_n (d136_195 L xs) rfl ?_
        refine wg_iald (d136_196 L xs) (n := 13) (by decide) rfl (vp_in_nI (n := fs.length) (by omega) (by omega)) ?_
        refine wg_top (y := (nI (c + o.1))) (by rw [nI_nat (n := fs.length) (by omega)]; exact h58p) ?_
        refine wn_if_ge (d136_197 L xs) (x := c + o.1) (by omega) (t := 208) (by decide) (fun h61 => ?_) (fun h61 => by omega)
        refine wg_aload_n (d136_208 L xs) rfl ?_
        refine wg_invv (d136_209 L xs) (kd := 7) (mj := 140) (n := 0) rfl (Or.inl rfl) (ys := []) (r := []) rfl rfl (by decide) rfl rfl (Nat.le_of_ble_eq_true rfl) (md_look1 (n := σ.1) hsg.1 hl) ?_
        rintro _ _ ⟨rfl, rfl⟩
        refine wg_if_eq (d136_212 L xs) (t := 250) (by decide) (fun hp => absurd hp (by decide)) (fun _ => ?_)
        refine wg_aload_n (d136_215 L xs) rfl ?_
        refine wg_iload_n (d136_216 L xs) rfl ?_
        refine wg_aload_n (d136_217 L xs) rfl ?_
        refine wg_get (d136_218 L xs) (kd := 1) (cj := 9) (k0 := 28) rfl (Or.inl rfl) (by decide) rfl rfl ?_
        refine wg_iload_n (d136_221 L xs) rfl ?_
        refine wg_iald (d136_222 L xs) (n := 13) (by decide) rfl (vp_in_nI (n := fs.length) (by omega) (by omega)) ?_
        refine wg_top (y := (nI (c + o.1))) (by rw [nI_nat (n := fs.length) (by omega)]; exact h58p) ?_
        refine wg_aload_n (d136_223 L xs) rfl ?_
        refine wg_get (d136_224 L xs) (kd := 1) (cj := 9) (k0 := 29) rfl (Or.inl rfl) (by decide) rfl rfl ?_
        refine wg_iload_n (d136_227 L xs) rfl ?_
        refine wg_iald (d136_228 L xs) (n := 13) (by decide) rfl (vp_in_nI (n := fs.length) (by omega) (by omega)) ?_
        refine wg_top (y := (nI (c + o.2))) (by rw [nI_nat (n := fs.length) (by omega)]; exact h59p) ?_
        refine wg_invv (d136_229 L xs) (kd := 7) (mj := 141) (n := 3) rfl (Or.inl rfl) (ys := [.int (nI (c + o.2)), .int (nI (c + o.1)), .int (nI r)]) (r := []) rfl rfl (by decide) rfl rfl (Nat.le_of_ble_eq_true rfl) (by have h := md_expand (L := L) (xs := xs) (d := d + 6) (s := mg_I s 141 37 (nI (σ.1 + 1))) (i := o.1) (j := o.2) hX1 hot.1 hot.2; rw [hN] at h; exact h) ?_
        rintro _ s2 ⟨rfl, hm2, hn2⟩
        refine wg_if_eq (d136_232 L xs) (t := 244) (by decide) (fun _ => ?_) (fun hn => absurd (by decide) hn)
        refine wg_aload_n (d136_244 L xs) rfl ?_
        refine wg_bipush (d136_245 L xs) (x := 6) (by decide) ?_
        refine wg_invv (d136_247 L xs) (kd := 7) (mj := 119) (n := 1) rfl (Or.inl rfl) (ys := [.int 6]) (r := []) rfl rfl (by decide) rfl rfl (Nat.le_of_ble_eq_true rfl) (md_end) ?_
        rintro _ _ ⟨rfl, rfl⟩
        exact wg_vret (d136_250 L xs) rfl ⟨rfl, (m01.trans (hm2.more (by decide) (by decide))).trans ((mfr_I s2 (by decide)).trans (mfr_I _ (by decide))), by have e := rd_no (E := E) (fs := fs) (F := ((how, sg, dom, D, p, n, o) : frT)) ho hl (by omega) hN; change k_ret E fs how sg _ = _ at e; rw [e]; exact Or.inl ⟨rfl, rfl, isSg_I (isSg_I (isSg_of (isSg_lk hsg) hm2 (by decide) (by decide)) (by decide)) (by decide)⟩⟩
      | true =>
        refine wg_aload_n (d136_191 L xs) rfl ?_
        refine wg_get (d136_192 L xs) (kd := 1) (cj := 9) (k0 := 28) rfl (Or.inl rfl) (by decide) rfl rfl ?_
        refine wg_iload_n (d136_195 L xs) rfl ?_
        refine wg_iald (d136_196 L xs) (n := 13) (by decide) rfl (vp_in_nI (n := fs.length) (by omega) (by omega)) ?_
        refine wg_top (y := (nI (c + o.1))) (by rw [nI_nat (n := fs.length) (by omega)]; exact h58p) ?_
        refine wn_if_ge (d136_197 L xs) (x := c + o.1) (by omega) (t := 208) (by decide) (fun h61 => ?_) (fun h61 => by omega)
        refine wg_aload_n (d136_208 L xs) rfl ?_
        refine wg_invv (d136_209 L xs) (kd := 7) (mj := 140) (n := 0) rfl (Or.inl rfl) (ys := []) (r := []) rfl rfl (by decide) rfl rfl (Nat.le_of_ble_eq_true rfl) (md_look1 (n := σ.1) hsg.1 hl) ?_
        rintro _ _ ⟨rfl, rfl⟩
        refine wg_if_eq (d136_212 L xs) (t := 250) (by decide) (fun hp => absurd hp (by decide)) (fun _ => ?_)
        refine wg_aload_n (d136_215 L xs) rfl ?_
        refine wg_iload_n (d136_216 L xs) rfl ?_
        refine wg_aload_n (d136_217 L xs) rfl ?_
        refine wg_get (d136_218 L xs) (kd := 1) (cj := 9) (k0 := 28) rfl (Or.inl rfl) (by decide) rfl rfl ?_
        refine wg_iload_n (d136_221 L xs) rfl ?_
        refine wg_iald (d136_222 L xs) (n := 13) (by decide) rfl (vp_in_nI (n := fs.length) (by omega) (by omega)) ?_
        refine wg_top (y := (nI (c + o.1))) (by rw [nI_nat (n := fs.length) (by omega)]; exact h58p) ?_
        refine wg_aload_n (d136_223 L xs) rfl ?_
        refine wg_get (d136_224 L xs) (kd := 1) (cj := 9) (k0 := 29) rfl (Or.inl rfl) (by decide) rfl rfl ?_
        refine wg_iload_n (d136_227 L xs) rfl ?_
        refine wg_iald (d136_228 L xs) (n := 13) (by decide) rfl (vp_in_nI (n := fs.length) (by omega) (by omega)) ?_
        refine wg_top (y := (nI (c + o.2))) (by rw [nI_nat (n := fs.length) (by omega)]; exact h59p) ?_
        refine wg_invv (d136_229 L xs) (kd := 7) (mj := 141) (n := 3) rfl (Or.inl rfl) (ys := [.int (nI (c + o.2)), .int (nI (c + o.1)), .int (nI r)]) (r := []) rfl rfl (by decide) rfl rfl (Nat.le_of_ble_eq_true rfl) (by have h := md_expand (L := L) (xs := xs) (d := d + 6) (s := mg_I s 141 37 (nI (σ.1 + 1))) (i := o.1) (j := o.2) hX1 hot.1 hot.2; rw [hN] at h; exact h) ?_
        rintro _ s2 ⟨rfl, hm2, hn2⟩
        refine wg_if_eq (d136_232 L xs) (t := 244) (by decide) (fun hp => absurd hp (by decide)) (fun _ => ?_)
        refine wg_aload_n (d136_235 L xs) rfl ?_
        refine wg_iconst (d136_236 L xs) (x := 2) (by decide) ?_
        refine wg_iconst (d136_237 L xs) (x := 0) (by decide) ?_
        refine wg_invv (d136_238 L xs) (kd := 7) (mj := 117) (n := 2) rfl (Or.inl rfl) (ys := [.int 0, .int 2]) (r := []) rfl rfl (by decide) rfl rfl (Nat.le_of_ble_eq_true rfl) (md_begin (d := d + 1) (E := E) (fs := ((how, sg, dom, D, p, n, o) : frT) :: fs) (how := 2) (sg := 0) (nm := (x_w E D dom o.1 o.2)) (σ := st_lk σ) (isE_of hX1.2.1 hm2 (by decide) (by decide)) (hn2 rfl).1 (hn2 rfl).2 hN ((hm2.2.1 23 (by decide)).trans h23) (by omega) ⟨fun z => absurd z (by decide), fun z => absurd z (by show ¬ fs.length + 1 = 0; omega)⟩ (fun z => absurd z (by decide)) (by omega) (fun z => absurd z (by decide)) (isStk_m (isStk_I hst) hm2 (by decide)) (isSg_of (isSg_lk hsg) hm2 (by decide) (by decide)) ⟨hl, hok.2⟩ (show fs.length + 1 ≤ σ.1 + 1 by omega)) ?_
        rintro _ s3 ⟨rfl, hm3, hko⟩
        refine wg_goto (d136_241 L xs) (t := 250) (by decide) ?_
        exact wg_vret (d136_250 L xs) rfl ⟨rfl, (m01.trans (hm2.more (by decide) (by decide))).trans hm3, by have e := rd_fin (E := E) (fs := fs) (F := ((how, sg, dom, D, p, n, o) : frT)) ho hl (by omega) hok hN; change k_ret E fs how sg _ = _ at e; rw [e]; exact kOut_le hko (by show 2 * (10 - (σ.1 + 1)) + (fs.length + 1 + 1) ≤ _; omega)⟩
    · refine wg_aload_n (d136_191 L xs) rfl ?_
      refine wg_get (d136_192 L xs) (kd := 1) (cj := 9) (k0 := 28) rfl (Or.inl rfl) (by decide) rfl rfl ?_
      refine wg_iload_n (d136_195 L xs) rfl ?_
      refine wg_iald (d136_196 L xs) (n := 13) (by decide) rfl (vp_in_nI (n := fs.length) (by omega) (by omega)) ?_
      refine wg_top (y := (nI (c + o.1))) (by rw [nI_nat (n := fs.length) (by omega)]; exact h58p) ?_
      refine wn_if_ge (d136_197 L xs) (x := c + o.1) (by omega) (t := 208) (by decide) (fun h1 => ?_) (fun h1 => by omega)
      refine wg_aload_n (d136_208 L xs) rfl ?_
      refine wg_invv (d136_209 L xs) (kd := 7) (mj := 140) (n := 0) rfl (Or.inl rfl) (ys := []) (r := []) rfl rfl (by decide) rfl rfl (Nat.le_of_ble_eq_true rfl) (md_look0 (n := σ.1) hsg.1 (by omega)) ?_
      rintro _ _ ⟨rfl, rfl⟩
      refine wg_if_eq (d136_212 L xs) (t := 250) (by decide) (fun _ => ?_) (fun hn => absurd (by decide) hn)
      exact wg_vret (d136_250 L xs) rfl ⟨rfl, (mfr_I s (by decide)).trans (mfr_I _ (by decide)), by unfold x_rd; rw [if_pos ho, if_neg hl, k_ret_err (show 5 ≤ 6 by omega)]; exact Or.inl ⟨rfl, rfl, isSg_I (isSg_I hsg (by decide)) (by decide)⟩⟩
  · have h58p : s.2.1 158 fs.length = -1 := by rw [h58, rdI, if_neg ho]
    refine wg_aload_n (d136_191 L xs) rfl ?_
    refine wg_get (d136_192 L xs) (kd := 1) (cj := 9) (k0 := 28) rfl (Or.inl rfl) (by decide) rfl rfl ?_
    refine wg_iload_n (d136_195 L xs) rfl ?_
    refine wg_iald (d136_196 L xs) (n := 13) (by decide) rfl (vp_in_nI (n := fs.length) (by omega) (by omega)) ?_
    refine wg_top (y := (-1)) (by rw [nI_nat (n := fs.length) (by omega)]; exact h58p) ?_
    refine wg_if_ge (d136_197 L xs) (t := 208) (by decide) (fun hp => absurd hp (by decide)) (fun _ => ?_)
    refine wg_aload_n (d136_200 L xs) rfl ?_
    refine wg_iconst (d136_201 L xs) (x := 1) (by decide) ?_
    refine wg_invv (d136_202 L xs) (kd := 7) (mj := 118) (n := 1) rfl (Or.inl rfl) (ys := [.int 1]) (r := []) rfl rfl (by decide) rfl rfl (Nat.le_of_ble_eq_true rfl) (md_comes (E := E) (fs := fs) (how := how) (sg := sg) (x := 1) (σ := σ) h23 hst.1.1 hst.1.2.1 hst.2.1.1 hst.2.1.2.1 hst.2.1.2.2.1 hst.2.1.2.2.2.1 hst.2.2.1 hst.2.2.2 hsg hok (by omega) hdp) ?_
    rintro _ s1 ⟨rfl, hm1, hko⟩
    refine wg_goto (d136_205 L xs) (t := 250) (by decide) ?_
    exact wg_vret (d136_250 L xs) rfl ⟨rfl, hm1.more (by decide) (by decide), by unfold x_rd; rw [if_neg ho]; exact hko⟩
theorem md_step_l (hc : c = dom.length + 1) : ∀ (m p n : Nat) (σ : ckS) (s : mg_s) (c3 c4 c5 c6 c7 c8 : Option Value), D.length ≤ p + m → isStk s (((how, sg, dom, D, p, n, o) : frT) :: fs) → s.1 141 23 = nI (fs.length + 1) → isE s E → s.2.1 156 fs.length = nI r → isRec s r c D → isSg s σ → okS σ → fs.length ≤ σ.1 → wp L xs (d + 9) 136 14 [some (.ref 141), some (.int (nI fs.length)), some (.int (nI r)), c3, c4, c5, c6, c7, c8] [] s (fun rv s' => rv = none ∧ mfr s s' kF kA ∧ kOut s' E (k_ret E fs how sg (k_fr E fs.length ((how, sg, dom, D, p, n, o) : frT) σ)) (2 * (10 - σ.1) + fs.length)) := by
  intro m
  induction m with
  | zero =>
    intro p n σ s c3 c4 c5 c6 c7 c8 hm hst h23 hE h56 hR hsg hok hdp
    have hr16 := hR.1
    have hc1 := hR.2.1
    have hcl := hR.2.2.1
    have hl10 := hok.1
    have hpD : p ≤ D.length + 1 := hst.2.1.2.2.2.2.2.2.1
    have h57 : s.2.1 157 fs.length = nI (c + p) := by rw [hc]; exact hst.1.2.2.2.2.1
    refine wg_aload_n (d136_14 L xs) rfl ?_
    refine wg_get (d136_15 L xs) (kd := 1) (cj := 9) (k0 := 27) rfl (Or.inl rfl) (by decide) rfl rfl ?_
    refine wg_iload_n (d136_18 L xs) rfl ?_
    refine wg_iald (d136_19 L xs) (n := 13) (by decide) rfl (vp_in_nI (n := fs.length) (by omega) (by omega)) ?_
    refine wg_top (y := (nI (c + p))) (by rw [nI_nat (n := fs.length) (by omega)]; exact h57) ?_
    refine wg_aload_n (d136_20 L xs) rfl ?_
    refine wg_get (d136_21 L xs) (kd := 1) (cj := 9) (k0 := 6) rfl (Or.inl rfl) (by decide) rfl rfl ?_
    refine wg_iload_n (d136_24 L xs) rfl ?_
    refine wg_iald (d136_25 L xs) (n := 16) (by decide) rfl (vp_in_nI (n := r) (by omega) (by omega)) ?_
    refine wg_top (y := (nI (c + D.length))) (by rw [nI_nat (n := r) (by omega)]; exact hR.2.2.2.2.2.1) ?_
    refine wn_icmp_ge (d136_26 L xs) (x := c + p) (y := c + D.length) (by omega) (by omega) (t := 191) (by decide) (fun h1 => ?_) (fun h1 => by omega)
    exact md_st191 hc (by omega) hst h23 hE h56 hR hsg hok hdp
  | succ m ih =>
    intro p n σ s c3 c4 c5 c6 c7 c8 hm hst h23 hE h56 hR hsg hok hdp
    have hr16 := hR.1
    have hc1 := hR.2.1
    have hcl := hR.2.2.1
    have hl10 := hok.1
    have hpD : p ≤ D.length + 1 := hst.2.1.2.2.2.2.2.2.1
    have h57 : s.2.1 157 fs.length = nI (c + p) := by rw [hc]; exact hst.1.2.2.2.2.1
    refine wg_aload_n (d136_14 L xs) rfl ?_
    refine wg_get (d136_15 L xs) (kd := 1) (cj := 9) (k0 := 27) rfl (Or.inl rfl) (by decide) rfl rfl ?_
    refine wg_iload_n (d136_18 L xs) rfl ?_
    refine wg_iald (d136_19 L xs) (n := 13) (by decide) rfl (vp_in_nI (n := fs.length) (by omega) (by omega)) ?_
    refine wg_top (y := (nI (c + p))) (by rw [nI_nat (n := fs.length) (by omega)]; exact h57) ?_
    refine wg_aload_n (d136_20 L xs) rfl ?_
    refine wg_get (d136_21 L xs) (kd := 1) (cj := 9) (k0 := 6) rfl (Or.inl rfl) (by decide) rfl rfl ?_
    refine wg_iload_n (d136_24 L xs) rfl ?_
    refine wg_iald (d136_25 L xs) (n := 16) (by decide) rfl (vp_in_nI (n := r) (by omega) (by omega)) ?_
    refine wg_top (y := (nI (c + D.length))) (by rw [nI_nat (n := r) (by omega)]; exact hR.2.2.2.2.2.1) ?_
    refine wn_icmp_ge (d136_26 L xs) (x := c + p) (y := c + D.length) (by omega) (by omega) (t := 191) (by decide) (fun h1 => ?_) (fun h1 => ?_)
    · exact md_st191 hc (by omega) hst h23 hE h56 hR hsg hok hdp
    · obtain ⟨t1, t2, t3, t4⟩ := te_s (D := D) (p := p) (by omega)
      have h32 := te_ga (D := D) (p := p) (by omega)
      obtain ⟨cnt, hcnt⟩ := hst.2.1.2.2.2.2.2.2.2.1
      have hal := al_step (D := D) (p := p) (cnt := cnt) (by omega) hcnt
      have hgp := rec_gl hR p
      generalize hte : t_te D p = te at t1 t2 t3 t4 h32 hal
      have hR1 : isRec (mg_A s 157 fs.length (nI (c + te + 1))) r c D := isRec_of hR (by funext j; exact mA_ne _ _ (Or.inl (by omega))) (by funext j; exact mA_ne _ _ (Or.inl (by omega))) (by funext j; exact mA_ne _ _ (Or.inl (by omega)))
      have hst1 : isStk (mg_A s 157 fs.length (nI (c + te + 1))) (((how, sg, dom, D, te + 1, n, o) : frT) :: fs) := isStk_nx hst (by rw [← hc]; exact mA_at _ _ _ _) ((mA_ne _ _ (Or.inl (by omega))).trans hst.1.2.2.2.1) (fun a j hj => mA_ne _ _ (Or.inr hj)) (fun a h1 _ => by funext j; exact mA_ne _ _ (Or.inl h1)) (by omega) hal.2
      have hsg1 : isSg (mg_A s 157 fs.length (nI (c + te + 1))) σ := isSg_A hsg (by omega)
      have hE1 : isE (mg_A s 157 fs.length (nI (c + te + 1))) E := isE_A hE (by decide)
      have h561 : (mg_A s 157 fs.length (nI (c + te + 1))).2.1 156 fs.length = nI r := (mA_ne _ _ (Or.inl (by omega))).trans h56
      have m1 : mfr s (mg_A s 157 fs.length (nI (c + te + 1))) kF kA := mfr_A s (by decide)
      by_cases hlt : p < te
      · obtain ⟨t, ht⟩ := hal.1 hlt
        cases hq : t_mod (gl D) p te with
        | none =>
          have htr := ht
          rw [term_n hq] at htr
          rw [kfr_t (by omega) hte hlt ht (t_rest_lt htr)]
          have hcr := c_res_le (gl D p)
          refine wg_aload_n (d136_29 L xs) rfl ?_
          refine wg_get (d136_30 L xs) (kd := 1) (cj := 9) (k0 := 27) rfl (Or.inl rfl) (by decide) rfl rfl ?_
          refine wg_iload_n (d136_33 L xs) rfl ?_
          refine wg_iald (d136_34 L xs) (n := 13) (by decide) rfl (vp_in_nI (n := fs.length) (by omega) (by omega)) ?_
          refine wg_top (y := (nI (c + p))) (by rw [nI_nat (n := fs.length) (by omega)]; exact h57) ?_
          refine wg_istore_n (d136_35 L xs) (ls' := [some (.ref 141), some (.int (nI fs.length)), some (.int (nI r)), some (.int (nI (c + p))), c4, c5, c6, c7, c8]) (Nat.le_of_ble_eq_true rfl) rfl ?_
          refine wg_aload_n (d136_36 L xs) rfl ?_
          refine wg_iload_n (d136_37 L xs) rfl ?_
          refine wg_iload_n (d136_38 L xs) rfl ?_
          refine wg_invv (d136_39 L xs) (kd := 7) (mj := 127) (n := 2) rfl (Or.inl rfl) (ys := [.int (nI (c + p)), .int (nI r)]) (r := []) rfl rfl (by decide) rfl rfl (Nat.le_of_ble_eq_true rfl) (by have h := md_tend (L := L) (xs := xs) (d := d + 8) (i := p) hR (by omega); rw [show f_find (gl D) 32 p (D.length - p) = te from hte] at h; exact h) ?_
          rintro _ _ ⟨rfl, rfl⟩
          refine wg_istore (d136_42 L xs) (ls' := [some (.ref 141), some (.int (nI fs.length)), some (.int (nI r)), some (.int (nI (c + p))), some (.int (nI (c + te))), c5, c6, c7, c8]) (Nat.le_of_ble_eq_true rfl) rfl ?_
          refine wg_aload_n (d136_44 L xs) rfl ?_
          refine wg_get (d136_45 L xs) (kd := 1) (cj := 9) (k0 := 27) rfl (Or.inl rfl) (by decide) rfl rfl ?_
          refine wg_iload_n (d136_48 L xs) rfl ?_
          refine wg_iload (d136_49 L xs) rfl ?_
          refine wg_iconst (d136_51 L xs) (x := 1) (by decide) ?_
          refine wg_iadd (d136_52 L xs) ?_
          refine wg_top (y := (nI (c + te + 1))) (nI_add (c + te) 1) ?_
          refine wg_iast (d136_53 L xs) (n := 13) (by decide) rfl (vp_in_nI (n := fs.length) (by omega) (by omega)) rfl ?_
          rw [nI_nat (n := fs.length) (by omega)]
          refine wg_iload (d136_54 L xs) rfl ?_
          refine wg_iload_n (d136_56 L xs) rfl ?_
          refine wn_icmp_le (d136_57 L xs) (x := c + te) (y := c + p) (by omega) (by omega) (t := 188) (by decide) (fun h61 => by omega) (fun h61 => ?_)
          refine wg_aload_n (d136_60 L xs) rfl ?_
          refine wg_iload_n (d136_61 L xs) rfl ?_
          refine wg_iload_n (d136_62 L xs) rfl ?_
          refine wg_iload (d136_63 L xs) rfl ?_
          refine wg_invv (d136_65 L xs) (kd := 7) (mj := 128) (n := 3) rfl (Or.inl rfl) (ys := [.int (nI (c + te)), .int (nI (c + p)), .int (nI r)]) (r := []) rfl rfl (by decide) rfl rfl (Nat.le_of_ble_eq_true rfl) (by have h := md_mod (L := L) (xs := xs) (d := d + 7) (i := p) (j := te) hR1 (by omega) (by omega); rw [hq] at h; exact h) ?_
          rintro _ _ ⟨rfl, rfl⟩
          refine wg_top (y := -1) rfl ?_
          refine wg_if_ge (d136_68 L xs) (t := 188) (by decide) (fun hp => absurd hp (by decide)) (fun _ => ?_)
          refine wg_aload_n (d136_71 L xs) rfl ?_
          refine wg_iload_n (d136_72 L xs) rfl ?_
          refine wg_iload_n (d136_73 L xs) rfl ?_
          refine wg_invv (d136_74 L xs) (kd := 7) (mj := 125) (n := 2) rfl (Or.inl rfl) (ys := [.int (nI (c + p)), .int (nI r)]) (r := []) rfl rfl (by decide) rfl rfl (Nat.le_of_ble_eq_true rfl) (md_at (i := p) hR1 (by omega) (by omega)) ?_
          rintro _ _ ⟨rfl, rfl⟩
          rw [ga_in (show p < D.length by omega)]
          refine wg_invs (d136_77 L xs) (kd := 6) (mj := 132) (n := 1) rfl (Or.inl rfl) (ys := [.int (nI (gl D p))]) (r := []) rfl rfl (Nat.le_of_ble_eq_true rfl) (md_sign (by omega)) ?_
          rintro _ _ ⟨rfl, rfl⟩
          have hbs := bI_lt (c_sg (gl D p))
          refine wg_istore (d136_80 L xs) (ls' := [some (.ref 141), some (.int (nI fs.length)), some (.int (nI r)), some (.int (nI (c + p))), some (.int (nI (c + te))), some (.int (nI (bI (c_sg (gl D p))))), c6, c7, c8]) (Nat.le_of_ble_eq_true rfl) rfl ?_
          refine wg_aload_n (d136_82 L xs) rfl ?_
          refine wg_aload_n (d136_83 L xs) rfl ?_
          refine wg_iload_n (d136_84 L xs) rfl ?_
          refine wg_iload_n (d136_85 L xs) rfl ?_
          refine wg_invv (d136_86 L xs) (kd := 7) (mj := 125) (n := 2) rfl (Or.inl rfl) (ys := [.int (nI (c + p)), .int (nI r)]) (r := [.ref 141]) rfl rfl (by decide) rfl rfl (Nat.le_of_ble_eq_true rfl) (md_at (i := p) hR1 (by omega) (by omega)) ?_
          rintro _ _ ⟨rfl, rfl⟩
          rw [ga_in (show p < D.length by omega)]
          refine wg_invs (d136_89 L xs) (kd := 6) (mj := 137) (n := 1) rfl (Or.inl rfl) (ys := [.int (nI (gl D p))]) (r := [.ref 141]) rfl rfl (Nat.le_of_ble_eq_true rfl) (md_meaning (by omega)) ?_
          rintro _ _ ⟨rfl, rfl⟩
          refine wg_puti (d136_92 L xs) (cj := 9) (k0 := 33) rfl (by decide) rfl (Nat.le_of_ble_eq_true rfl) rfl rfl rfl ?_
          refine wg_iload (d136_95 L xs) rfl ?_
          refine wn_if_eq (d136_97 L xs) (x := bI (c_sg (gl D p))) (by omega) (t := 106) (by decide) (fun h63 => ?_) (fun h63 => ?_)
          · refine wg_iload_n (d136_106 L xs) rfl ?_
            refine wg_istore (d136_107 L xs) (ls' := [some (.ref 141), some (.int (nI fs.length)), some (.int (nI r)), some (.int (nI (c + p))), some (.int (nI (c + te))), some (.int (nI (bI (c_sg (gl D p))))), some (.int (nI (c + p))), c7, c8]) (Nat.le_of_ble_eq_true rfl) rfl ?_
            rw [if_neg (show ¬ c_sg (gl D p) = true by rw [bI_f (b := c_sg (gl D p)) (by omega)]; decide)] at htr
            exact wp_mono (md_st109 (σ := σ) (E := E) (p := p) (n := n) (res := c_res (gl D p)) (k5 := bI (c_sg (gl D p))) (c7 := c7) (c8 := c8) hc t2 (by omega) h32 htr hcr.1 hcr.2 rfl (isStk_I hst1) h23 (isE_I hE1 (by decide)) h561 (isRec_of hR1 rfl rfl rfl) (isSg_I hsg1 (by decide)) hok hdp (fun s' σ' c3 c4 c5 c6 c7 c8 _ a2 a3 a4 a5 a6 a7 a8 a9 => ih (te + 1) (n + 1) σ' s' c3 c4 c5 c6 c7 c8 (by omega) a2 a6 a7 a8 a9 a3 a4 (Nat.le_trans hdp a5))) (fun rv s' h => ⟨h.1, (m1.trans (mfr_I _ (by decide))).trans h.2.1, h.2.2⟩)
          · refine wg_iload_n (d136_100 L xs) rfl ?_
            refine wg_iconst (d136_101 L xs) (x := 1) (by decide) ?_
            refine wg_iadd (d136_102 L xs) ?_
            refine wg_top (y := (nI (c + p + 1))) (nI_add (c + p) 1) ?_
            refine wg_goto (d136_103 L xs) (t := 107) (by decide) ?_
            refine wg_istore (d136_107 L xs) (ls' := [some (.ref 141), some (.int (nI fs.length)), some (.int (nI r)), some (.int (nI (c + p))), some (.int (nI (c + te))), some (.int (nI (bI (c_sg (gl D p))))), some (.int (nI (c + p + 1))), c7, c8]) (Nat.le_of_ble_eq_true rfl) rfl ?_
            rw [if_pos (bI_t (b := c_sg (gl D p)) (by omega))] at htr
            exact wp_mono (md_st109 (σ := σ) (E := E) (p := p) (n := n) (res := c_res (gl D p)) (k5 := bI (c_sg (gl D p))) (c7 := c7) (c8 := c8) hc t2 (by omega) h32 htr hcr.1 hcr.2 rfl (isStk_I hst1) h23 (isE_I hE1 (by decide)) h561 (isRec_of hR1 rfl rfl rfl) (isSg_I hsg1 (by decide)) hok hdp (fun s' σ' c3 c4 c5 c6 c7 c8 _ a2 a3 a4 a5 a6 a7 a8 a9 => ih (te + 1) (n + 1) σ' s' c3 c4 c5 c6 c7 c8 (by omega) a2 a6 a7 a8 a9 a3 a4 (Nat.le_trans hdp a5))) (fun rv s' h => ⟨h.1, (m1.trans (mfr_I _ (by decide))).trans h.2.1, h.2.2⟩)
        | some e =>
          have hel := t_mod_lt hq
          rw [kfr_m (by omega) hte hlt ht (modi_67 (by rw [← term_s hq]; exact ht))]
          refine wg_aload_n (d136_29 L xs) rfl ?_
          refine wg_get (d136_30 L xs) (kd := 1) (cj := 9) (k0 := 27) rfl (Or.inl rfl) (by decide) rfl rfl ?_
          refine wg_iload_n (d136_33 L xs) rfl ?_
          refine wg_iald (d136_34 L xs) (n := 13) (by decide) rfl (vp_in_nI (n := fs.length) (by omega) (by omega)) ?_
          refine wg_top (y := (nI (c + p))) (by rw [nI_nat (n := fs.length) (by omega)]; exact h57) ?_
          refine wg_istore_n (d136_35 L xs) (ls' := [some (.ref 141), some (.int (nI fs.length)), some (.int (nI r)), some (.int (nI (c + p))), c4, c5, c6, c7, c8]) (Nat.le_of_ble_eq_true rfl) rfl ?_
          refine wg_aload_n (d136_36 L xs) rfl ?_
          refine wg_iload_n (d136_37 L xs) rfl ?_
          refine wg_iload_n (d136_38 L xs) rfl ?_
          refine wg_invv (d136_39 L xs) (kd := 7) (mj := 127) (n := 2) rfl (Or.inl rfl) (ys := [.int (nI (c + p)), .int (nI r)]) (r := []) rfl rfl (by decide) rfl rfl (Nat.le_of_ble_eq_true rfl) (by have h := md_tend (L := L) (xs := xs) (d := d + 8) (i := p) hR (by omega); rw [show f_find (gl D) 32 p (D.length - p) = te from hte] at h; exact h) ?_
          rintro _ _ ⟨rfl, rfl⟩
          refine wg_istore (d136_42 L xs) (ls' := [some (.ref 141), some (.int (nI fs.length)), some (.int (nI r)), some (.int (nI (c + p))), some (.int (nI (c + te))), c5, c6, c7, c8]) (Nat.le_of_ble_eq_true rfl) rfl ?_
          refine wg_aload_n (d136_44 L xs) rfl ?_
          refine wg_get (d136_45 L xs) (kd := 1) (cj := 9) (k0 := 27) rfl (Or.inl rfl) (by decide) rfl rfl ?_
          refine wg_iload_n (d136_48 L xs) rfl ?_
          refine wg_iload (d136_49 L xs) rfl ?_
          refine wg_iconst (d136_51 L xs) (x := 1) (by decide) ?_
          refine wg_iadd (d136_52 L xs) ?_
          refine wg_top (y := (nI (c + te + 1))) (nI_add (c + te) 1) ?_
          refine wg_iast (d136_53 L xs) (n := 13) (by decide) rfl (vp_in_nI (n := fs.length) (by omega) (by omega)) rfl ?_
          rw [nI_nat (n := fs.length) (by omega)]
          refine wg_iload (d136_54 L xs) rfl ?_
          refine wg_iload_n (d136_56 L xs) rfl ?_
          refine wn_icmp_le (d136_57 L xs) (x := c + te) (y := c + p) (by omega) (by omega) (t := 188) (by decide) (fun h61 => by omega) (fun h61 => ?_)
          refine wg_aload_n (d136_60 L xs) rfl ?_
          refine wg_iload_n (d136_61 L xs) rfl ?_
          refine wg_iload_n (d136_62 L xs) rfl ?_
          refine wg_iload (d136_63 L xs) rfl ?_
          refine wg_invv (d136_65 L xs) (kd := 7) (mj := 128) (n := 3) rfl (Or.inl rfl) (ys := [.int (nI (c + te)), .int (nI (c + p)), .int (nI r)]) (r := []) rfl rfl (by decide) rfl rfl (Nat.le_of_ble_eq_true rfl) (by have h := md_mod (L := L) (xs := xs) (d := d + 7) (i := p) (j := te) hR1 (by omega) (by omega); rw [hq] at h; exact h) ?_
          rintro _ _ ⟨rfl, rfl⟩
          refine wg_top (y := nI (c + e)) rfl ?_
          refine wn_if_ge (d136_68 L xs) (x := c + e) (by omega) (t := 188) (by decide) (fun h62 => ?_) (fun h62 => by omega)
          refine wg_goto (d136_188 L xs) (t := 14) (by decide) ?_
          exact wp_mono (ih (te + 1) n σ (mg_A s 157 fs.length (nI (c + te + 1))) _ _ _ _ _ _ (by omega) hst1 h23 hE1 h561 hR1 hsg1 hok hdp) (fun rv s' h => ⟨h.1, m1.trans h.2.1, h.2.2⟩)
      · rw [kfr_e (by omega) hte hlt]
        refine wg_aload_n (d136_29 L xs) rfl ?_
        refine wg_get (d136_30 L xs) (kd := 1) (cj := 9) (k0 := 27) rfl (Or.inl rfl) (by decide) rfl rfl ?_
        refine wg_iload_n (d136_33 L xs) rfl ?_
        refine wg_iald (d136_34 L xs) (n := 13) (by decide) rfl (vp_in_nI (n := fs.length) (by omega) (by omega)) ?_
        refine wg_top (y := (nI (c + p))) (by rw [nI_nat (n := fs.length) (by omega)]; exact h57) ?_
        refine wg_istore_n (d136_35 L xs) (ls' := [some (.ref 141), some (.int (nI fs.length)), some (.int (nI r)), some (.int (nI (c + p))), c4, c5, c6, c7, c8]) (Nat.le_of_ble_eq_true rfl) rfl ?_
        refine wg_aload_n (d136_36 L xs) rfl ?_
        refine wg_iload_n (d136_37 L xs) rfl ?_
        refine wg_iload_n (d136_38 L xs) rfl ?_
        refine wg_invv (d136_39 L xs) (kd := 7) (mj := 127) (n := 2) rfl (Or.inl rfl) (ys := [.int (nI (c + p)), .int (nI r)]) (r := []) rfl rfl (by decide) rfl rfl (Nat.le_of_ble_eq_true rfl) (by have h := md_tend (L := L) (xs := xs) (d := d + 8) (i := p) hR (by omega); rw [show f_find (gl D) 32 p (D.length - p) = te from hte] at h; exact h) ?_
        rintro _ _ ⟨rfl, rfl⟩
        refine wg_istore (d136_42 L xs) (ls' := [some (.ref 141), some (.int (nI fs.length)), some (.int (nI r)), some (.int (nI (c + p))), some (.int (nI (c + te))), c5, c6, c7, c8]) (Nat.le_of_ble_eq_true rfl) rfl ?_
        refine wg_aload_n (d136_44 L xs) rfl ?_
        refine wg_get (d136_45 L xs) (kd := 1) (cj := 9) (k0 := 27) rfl (Or.inl rfl) (by decide) rfl rfl ?_
        refine wg_iload_n (d136_48 L xs) rfl ?_
        refine wg_iload (d136_49 L xs) rfl ?_
        refine wg_iconst (d136_51 L xs) (x := 1) (by decide) ?_
        refine wg_iadd (d136_52 L xs) ?_
        refine wg_top (y := (nI (c + te + 1))) (nI_add (c + te) 1) ?_
        refine wg_iast (d136_53 L xs) (n := 13) (by decide) rfl (vp_in_nI (n := fs.length) (by omega) (by omega)) rfl ?_
        rw [nI_nat (n := fs.length) (by omega)]
        refine wg_iload (d136_54 L xs) rfl ?_
        refine wg_iload_n (d136_56 L xs) rfl ?_
        refine wn_icmp_le (d136_57 L xs) (x := c + te) (y := c + p) (by omega) (by omega) (t := 188) (by decide) (fun h61 => ?_) (fun h61 => by omega)
        refine wg_goto (d136_188 L xs) (t := 14) (by decide) ?_
        exact wp_mono (ih (te + 1) n σ (mg_A s 157 fs.length (nI (c + te + 1))) _ _ _ _ _ _ (by omega) hst1 h23 hE1 h561 hR1 hsg1 hok hdp) (fun rv s' h => ⟨h.1, m1.trans h.2.1, h.2.2⟩)
theorem md_step {f : frT} (hst : isStk s (f :: fs)) (h23 : s.1 141 23 = nI (fs.length + 1)) (hE : isE s E) (hsg : isSg s σ) (hok : okS σ) (hdp : fs.length ≤ σ.1) : ca L xs (d + 10) 136 [.ref 141] s (fun rv s' => rv = none ∧ mfr s s' kF kA ∧ kOut s' E (k_ret E fs f.1 f.2.1 (k_fr E fs.length f σ)) (2 * (10 - σ.1) + fs.length)) := by
  refine wg_call (Nat.le_of_ble_eq_true rfl) ?_
  have hl10 := hok.1
  obtain ⟨r, h56, hR⟩ := hst.1.2.2.2.2.2.2.2.2
  show wp L xs (d + 9) 136 0 [some (.ref 141), none, none, none, none, none, none, none, none] [] s _
  refine wg_aload_n (d136_0 L xs) rfl ?_
  refine wg_get (d136_1 L xs) (kd := 1) (cj := 9) (k0 := 23) rfl (Or.inl rfl) (by decide) rfl rfl ?_
  refine wg_top (y := (nI (fs.length + 1))) h23 ?_
  refine wg_iconst (d136_4 L xs) (x := 1) (by decide) ?_
  refine wg_isub (d136_5 L xs) ?_
  refine wg_top (y := (nI fs.length)) (pk_sub (a := fs.length + 1) (b := 1) (by omega)) ?_
  refine wg_istore_n (d136_6 L xs) (ls' := [some (.ref 141), some (.int (nI fs.length)), none, none, none, none, none, none, none]) (Nat.le_of_ble_eq_true rfl) rfl ?_
  refine wg_aload_n (d136_7 L xs) rfl ?_
  refine wg_get (d136_8 L xs) (kd := 1) (cj := 9) (k0 := 26) rfl (Or.inl rfl) (by decide) rfl rfl ?_
  refine wg_iload_n (d136_11 L xs) rfl ?_
  refine wg_iald (d136_12 L xs) (n := 13) (by decide) rfl (vp_in_nI (n := fs.length) (by omega) (by omega)) ?_
  refine wg_top (y := (nI r)) (by rw [nI_nat (n := fs.length) (by omega)]; exact h56) ?_
  refine wg_istore_n (d136_13 L xs) (ls' := [some (.ref 141), some (.int (nI fs.length)), some (.int (nI r)), none, none, none, none, none, none]) (Nat.le_of_ble_eq_true rfl) rfl ?_
  exact md_step_l (how := f.1) (sg := f.2.1) (dom := fr_dom f) (D := fr_D f) (o := fr_o f) rfl (fr_D f).length (fr_p f) (fr_n f) σ s none none none none none none (by omega) hst h23 hE h56 hR hsg hok hdp
end KL
