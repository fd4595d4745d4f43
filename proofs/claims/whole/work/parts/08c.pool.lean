theorem mg_swl : ∀ w ∈ sx_wl, w ∈ mg_TB := List.forall_mem_cons.mpr ⟨mg_t3 31 (by decide +kernel) rfl, List.forall_mem_cons.mpr ⟨mg_t5 223 (by decide +kernel) rfl, List.forall_mem_cons.mpr ⟨mg_t3 32 (by decide +kernel) rfl, List.forall_mem_cons.mpr ⟨mg_t1 16 (by decide +kernel) rfl, List.forall_mem_cons.mpr ⟨mg_t3 34 (by decide +kernel) rfl, List.forall_mem_cons.mpr ⟨mg_t3 33 (by decide +kernel) rfl, List.forall_mem_cons.mpr ⟨mg_t1 16 (by decide +kernel) rfl, List.forall_mem_cons.mpr ⟨mg_t3 35 (by decide +kernel) rfl, List.forall_mem_cons.mpr ⟨mg_t3 36 (by decide +kernel) rfl, List.forall_mem_cons.mpr ⟨mg_t5 224 (by decide +kernel) rfl, fun _ h => absurd h List.not_mem_nil⟩⟩⟩⟩⟩⟩⟩⟩⟩⟩
theorem mg_swc : ∀ w ∈ sx_wc, w ∈ mg_TB := List.forall_mem_cons.mpr ⟨mg_t3 49 (by decide +kernel) rfl, List.forall_mem_cons.mpr ⟨mg_t3 50 (by decide +kernel) rfl, List.forall_mem_cons.mpr ⟨mg_t1 16 (by decide +kernel) rfl, List.forall_mem_cons.mpr ⟨mg_t3 52 (by decide +kernel) rfl, List.forall_mem_cons.mpr ⟨mg_t3 51 (by decide +kernel) rfl, List.forall_mem_cons.mpr ⟨mg_t5 223 (by decide +kernel) rfl, List.forall_mem_cons.mpr ⟨mg_t3 54 (by decide +kernel) rfl, List.forall_mem_cons.mpr ⟨mg_t3 55 (by decide +kernel) rfl, List.forall_mem_cons.mpr ⟨mg_t1 18 (by decide +kernel) rfl, List.forall_mem_cons.mpr ⟨mg_t1 16 (by decide +kernel) rfl, List.forall_mem_cons.mpr ⟨mg_t3 53 (by decide +kernel) rfl, List.forall_mem_cons.mpr ⟨mg_t3 36 (by decide +kernel) rfl, List.forall_mem_cons.mpr ⟨mg_t5 224 (by decide +kernel) rfl, List.forall_mem_cons.mpr ⟨mg_t3 56 (by decide +kernel) rfl, List.forall_mem_cons.mpr ⟨mg_t3 57 (by decide +kernel) rfl, List.forall_mem_cons.mpr ⟨mg_t3 58 (by decide +kernel) rfl, List.forall_mem_cons.mpr ⟨mg_t3 59 (by decide +kernel) rfl, List.forall_mem_cons.mpr ⟨mg_t3 60 (by decide +kernel) rfl, List.forall_mem_cons.mpr ⟨mg_t3 62 (by decide +kernel) rfl, List.forall_mem_cons.mpr ⟨mg_t3 63 (by decide +kernel) rfl, List.forall_mem_cons.mpr ⟨mg_t1 19 (by decide +kernel) rfl, List.forall_mem_cons.mpr ⟨mg_t3 64 (by decide +kernel) rfl, fun _ h => absurd h List.not_mem_nil⟩⟩⟩⟩⟩⟩⟩⟩⟩⟩⟩⟩⟩⟩⟩⟩⟩⟩⟩⟩⟩⟩
theorem pe_Guard_3 : ax_okE mg_TB mg_T0 "MailGuard" 3 (9, 0, 0) := by
  simp only [ax_okE]
  exact ⟨mg_t1 26 (by decide +kernel) rfl, mg_t1 27 (by decide +kernel) rfl, mg_t1 28 (by decide +kernel) rfl⟩
theorem pe_Guard_9 : ax_okE mg_TB mg_T0 "MailGuard" 9 (4, 1, 2) := by
  simp only [ax_okE]
  exact ⟨rfl, mg_t1 29 (by decide +kernel) rfl, mg_t1 30 (by decide +kernel) rfl, mg_t1 2 (by decide +kernel) rfl⟩
theorem pe_Guard_11 : ax_okE mg_TB mg_T0 "MailGuard" 11 (8, 5, 1) := by
  simp only [ax_okE]
  exact ⟨mg_t1 31 (by decide +kernel) rfl, mg_t1 32 (by decide +kernel) rfl, rfl, rfl, mg_t1 2 (by decide +kernel) rfl, by decide +kernel, ⟨rfl, mg_t1 33 (by decide +kernel) rfl, by decide, by decide, by decide⟩⟩
theorem pe_Guard_14 : ax_okE mg_TB mg_T0 "MailGuard" 14 (1, 0, 0) := by
  simp only [ax_okE]
  exact ⟨by decide, mg_t1 217 (by decide +kernel) rfl⟩
theorem pe_Guard_18 : ax_okE mg_TB mg_T0 "MailGuard" 18 (4, 3, 3) := by
  simp only [ax_okE]
  exact ⟨rfl, mg_t1 43 (by decide +kernel) rfl, mg_t1 44 (by decide +kernel) rfl, mg_t1 3 (by decide +kernel) rfl⟩
theorem pe_Guard_20 : ax_okE mg_TB mg_T0 "MailGuard" 20 (8, 6, 0) := by
  simp only [ax_okE]
  exact ⟨mg_t1 45 (by decide +kernel) rfl, mg_t1 46 (by decide +kernel) rfl, rfl, rfl, mg_t1 3 (by decide +kernel) rfl, by decide +kernel, ⟨rfl, mg_t1 47 (by decide +kernel) rfl, by decide, by decide, by decide⟩⟩
theorem pe_Guard_21 : ax_okE mg_TB mg_T0 "MailGuard" 21 (1, 0, 1) := by
  simp only [ax_okE]
  exact ⟨by decide, mg_t1 218 (by decide +kernel) rfl⟩
theorem pe_Guard_25 : ax_okE mg_TB mg_T0 "MailGuard" 25 (4, 6, 10) := by
  simp only [ax_okE]
  exact ⟨rfl, mg_t1 89 (by decide +kernel) rfl, mg_t1 90 (by decide +kernel) rfl, mg_t1 5 (by decide +kernel) rfl⟩
theorem pe_Guard_27 : ax_okE mg_TB mg_T0 "MailGuard" 27 (8, 8, 1) := by
  simp only [ax_okE]
  exact ⟨mg_t1 91 (by decide +kernel) rfl, mg_t1 92 (by decide +kernel) rfl, rfl, rfl, mg_t1 5 (by decide +kernel) rfl, by decide +kernel, ⟨rfl, mg_t1 93 (by decide +kernel) rfl, by decide, by decide, by decide⟩⟩
theorem pe_Guard_30 : ax_okE mg_TB mg_T0 "MailGuard" 30 (1, 0, 2) := by
  simp only [ax_okE]
  exact ⟨by decide, mg_t1 219 (by decide +kernel) rfl⟩
theorem pe_Guard_34 : ax_okE mg_TB mg_T0 "MailGuard" 34 (4, 8, 4) := by
  simp only [ax_okE]
  exact ⟨rfl, mg_t1 177 (by decide +kernel) rfl, mg_t1 178 (by decide +kernel) rfl, mg_t1 8 (by decide +kernel) rfl⟩
theorem pe_Guard_36 : ax_okE mg_TB mg_T0 "MailGuard" 36 (8, 11, 2) := by
  simp only [ax_okE]
  exact ⟨mg_t1 179 (by decide +kernel) rfl, mg_t1 180 (by decide +kernel) rfl, rfl, rfl, mg_t1 8 (by decide +kernel) rfl, by decide +kernel, ⟨rfl, mg_t1 181 (by decide +kernel) rfl, by decide, by decide, by decide⟩⟩
theorem pe_Guard_39 : ax_okE mg_TB mg_T0 "MailGuard" 39 (1, 0, 3) := by
  simp only [ax_okE]
  exact ⟨by decide, mg_t1 220 (by decide +kernel) rfl⟩
theorem pe_Guard_43 : ax_okE mg_TB mg_T0 "MailGuard" 43 (6, 14, 2) := by
  simp only [ax_okE]
  exact ⟨mg_t1 234 (by decide +kernel) rfl, mg_t1 235 (by decide +kernel) rfl, mg_t1 1 (by decide +kernel) rfl, by decide +kernel, ⟨rfl, mg_t1 236 (by decide +kernel) rfl, by decide, by decide, by decide⟩⟩
theorem pe_Guard_47 : ax_okE mg_TB mg_T0 "MailGuard" 47 (7, 15, 0) := by
  simp only [ax_okE]
  exact ⟨mg_t1 237 (by decide +kernel) rfl, mg_t1 238 (by decide +kernel) rfl, mg_t1 239 (by decide +kernel) rfl, mg_t1 2 (by decide +kernel) rfl, by decide +kernel, ⟨rfl, mg_t2 0 (by decide +kernel) rfl, by decide, by decide, by decide⟩⟩
theorem pe_Guard_51 : ax_okE mg_TB mg_T0 "MailGuard" 51 (7, 16, 1) := by
  simp only [ax_okE]
  exact ⟨mg_t2 1 (by decide +kernel) rfl, mg_t2 2 (by decide +kernel) rfl, mg_t2 3 (by decide +kernel) rfl, mg_t1 2 (by decide +kernel) rfl, by decide +kernel, ⟨rfl, mg_t2 4 (by decide +kernel) rfl, by decide, by decide, by decide⟩⟩
theorem pe_Guard_55 : ax_okE mg_TB mg_T0 "MailGuard" 55 (7, 18, 0) := by
  simp only [ax_okE]
  exact ⟨mg_t2 9 (by decide +kernel) rfl, mg_t2 10 (by decide +kernel) rfl, mg_t2 11 (by decide +kernel) rfl, mg_t1 2 (by decide +kernel) rfl, by decide +kernel, ⟨rfl, mg_t2 12 (by decide +kernel) rfl, by decide, by decide, by decide⟩⟩
theorem pe_Guard_58 : ax_okE mg_TB mg_T0 "MailGuard" 58 (7, 36, 1) := by
  simp only [ax_okE]
  exact ⟨mg_t2 86 (by decide +kernel) rfl, mg_t2 88 (by decide +kernel) rfl, mg_p0 0 (by decide +kernel) rfl, mg_t1 1 (by decide +kernel) rfl, by decide +kernel, ⟨rfl, mg_t2 89 (by decide +kernel) rfl, by decide, by decide, by decide⟩⟩
theorem pe_Guard_65 : ax_okE mg_TB mg_T0 "MailGuard" 65 (7, 33, 0) := by
  simp only [ax_okE]
  exact ⟨mg_t2 69 (by decide +kernel) rfl, mg_t2 70 (by decide +kernel) rfl, mg_t2 71 (by decide +kernel) rfl, mg_t1 3 (by decide +kernel) rfl, by decide +kernel, ⟨rfl, mg_t2 72 (by decide +kernel) rfl, by decide, by decide, by decide⟩⟩
theorem pe_Guard_71 : ax_okE mg_TB mg_T0 "MailGuard" 71 (7, 42, 2) := by
  simp only [ax_okE]
  exact ⟨mg_t2 189 (by decide +kernel) rfl, mg_t2 190 (by decide +kernel) rfl, mg_t2 191 (by decide +kernel) rfl, mg_t1 3 (by decide +kernel) rfl, by decide +kernel, ⟨rfl, mg_t2 192 (by decide +kernel) rfl, by decide, by decide, by decide⟩⟩
theorem pe_Guard_75 : ax_okE mg_TB mg_T0 "MailGuard" 75 (7, 21, 1) := by
  simp only [ax_okE]
  exact ⟨mg_t2 21 (by decide +kernel) rfl, mg_t2 22 (by decide +kernel) rfl, mg_t2 23 (by decide +kernel) rfl, mg_t1 3 (by decide +kernel) rfl, by decide +kernel, ⟨rfl, mg_t2 24 (by decide +kernel) rfl, by decide, by decide, by decide⟩⟩
theorem pe_Guard_78 : ax_okE mg_TB mg_T0 "MailGuard" 78 (7, 46, 0) := by
  simp only [ax_okE]
  exact ⟨mg_t2 212 (by decide +kernel) rfl, mg_t2 213 (by decide +kernel) rfl, mg_t2 214 (by decide +kernel) rfl, mg_t1 2 (by decide +kernel) rfl, by decide +kernel, ⟨rfl, mg_t2 215 (by decide +kernel) rfl, by decide, by decide, by decide⟩⟩
theorem pe_Guard_82 : ax_okE mg_TB mg_T0 "MailGuard" 82 (7, 47, 2) := by
  simp only [ax_okE]
  exact ⟨mg_t2 217 (by decide +kernel) rfl, mg_t2 218 (by decide +kernel) rfl, mg_t2 219 (by decide +kernel) rfl, mg_t1 5 (by decide +kernel) rfl, by decide +kernel, ⟨rfl, mg_t2 220 (by decide +kernel) rfl, by decide, by decide, by decide⟩⟩
theorem pe_Guard_85 : ax_okE mg_TB mg_T0 "MailGuard" 85 (17, 51, 1) := by
  simp only [ax_okE]
  exact ⟨mg_t2 239 (by decide +kernel) rfl, mg_t3 1 (by decide +kernel) rfl, mg_p0 2 (by decide +kernel) rfl, mg_t1 5 (by decide +kernel) rfl, by decide +kernel, ⟨rfl, mg_t3 2 (by decide +kernel) rfl, by decide, by decide, by decide⟩⟩
theorem pe_Guard_89 : ax_okE mg_TB mg_T0 "MailGuard" 89 (7, 85, 1) := by
  simp only [ax_okE]
  exact ⟨mg_t3 207 (by decide +kernel) rfl, mg_t3 208 (by decide +kernel) rfl, mg_t3 209 (by decide +kernel) rfl, mg_t1 5 (by decide +kernel) rfl, by decide +kernel, ⟨rfl, mg_t3 210 (by decide +kernel) rfl, by decide, by decide, by decide⟩⟩
theorem pe_Guard_92 : ax_okE mg_TB mg_T0 "MailGuard" 92 (7, 23, 0) := by
  simp only [ax_okE]
  exact ⟨mg_t2 29 (by decide +kernel) rfl, mg_t2 30 (by decide +kernel) rfl, mg_t2 31 (by decide +kernel) rfl, mg_t1 5 (by decide +kernel) rfl, by decide +kernel, ⟨rfl, mg_t2 32 (by decide +kernel) rfl, by decide, by decide, by decide⟩⟩
theorem pe_Guard_95 : ax_okE mg_TB mg_T0 "MailGuard" 95 (7, 24, 0) := by
  simp only [ax_okE]
  exact ⟨mg_t2 33 (by decide +kernel) rfl, mg_t2 34 (by decide +kernel) rfl, mg_t2 35 (by decide +kernel) rfl, mg_t1 5 (by decide +kernel) rfl, by decide +kernel, ⟨rfl, mg_t2 36 (by decide +kernel) rfl, by decide, by decide, by decide⟩⟩
theorem pe_Guard_98 : ax_okE mg_TB mg_T0 "MailGuard" 98 (7, 25, 0) := by
  simp only [ax_okE]
  exact ⟨mg_t2 37 (by decide +kernel) rfl, mg_t2 38 (by decide +kernel) rfl, mg_t2 39 (by decide +kernel) rfl, mg_t1 5 (by decide +kernel) rfl, by decide +kernel, ⟨rfl, mg_t2 40 (by decide +kernel) rfl, by decide, by decide, by decide⟩⟩
theorem pe_Guard_101 : ax_okE mg_TB mg_T0 "MailGuard" 101 (7, 26, 0) := by
  simp only [ax_okE]
  exact ⟨mg_t2 41 (by decide +kernel) rfl, mg_t2 42 (by decide +kernel) rfl, mg_t2 43 (by decide +kernel) rfl, mg_t1 5 (by decide +kernel) rfl, by decide +kernel, ⟨rfl, mg_t2 44 (by decide +kernel) rfl, by decide, by decide, by decide⟩⟩
theorem pe_Guard_104 : ax_okE mg_TB mg_T0 "MailGuard" 104 (7, 27, 0) := by
  simp only [ax_okE]
  exact ⟨mg_t2 45 (by decide +kernel) rfl, mg_t2 46 (by decide +kernel) rfl, mg_t2 47 (by decide +kernel) rfl, mg_t1 5 (by decide +kernel) rfl, by decide +kernel, ⟨rfl, mg_t2 48 (by decide +kernel) rfl, by decide, by decide, by decide⟩⟩
theorem pe_Guard_107 : ax_okE mg_TB mg_T0 "MailGuard" 107 (7, 28, 0) := by
  simp only [ax_okE]
  exact ⟨mg_t2 49 (by decide +kernel) rfl, mg_t2 50 (by decide +kernel) rfl, mg_t2 51 (by decide +kernel) rfl, mg_t1 5 (by decide +kernel) rfl, by decide +kernel, ⟨rfl, mg_t2 52 (by decide +kernel) rfl, by decide, by decide, by decide⟩⟩
theorem pe_Guard_110 : ax_okE mg_TB mg_T0 "MailGuard" 110 (7, 30, 0) := by
  simp only [ax_okE]
  exact ⟨mg_t2 57 (by decide +kernel) rfl, mg_t2 58 (by decide +kernel) rfl, mg_t2 59 (by decide +kernel) rfl, mg_t1 3 (by decide +kernel) rfl, by decide +kernel, ⟨rfl, mg_t2 60 (by decide +kernel) rfl, by decide, by decide, by decide⟩⟩
theorem pe_Guard_114 : ax_okE mg_TB mg_T0 "MailGuard" 114 (7, 31, 1) := by
  simp only [ax_okE]
  exact ⟨mg_t2 61 (by decide +kernel) rfl, mg_t2 62 (by decide +kernel) rfl, mg_t2 63 (by decide +kernel) rfl, mg_t1 2 (by decide +kernel) rfl, by decide +kernel, ⟨rfl, mg_t2 64 (by decide +kernel) rfl, by decide, by decide, by decide⟩⟩
theorem pe_Guard_118 : ax_okE mg_TB mg_T0 "MailGuard" 118 (7, 87, 2) := by
  simp only [ax_okE]
  exact ⟨mg_t3 219 (by decide +kernel) rfl, mg_t3 220 (by decide +kernel) rfl, mg_t3 221 (by decide +kernel) rfl, mg_t1 8 (by decide +kernel) rfl, by decide +kernel, ⟨rfl, mg_t3 222 (by decide +kernel) rfl, by decide, by decide, by decide⟩⟩
theorem pe_Guard_122 : ax_okE mg_TB mg_T0 "MailGuard" 122 (7, 34, 1) := by
  simp only [ax_okE]
  exact ⟨mg_t2 73 (by decide +kernel) rfl, mg_t2 74 (by decide +kernel) rfl, mg_t2 75 (by decide +kernel) rfl, mg_t1 3 (by decide +kernel) rfl, by decide +kernel, ⟨rfl, mg_t2 76 (by decide +kernel) rfl, by decide, by decide, by decide⟩⟩
theorem pe_Guard_125 : ax_okE mg_TB mg_T0 "MailGuard" 125 (2, 2, 0) := by
  simp only [ax_okE]
  exact ⟨by decide, mg_t1 62 (by decide +kernel) rfl⟩
theorem pe_Guard_131 : ax_okE mg_TB mg_T0 "MailGuard" 131 (7, 37, 3) := by
  simp only [ax_okE]
  exact ⟨mg_t2 90 (by decide +kernel) rfl, mg_t2 91 (by decide +kernel) rfl, mg_t2 92 (by decide +kernel) rfl, mg_t1 2 (by decide +kernel) rfl, by decide +kernel, ⟨rfl, mg_t2 93 (by decide +kernel) rfl, by decide, by decide, by decide⟩⟩
theorem pe_Guard_135 : ax_okE mg_TB mg_T0 "MailGuard" 135 (7, 38, 2) := by
  simp only [ax_okE]
  exact ⟨mg_t2 95 (by decide +kernel) rfl, mg_t2 96 (by decide +kernel) rfl, mg_t2 97 (by decide +kernel) rfl, mg_t1 2 (by decide +kernel) rfl, by decide +kernel, ⟨rfl, mg_t2 98 (by decide +kernel) rfl, by decide, by decide, by decide⟩⟩
theorem pe_Guard_138 : ax_okE mg_TB mg_T0 "MailGuard" 138 (7, 40, 2) := by
  simp only [ax_okE]
  exact ⟨mg_t2 102 (by decide +kernel) rfl, mg_t2 103 (by decide +kernel) rfl, mg_t2 104 (by decide +kernel) rfl, mg_t1 2 (by decide +kernel) rfl, by decide +kernel, ⟨rfl, mg_t2 105 (by decide +kernel) rfl, by decide, by decide, by decide⟩⟩
theorem pe_Guard_142 : ax_okE mg_TB mg_T0 "MailGuard" 142 (11, 18446744073709551615, 0) := by
  simp only [ax_okE]
  exact mg_t2 111 (by decide +kernel) rfl
theorem pe_Text_3 : ax_okE mg_TB mg_T0 "MailGuard$Text" 3 (9, 0, 0) := by
  simp only [ax_okE]
  exact ⟨mg_t1 34 (by decide +kernel) rfl, mg_t1 27 (by decide +kernel) rfl, mg_t1 28 (by decide +kernel) rfl⟩
theorem pe_Text_9 : ax_okE mg_TB mg_T0 "MailGuard$Text" 9 (1, 1, 0) := by
  simp only [ax_okE]
  exact ⟨by decide, mg_t1 35 (by decide +kernel) rfl⟩
theorem pe_Text_15 : ax_okE mg_TB mg_T0 "MailGuard$Text" 15 (1, 1, 1) := by
  simp only [ax_okE]
  exact ⟨by decide, mg_t1 36 (by decide +kernel) rfl⟩
theorem pe_Text_19 : ax_okE mg_TB mg_T0 "MailGuard$Text" 19 (14, 0, 0) := by
  simp only [ax_okE]
  exact ⟨mg_t3 45 (by decide +kernel) rfl, mg_t3 29 (by decide +kernel) rfl, mg_t3 30 (by decide +kernel) rfl, mg_swl⟩
theorem pe_Text_25 : ax_okE mg_TB mg_T0 "MailGuard$Text" 25 (15, 0, 0) := by
  simp only [ax_okE]
  exact ⟨mg_t3 46 (by decide +kernel) rfl, mg_t3 47 (by decide +kernel) rfl, mg_t3 48 (by decide +kernel) rfl, mg_swc⟩
theorem pe_Text_29 : ax_okE mg_TB mg_T0 "MailGuard$Text" 29 (7, 16, 1) := by
  simp only [ax_okE]
  exact ⟨mg_t2 226 (by decide +kernel) rfl, mg_t2 2 (by decide +kernel) rfl, mg_t2 3 (by decide +kernel) rfl, mg_t1 2 (by decide +kernel) rfl, by decide +kernel, ⟨rfl, mg_t2 4 (by decide +kernel) rfl, by decide, by decide, by decide⟩⟩
theorem pe_Text_33 : ax_okE mg_TB mg_T0 "MailGuard$Text" 33 (7, 78, 1) := by
  simp only [ax_okE]
  exact ⟨mg_t3 174 (by decide +kernel) rfl, mg_t3 175 (by decide +kernel) rfl, mg_t3 176 (by decide +kernel) rfl, mg_t1 2 (by decide +kernel) rfl, by decide +kernel, ⟨rfl, mg_t3 177 (by decide +kernel) rfl, by decide, by decide, by decide⟩⟩
theorem pe_Text_37 : ax_okE mg_TB mg_T0 "MailGuard$Text" 37 (7, 31, 1) := by
  simp only [ax_okE]
  exact ⟨mg_t2 94 (by decide +kernel) rfl, mg_t2 62 (by decide +kernel) rfl, mg_t2 63 (by decide +kernel) rfl, mg_t1 2 (by decide +kernel) rfl, by decide +kernel, ⟨rfl, mg_t2 64 (by decide +kernel) rfl, by decide, by decide, by decide⟩⟩
theorem pe_Text_40 : ax_okE mg_TB mg_T0 "MailGuard$Text" 40 (7, 44, 3) := by
  simp only [ax_okE]
  exact ⟨mg_t3 178 (by decide +kernel) rfl, mg_t2 201 (by decide +kernel) rfl, mg_t2 202 (by decide +kernel) rfl, mg_t1 2 (by decide +kernel) rfl, by decide +kernel, ⟨rfl, mg_t2 203 (by decide +kernel) rfl, by decide, by decide, by decide⟩⟩
theorem pe_Text_44 : ax_okE mg_TB mg_T0 "MailGuard$Text" 44 (7, 38, 2) := by
  simp only [ax_okE]
  exact ⟨mg_t2 216 (by decide +kernel) rfl, mg_t2 96 (by decide +kernel) rfl, mg_t2 97 (by decide +kernel) rfl, mg_t1 2 (by decide +kernel) rfl, by decide +kernel, ⟨rfl, mg_t2 98 (by decide +kernel) rfl, by decide, by decide, by decide⟩⟩
theorem pe_Text_48 : ax_okE mg_TB mg_T0 "MailGuard$Text" 48 (6, 39, 1) := by
  simp only [ax_okE]
  exact ⟨mg_t2 99 (by decide +kernel) rfl, mg_t2 100 (by decide +kernel) rfl, mg_t1 2 (by decide +kernel) rfl, by decide +kernel, ⟨rfl, mg_t2 101 (by decide +kernel) rfl, by decide, by decide, by decide⟩⟩
theorem pe_Text_52 : ax_okE mg_TB mg_T0 "MailGuard$Text" 52 (7, 41, 3) := by
  simp only [ax_okE]
  exact ⟨mg_t2 106 (by decide +kernel) rfl, mg_t2 107 (by decide +kernel) rfl, mg_t2 108 (by decide +kernel) rfl, mg_t1 2 (by decide +kernel) rfl, by decide +kernel, ⟨rfl, mg_t2 109 (by decide +kernel) rfl, by decide, by decide, by decide⟩⟩
theorem pe_Text_56 : ax_okE mg_TB mg_T0 "MailGuard$Text" 56 (11, 18446744073709551615, 0) := by
  simp only [ax_okE]
  exact mg_t2 110 (by decide +kernel) rfl
theorem pe_Text (idx : Nat) : ax_okE mg_TB mg_T0 "MailGuard$Text" idx (pl_Text idx) := by
  unfold pl_Text
  split
  · exact pe_Text_3
  · exact pe_Text_9
  · exact pe_Text_15
  · exact pe_Text_19
  · exact pe_Text_25
  · exact pe_Text_29
  · exact pe_Text_33
  · exact pe_Text_37
  · exact pe_Text_40
  · exact pe_Text_44
  · exact pe_Text_48
  · exact pe_Text_52
  · exact pe_Text_56
  · exact trivial
theorem pe_Row_3 : ax_okE mg_TB mg_T0 "MailGuard$Row" 3 (9, 0, 0) := by
  simp only [ax_okE]
  exact ⟨mg_t1 57 (by decide +kernel) rfl, mg_t1 27 (by decide +kernel) rfl, mg_t1 28 (by decide +kernel) rfl⟩
theorem pe_Row_9 : ax_okE mg_TB mg_T0 "MailGuard$Row" 9 (4, 1, 2) := by
  simp only [ax_okE]
  exact ⟨rfl, mg_t1 58 (by decide +kernel) rfl, mg_t1 30 (by decide +kernel) rfl, mg_t1 2 (by decide +kernel) rfl⟩
theorem pe_Row_11 : ax_okE mg_TB mg_T0 "MailGuard$Row" 11 (8, 5, 1) := by
  simp only [ax_okE]
  exact ⟨mg_t1 59 (by decide +kernel) rfl, mg_t1 32 (by decide +kernel) rfl, rfl, rfl, mg_t1 2 (by decide +kernel) rfl, by decide +kernel, ⟨rfl, mg_t1 33 (by decide +kernel) rfl, by decide, by decide, by decide⟩⟩
theorem pe_Row_14 : ax_okE mg_TB mg_T0 "MailGuard$Row" 14 (1, 2, 1) := by
  simp only [ax_okE]
  exact ⟨by decide, mg_t1 63 (by decide +kernel) rfl⟩
theorem pe_Row_20 : ax_okE mg_TB mg_T0 "MailGuard$Row" 20 (1, 2, 2) := by
  simp only [ax_okE]
  exact ⟨by decide, mg_t1 65 (by decide +kernel) rfl⟩
theorem pe_Row_23 : ax_okE mg_TB mg_T0 "MailGuard$Row" 23 (7, 15, 0) := by
  simp only [ax_okE]
  exact ⟨mg_t2 197 (by decide +kernel) rfl, mg_t1 238 (by decide +kernel) rfl, mg_t1 239 (by decide +kernel) rfl, mg_t1 2 (by decide +kernel) rfl, by decide +kernel, ⟨rfl, mg_t2 0 (by decide +kernel) rfl, by decide, by decide, by decide⟩⟩
theorem pe_Row_27 : ax_okE mg_TB mg_T0 "MailGuard$Row" 27 (7, 37, 3) := by
  simp only [ax_okE]
  exact ⟨mg_t2 198 (by decide +kernel) rfl, mg_t2 91 (by decide +kernel) rfl, mg_t2 92 (by decide +kernel) rfl, mg_t1 2 (by decide +kernel) rfl, by decide +kernel, ⟨rfl, mg_t2 93 (by decide +kernel) rfl, by decide, by decide, by decide⟩⟩
theorem pe_Row_31 : ax_okE mg_TB mg_T0 "MailGuard$Row" 31 (1, 2, 0) := by
  simp only [ax_okE]
  exact ⟨by decide, mg_t1 60 (by decide +kernel) rfl⟩
theorem pe_Row_35 : ax_okE mg_TB mg_T0 "MailGuard$Row" 35 (7, 18, 0) := by
  simp only [ax_okE]
  exact ⟨mg_t2 199 (by decide +kernel) rfl, mg_t2 10 (by decide +kernel) rfl, mg_t2 11 (by decide +kernel) rfl, mg_t1 2 (by decide +kernel) rfl, by decide +kernel, ⟨rfl, mg_t2 12 (by decide +kernel) rfl, by decide, by decide, by decide⟩⟩
theorem pe_Row_38 : ax_okE mg_TB mg_T0 "MailGuard$Row" 38 (7, 44, 3) := by
  simp only [ax_okE]
  exact ⟨mg_t2 200 (by decide +kernel) rfl, mg_t2 201 (by decide +kernel) rfl, mg_t2 202 (by decide +kernel) rfl, mg_t1 2 (by decide +kernel) rfl, by decide +kernel, ⟨rfl, mg_t2 203 (by decide +kernel) rfl, by decide, by decide, by decide⟩⟩
theorem pe_Row_42 : ax_okE mg_TB mg_T0 "MailGuard$Row" 42 (7, 40, 2) := by
  simp only [ax_okE]
  exact ⟨mg_t2 204 (by decide +kernel) rfl, mg_t2 103 (by decide +kernel) rfl, mg_t2 104 (by decide +kernel) rfl, mg_t1 2 (by decide +kernel) rfl, by decide +kernel, ⟨rfl, mg_t2 105 (by decide +kernel) rfl, by decide, by decide, by decide⟩⟩
theorem pe_Row_46 : ax_okE mg_TB mg_T0 "MailGuard$Row" 46 (1, 2, 3) := by
  simp only [ax_okE]
  exact ⟨by decide, mg_t1 68 (by decide +kernel) rfl⟩
theorem pe_Row_48 : ax_okE mg_TB mg_T0 "MailGuard$Row" 48 (7, 54, 3) := by
  simp only [ax_okE]
  exact ⟨mg_t3 23 (by decide +kernel) rfl, mg_t3 14 (by decide +kernel) rfl, mg_t3 15 (by decide +kernel) rfl, mg_t1 2 (by decide +kernel) rfl, by decide +kernel, ⟨rfl, mg_t3 16 (by decide +kernel) rfl, by decide, by decide, by decide⟩⟩
theorem pe_Row (idx : Nat) : ax_okE mg_TB mg_T0 "MailGuard$Row" idx (pl_Row idx) := by
  unfold pl_Row
  split
  · exact pe_Row_3
  · exact pe_Row_9
  · exact pe_Row_11
  · exact pe_Row_14
  · exact pe_Row_20
  · exact pe_Row_23
  · exact pe_Row_27
  · exact pe_Row_31
  · exact pe_Row_35
  · exact pe_Row_38
  · exact pe_Row_42
  · exact pe_Row_46
  · exact pe_Row_48
  · exact trivial
theorem pe_Table_3 : ax_okE mg_TB mg_T0 "MailGuard$Table" 3 (9, 0, 0) := by
  simp only [ax_okE]
  exact ⟨mg_t1 48 (by decide +kernel) rfl, mg_t1 27 (by decide +kernel) rfl, mg_t1 28 (by decide +kernel) rfl⟩
theorem pe_Table_9 : ax_okE mg_TB mg_T0 "MailGuard$Table" 9 (4, 2, 4) := by
  simp only [ax_okE]
  exact ⟨rfl, mg_t1 49 (by decide +kernel) rfl, mg_t1 53 (by decide +kernel) rfl, mg_t1 4 (by decide +kernel) rfl⟩
theorem pe_Table_11 : ax_okE mg_TB mg_T0 "MailGuard$Table" 11 (1, 3, 0) := by
  simp only [ax_okE]
  exact ⟨by decide, mg_t1 79 (by decide +kernel) rfl⟩
theorem pe_Table_17 : ax_okE mg_TB mg_T0 "MailGuard$Table" 17 (4, 1, 2) := by
  simp only [ax_okE]
  exact ⟨rfl, mg_t1 51 (by decide +kernel) rfl, mg_t1 30 (by decide +kernel) rfl, mg_t1 2 (by decide +kernel) rfl⟩
theorem pe_Table_19 : ax_okE mg_TB mg_T0 "MailGuard$Table" 19 (8, 5, 1) := by
  simp only [ax_okE]
  exact ⟨mg_t1 52 (by decide +kernel) rfl, mg_t1 32 (by decide +kernel) rfl, rfl, rfl, mg_t1 2 (by decide +kernel) rfl, by decide +kernel, ⟨rfl, mg_t1 33 (by decide +kernel) rfl, by decide, by decide, by decide⟩⟩
theorem pe_Table_22 : ax_okE mg_TB mg_T0 "MailGuard$Table" 22 (1, 3, 2) := by
  simp only [ax_okE]
  exact ⟨by decide, mg_t1 81 (by decide +kernel) rfl⟩
theorem pe_Table_26 : ax_okE mg_TB mg_T0 "MailGuard$Table" 26 (18, 7, 0) := by
  simp only [ax_okE]
  exact ⟨mg_t1 54 (by decide +kernel) rfl, mg_t1 55 (by decide +kernel) rfl, rfl, rfl, mg_t1 4 (by decide +kernel) rfl, by decide +kernel, ⟨rfl, mg_t1 56 (by decide +kernel) rfl, by decide, by decide, by decide⟩⟩
theorem pe_Table_27 : ax_okE mg_TB mg_T0 "MailGuard$Table" 27 (1, 3, 1) := by
  simp only [ax_okE]
  exact ⟨by decide, mg_t1 80 (by decide +kernel) rfl⟩
theorem pe_Table_31 : ax_okE mg_TB mg_T0 "MailGuard$Table" 31 (7, 18, 0) := by
  simp only [ax_okE]
  exact ⟨mg_t2 238 (by decide +kernel) rfl, mg_t2 10 (by decide +kernel) rfl, mg_t2 11 (by decide +kernel) rfl, mg_t1 2 (by decide +kernel) rfl, by decide +kernel, ⟨rfl, mg_t2 12 (by decide +kernel) rfl, by decide, by decide, by decide⟩⟩
theorem pe_Table_34 : ax_okE mg_TB mg_T0 "MailGuard$Table" 34 (7, 43, 2) := by
  simp only [ax_okE]
  exact ⟨mg_t2 193 (by decide +kernel) rfl, mg_t2 194 (by decide +kernel) rfl, mg_t2 195 (by decide +kernel) rfl, mg_t1 4 (by decide +kernel) rfl, by decide +kernel, ⟨rfl, mg_t2 196 (by decide +kernel) rfl, by decide, by decide, by decide⟩⟩
theorem pe_Table_38 : ax_okE mg_TB mg_T0 "MailGuard$Table" 38 (7, 15, 0) := by
  simp only [ax_okE]
  exact ⟨mg_t3 11 (by decide +kernel) rfl, mg_t1 238 (by decide +kernel) rfl, mg_t1 239 (by decide +kernel) rfl, mg_t1 2 (by decide +kernel) rfl, by decide +kernel, ⟨rfl, mg_t2 0 (by decide +kernel) rfl, by decide, by decide, by decide⟩⟩
theorem pe_Table_42 : ax_okE mg_TB mg_T0 "MailGuard$Table" 42 (7, 44, 3) := by
  simp only [ax_okE]
  exact ⟨mg_t3 12 (by decide +kernel) rfl, mg_t2 201 (by decide +kernel) rfl, mg_t2 202 (by decide +kernel) rfl, mg_t1 2 (by decide +kernel) rfl, by decide +kernel, ⟨rfl, mg_t2 203 (by decide +kernel) rfl, by decide, by decide, by decide⟩⟩
theorem pe_Table_46 : ax_okE mg_TB mg_T0 "MailGuard$Table" 46 (2, 2, 1) := by
  simp only [ax_okE]
  exact ⟨by decide, mg_t1 64 (by decide +kernel) rfl⟩
theorem pe_Table_49 : ax_okE mg_TB mg_T0 "MailGuard$Table" 49 (7, 54, 3) := by
  simp only [ax_okE]
  exact ⟨mg_t3 13 (by decide +kernel) rfl, mg_t3 14 (by decide +kernel) rfl, mg_t3 15 (by decide +kernel) rfl, mg_t1 2 (by decide +kernel) rfl, by decide +kernel, ⟨rfl, mg_t3 16 (by decide +kernel) rfl, by decide, by decide, by decide⟩⟩
theorem pe_Table_53 : ax_okE mg_TB mg_T0 "MailGuard$Table" 53 (2, 2, 0) := by
  simp only [ax_okE]
  exact ⟨by decide, mg_t1 61 (by decide +kernel) rfl⟩
theorem pe_Table_56 : ax_okE mg_TB mg_T0 "MailGuard$Table" 56 (6, 89, 2) := by
  simp only [ax_okE]
  exact ⟨mg_t3 227 (by decide +kernel) rfl, mg_t3 228 (by decide +kernel) rfl, mg_t1 3 (by decide +kernel) rfl, by decide +kernel, ⟨rfl, mg_t3 229 (by decide +kernel) rfl, by decide, by decide, by decide⟩⟩
theorem pe_Table_60 : ax_okE mg_TB mg_T0 "MailGuard$Table" 60 (19, 0, 0) := by
  simp only [ax_okE]
  exact ⟨mg_t3 231 (by decide +kernel) rfl, mg_t3 39 (by decide +kernel) rfl, mg_t1 17 (by decide +kernel) rfl, mg_t3 40 (by decide +kernel) rfl⟩
theorem pe_Table_66 : ax_okE mg_TB mg_T0 "MailGuard$Table" 66 (7, 52, 1) := by
  simp only [ax_okE]
  exact ⟨mg_t3 232 (by decide +kernel) rfl, mg_t3 4 (by decide +kernel) rfl, mg_t3 5 (by decide +kernel) rfl, mg_t1 2 (by decide +kernel) rfl, by decide +kernel, ⟨rfl, mg_t3 6 (by decide +kernel) rfl, by decide, by decide, by decide⟩⟩
theorem pe_Table_70 : ax_okE mg_TB mg_T0 "MailGuard$Table" 70 (7, 90, 1) := by
  simp only [ax_okE]
  exact ⟨mg_t3 233 (by decide +kernel) rfl, mg_t3 234 (by decide +kernel) rfl, mg_t3 235 (by decide +kernel) rfl, mg_t1 2 (by decide +kernel) rfl, by decide +kernel, ⟨rfl, mg_t3 236 (by decide +kernel) rfl, by decide, by decide, by decide⟩⟩
theorem pe_Table_73 : ax_okE mg_TB mg_T0 "MailGuard$Table" 73 (7, 31, 1) := by
  simp only [ax_okE]
  exact ⟨mg_t3 230 (by decide +kernel) rfl, mg_t2 62 (by decide +kernel) rfl, mg_t2 63 (by decide +kernel) rfl, mg_t1 2 (by decide +kernel) rfl, by decide +kernel, ⟨rfl, mg_t2 64 (by decide +kernel) rfl, by decide, by decide, by decide⟩⟩
theorem pe_Table (idx : Nat) : ax_okE mg_TB mg_T0 "MailGuard$Table" idx (pl_Table idx) := by
  unfold pl_Table
  split
  · exact pe_Table_3
  · exact pe_Table_9
  · exact pe_Table_11
  · exact pe_Table_17
  · exact pe_Table_19
  · exact pe_Table_22
  · exact pe_Table_26
  · exact pe_Table_27
  · exact pe_Table_31
  · exact pe_Table_34
  · exact pe_Table_38
  · exact pe_Table_42
  · exact pe_Table_46
  · exact pe_Table_49
  · exact pe_Table_53
  · exact pe_Table_56
  · exact pe_Table_60
  · exact pe_Table_66
  · exact pe_Table_70
  · exact pe_Table_73
  · exact trivial
theorem pe_Term_3 : ax_okE mg_TB mg_T0 "MailGuard$Term" 3 (9, 0, 0) := by
  simp only [ax_okE]
  exact ⟨mg_t1 111 (by decide +kernel) rfl, mg_t1 27 (by decide +kernel) rfl, mg_t1 28 (by decide +kernel) rfl⟩
theorem pe_Term_9 : ax_okE mg_TB mg_T0 "MailGuard$Term" 9 (1, 4, 0) := by
  simp only [ax_okE]
  exact ⟨by decide, mg_t1 112 (by decide +kernel) rfl⟩
theorem pe_Term_15 : ax_okE mg_TB mg_T0 "MailGuard$Term" 15 (1, 4, 2) := by
  simp only [ax_okE]
  exact ⟨by decide, mg_t1 116 (by decide +kernel) rfl⟩
theorem pe_Term_18 : ax_okE mg_TB mg_T0 "MailGuard$Term" 18 (1, 4, 3) := by
  simp only [ax_okE]
  exact ⟨by decide, mg_t1 118 (by decide +kernel) rfl⟩
theorem pe_Term_21 : ax_okE mg_TB mg_T0 "MailGuard$Term" 21 (6, 60, 3) := by
  simp only [ax_okE]
  exact ⟨mg_t3 92 (by decide +kernel) rfl, mg_t3 93 (by decide +kernel) rfl, mg_t1 7 (by decide +kernel) rfl, by decide +kernel, ⟨rfl, mg_t3 94 (by decide +kernel) rfl, by decide, by decide, by decide⟩⟩
theorem pe_Term_25 : ax_okE mg_TB mg_T0 "MailGuard$Term" 25 (7, 62, 4) := by
  simp only [ax_okE]
  exact ⟨mg_t3 100 (by decide +kernel) rfl, mg_t3 102 (by decide +kernel) rfl, mg_p0 3 (by decide +kernel) rfl, mg_t1 7 (by decide +kernel) rfl, by decide +kernel, ⟨rfl, mg_t3 103 (by decide +kernel) rfl, by decide, by decide, by decide⟩⟩
theorem pe_Term_29 : ax_okE mg_TB mg_T0 "MailGuard$Term" 29 (7, 66, 3) := by
  simp only [ax_okE]
  exact ⟨mg_t3 116 (by decide +kernel) rfl, mg_t3 118 (by decide +kernel) rfl, mg_p0 4 (by decide +kernel) rfl, mg_t1 7 (by decide +kernel) rfl, by decide +kernel, ⟨rfl, mg_t3 119 (by decide +kernel) rfl, by decide, by decide, by decide⟩⟩
theorem pe_Term_33 : ax_okE mg_TB mg_T0 "MailGuard$Term" 33 (7, 31, 1) := by
  simp only [ax_okE]
  exact ⟨mg_t3 95 (by decide +kernel) rfl, mg_t2 62 (by decide +kernel) rfl, mg_t2 63 (by decide +kernel) rfl, mg_t1 2 (by decide +kernel) rfl, by decide +kernel, ⟨rfl, mg_t2 64 (by decide +kernel) rfl, by decide, by decide, by decide⟩⟩
theorem pe_Term_39 : ax_okE mg_TB mg_T0 "MailGuard$Term" 39 (6, 61, 1) := by
  simp only [ax_okE]
  exact ⟨mg_t3 96 (by decide +kernel) rfl, mg_t3 97 (by decide +kernel) rfl, mg_t1 2 (by decide +kernel) rfl, by decide +kernel, ⟨rfl, mg_t3 98 (by decide +kernel) rfl, by decide, by decide, by decide⟩⟩
theorem pe_Term_43 : ax_okE mg_TB mg_T0 "MailGuard$Term" 43 (6, 39, 1) := by
  simp only [ax_okE]
  exact ⟨mg_t3 99 (by decide +kernel) rfl, mg_t2 100 (by decide +kernel) rfl, mg_t1 2 (by decide +kernel) rfl, by decide +kernel, ⟨rfl, mg_t2 101 (by decide +kernel) rfl, by decide, by decide, by decide⟩⟩
theorem pe_Term_46 : ax_okE mg_TB mg_T0 "MailGuard$Term" 46 (13, 1, 0) := by
  simp only [ax_okE]
  exact ⟨_, rfl, rfl, rfl⟩
theorem pe_Term_48 : ax_okE mg_TB mg_T0 "MailGuard$Term" 48 (7, 57, 3) := by
  simp only [ax_okE]
  exact ⟨mg_t3 105 (by decide +kernel) rfl, mg_t3 42 (by decide +kernel) rfl, mg_t3 43 (by decide +kernel) rfl, mg_t1 2 (by decide +kernel) rfl, by decide +kernel, ⟨rfl, mg_t3 44 (by decide +kernel) rfl, by decide, by decide, by decide⟩⟩
theorem pe_Term_52 : ax_okE mg_TB mg_T0 "MailGuard$Term" 52 (7, 63, 0) := by
  simp only [ax_okE]
  exact ⟨mg_t3 106 (by decide +kernel) rfl, mg_t3 107 (by decide +kernel) rfl, mg_t3 108 (by decide +kernel) rfl, mg_t1 7 (by decide +kernel) rfl, by decide +kernel, ⟨rfl, mg_t3 109 (by decide +kernel) rfl, by decide, by decide, by decide⟩⟩
theorem pe_Term_56 : ax_okE mg_TB mg_T0 "MailGuard$Term" 56 (6, 64, 3) := by
  simp only [ax_okE]
  exact ⟨mg_t3 110 (by decide +kernel) rfl, mg_t3 111 (by decide +kernel) rfl, mg_t1 7 (by decide +kernel) rfl, by decide +kernel, ⟨rfl, mg_t3 112 (by decide +kernel) rfl, by decide, by decide, by decide⟩⟩
theorem pe_Term_59 : ax_okE mg_TB mg_T0 "MailGuard$Term" 59 (7, 67, 1) := by
  simp only [ax_okE]
  exact ⟨mg_t3 120 (by decide +kernel) rfl, mg_t3 122 (by decide +kernel) rfl, mg_p0 5 (by decide +kernel) rfl, mg_t1 7 (by decide +kernel) rfl, by decide +kernel, ⟨rfl, mg_t3 123 (by decide +kernel) rfl, by decide, by decide, by decide⟩⟩
theorem pe_Term_62 : ax_okE mg_TB mg_T0 "MailGuard$Term" 62 (7, 37, 3) := by
  simp only [ax_okE]
  exact ⟨mg_t3 124 (by decide +kernel) rfl, mg_t2 91 (by decide +kernel) rfl, mg_t2 92 (by decide +kernel) rfl, mg_t1 2 (by decide +kernel) rfl, by decide +kernel, ⟨rfl, mg_t2 93 (by decide +kernel) rfl, by decide, by decide, by decide⟩⟩
theorem pe_Term_66 : ax_okE mg_TB mg_T0 "MailGuard$Term" 66 (6, 68, 3) := by
  simp only [ax_okE]
  exact ⟨mg_t3 125 (by decide +kernel) rfl, mg_t3 126 (by decide +kernel) rfl, mg_t1 7 (by decide +kernel) rfl, by decide +kernel, ⟨rfl, mg_t3 127 (by decide +kernel) rfl, by decide, by decide, by decide⟩⟩
theorem pe_Term_69 : ax_okE mg_TB mg_T0 "MailGuard$Term" 69 (7, 41, 3) := by
  simp only [ax_okE]
  exact ⟨mg_t3 134 (by decide +kernel) rfl, mg_t2 107 (by decide +kernel) rfl, mg_t2 108 (by decide +kernel) rfl, mg_t1 2 (by decide +kernel) rfl, by decide +kernel, ⟨rfl, mg_t2 109 (by decide +kernel) rfl, by decide, by decide, by decide⟩⟩
theorem pe_Term_73 : ax_okE mg_TB mg_T0 "MailGuard$Term" 73 (1, 4, 4) := by
  simp only [ax_okE]
  exact ⟨by decide, mg_t1 120 (by decide +kernel) rfl⟩
theorem pe_Term_76 : ax_okE mg_TB mg_T0 "MailGuard$Term" 76 (7, 40, 2) := by
  simp only [ax_okE]
  exact ⟨mg_t3 135 (by decide +kernel) rfl, mg_t2 103 (by decide +kernel) rfl, mg_t2 104 (by decide +kernel) rfl, mg_t1 2 (by decide +kernel) rfl, by decide +kernel, ⟨rfl, mg_t2 105 (by decide +kernel) rfl, by decide, by decide, by decide⟩⟩
theorem pe_Term_80 : ax_okE mg_TB mg_T0 "MailGuard$Term" 80 (7, 69, 1) := by
  simp only [ax_okE]
  exact ⟨mg_t3 136 (by decide +kernel) rfl, mg_t3 138 (by decide +kernel) rfl, mg_p0 6 (by decide +kernel) rfl, mg_t1 7 (by decide +kernel) rfl, by decide +kernel, ⟨rfl, mg_t3 139 (by decide +kernel) rfl, by decide, by decide, by decide⟩⟩
theorem pe_Term_84 : ax_okE mg_TB mg_T0 "MailGuard$Term" 84 (1, 4, 5) := by
  simp only [ax_okE]
  exact ⟨by decide, mg_t1 122 (by decide +kernel) rfl⟩
theorem pe_Term_86 : ax_okE mg_TB mg_T0 "MailGuard$Term" 86 (11, 18446744073709551615, 0) := by
  simp only [ax_okE]
  exact mg_t3 140 (by decide +kernel) rfl
theorem pe_Term_88 : ax_okE mg_TB mg_T0 "MailGuard$Term" 88 (1, 4, 1) := by
  simp only [ax_okE]
  exact ⟨by decide, mg_t1 114 (by decide +kernel) rfl⟩
theorem pe_Term_91 : ax_okE mg_TB mg_T0 "MailGuard$Term" 91 (13, 2, 0) := by
  simp only [ax_okE]
  exact ⟨_, rfl, rfl, rfl⟩
theorem pe_Term_93 : ax_okE mg_TB mg_T0 "MailGuard$Term" 93 (13, 3, 0) := by
  simp only [ax_okE]
  exact ⟨_, rfl, rfl, rfl⟩
theorem pe_Term_95 : ax_okE mg_TB mg_T0 "MailGuard$Term" 95 (13, 4, 0) := by
  simp only [ax_okE]
  exact ⟨_, rfl, rfl, rfl⟩
theorem pe_Term_97 : ax_okE mg_TB mg_T0 "MailGuard$Term" 97 (13, 5, 0) := by
  simp only [ax_okE]
  exact ⟨_, rfl, rfl, rfl⟩
theorem pe_Term_99 : ax_okE mg_TB mg_T0 "MailGuard$Term" 99 (13, 6, 0) := by
  simp only [ax_okE]
  exact ⟨_, rfl, rfl, rfl⟩
theorem pe_Term_101 : ax_okE mg_TB mg_T0 "MailGuard$Term" 101 (13, 7, 0) := by
  simp only [ax_okE]
  exact ⟨_, rfl, rfl, rfl⟩
theorem pe_Term_103 : ax_okE mg_TB mg_T0 "MailGuard$Term" 103 (6, 65, 3) := by
  simp only [ax_okE]
  exact ⟨mg_t3 113 (by decide +kernel) rfl, mg_t3 114 (by decide +kernel) rfl, mg_t1 7 (by decide +kernel) rfl, by decide +kernel, ⟨rfl, mg_t3 115 (by decide +kernel) rfl, by decide, by decide, by decide⟩⟩
theorem pe_Term (idx : Nat) : ax_okE mg_TB mg_T0 "MailGuard$Term" idx (pl_Term idx) := by
  unfold pl_Term
  split
  · exact pe_Term_3
  · exact pe_Term_9
  · exact pe_Term_15
  · exact pe_Term_18
  · exact pe_Term_21
  · exact pe_Term_25
  · exact pe_Term_29
  · exact pe_Term_33
  · exact pe_Term_39
  · exact pe_Term_43
  · exact pe_Term_46
  · exact pe_Term_48
  · exact pe_Term_52
  · exact pe_Term_56
  · exact pe_Term_59
  · exact pe_Term_62
  · exact pe_Term_66
  · exact pe_Term_69
  · exact pe_Term_73
  · exact pe_Term_76
  · exact pe_Term_80
  · exact pe_Term_84
  · exact pe_Term_86
  · exact pe_Term_88
  · exact pe_Term_91
  · exact pe_Term_93
  · exact pe_Term_95
  · exact pe_Term_97
  · exact pe_Term_99
  · exact pe_Term_101
  · exact pe_Term_103
  · exact trivial
theorem pe_Level_3 : ax_okE mg_TB mg_T0 "MailGuard$Level" 3 (9, 0, 0) := by
  simp only [ax_okE]
  exact ⟨mg_t1 103 (by decide +kernel) rfl, mg_t1 27 (by decide +kernel) rfl, mg_t1 28 (by decide +kernel) rfl⟩
theorem pe_Level_9 : ax_okE mg_TB mg_T0 "MailGuard$Level" 9 (4, 1, 2) := by
  simp only [ax_okE]
  exact ⟨rfl, mg_t1 104 (by decide +kernel) rfl, mg_t1 30 (by decide +kernel) rfl, mg_t1 2 (by decide +kernel) rfl⟩
theorem pe_Level_11 : ax_okE mg_TB mg_T0 "MailGuard$Level" 11 (8, 5, 1) := by
  simp only [ax_okE]
  exact ⟨mg_t1 105 (by decide +kernel) rfl, mg_t1 32 (by decide +kernel) rfl, rfl, rfl, mg_t1 2 (by decide +kernel) rfl, by decide +kernel, ⟨rfl, mg_t1 33 (by decide +kernel) rfl, by decide, by decide, by decide⟩⟩
theorem pe_Level_14 : ax_okE mg_TB mg_T0 "MailGuard$Level" 14 (1, 5, 0) := by
  simp only [ax_okE]
  exact ⟨by decide, mg_t1 137 (by decide +kernel) rfl⟩
theorem pe_Level_20 : ax_okE mg_TB mg_T0 "MailGuard$Level" 20 (4, 4, 6) := by
  simp only [ax_okE]
  exact ⟨rfl, mg_t1 106 (by decide +kernel) rfl, mg_t1 107 (by decide +kernel) rfl, mg_t1 7 (by decide +kernel) rfl⟩
theorem pe_Level_22 : ax_okE mg_TB mg_T0 "MailGuard$Level" 22 (18, 10, 0) := by
  simp only [ax_okE]
  exact ⟨mg_t1 108 (by decide +kernel) rfl, mg_t1 109 (by decide +kernel) rfl, rfl, rfl, mg_t1 7 (by decide +kernel) rfl, by decide +kernel, ⟨rfl, mg_t1 110 (by decide +kernel) rfl, by decide, by decide, by decide⟩⟩
theorem pe_Level_23 : ax_okE mg_TB mg_T0 "MailGuard$Level" 23 (1, 5, 1) := by
  simp only [ax_okE]
  exact ⟨by decide, mg_t1 139 (by decide +kernel) rfl⟩
theorem pe_Level (idx : Nat) : ax_okE mg_TB mg_T0 "MailGuard$Level" idx (pl_Level idx) := by
  unfold pl_Level
  split
  · exact pe_Level_3
  · exact pe_Level_9
  · exact pe_Level_11
  · exact pe_Level_14
  · exact pe_Level_20
  · exact pe_Level_22
  · exact pe_Level_23
  · exact trivial
theorem pe_Checker_3 : ax_okE mg_TB mg_T0 "MailGuard$Checker" 3 (9, 0, 0) := by
  simp only [ax_okE]
  exact ⟨mg_t1 94 (by decide +kernel) rfl, mg_t1 27 (by decide +kernel) rfl, mg_t1 28 (by decide +kernel) rfl⟩
theorem pe_Checker_11 : ax_okE mg_TB mg_T0 "MailGuard$Checker" 11 (4, 5, 2) := by
  simp only [ax_okE]
  exact ⟨rfl, mg_t1 95 (by decide +kernel) rfl, mg_t1 99 (by decide +kernel) rfl, mg_t1 6 (by decide +kernel) rfl⟩
theorem pe_Checker_13 : ax_okE mg_TB mg_T0 "MailGuard$Checker" 13 (1, 6, 1) := by
  simp only [ax_okE]
  exact ⟨by decide, mg_t1 147 (by decide +kernel) rfl⟩
theorem pe_Checker_17 : ax_okE mg_TB mg_T0 "MailGuard$Checker" 17 (4, 1, 2) := by
  simp only [ax_okE]
  exact ⟨rfl, mg_t1 97 (by decide +kernel) rfl, mg_t1 30 (by decide +kernel) rfl, mg_t1 2 (by decide +kernel) rfl⟩
theorem pe_Checker_19 : ax_okE mg_TB mg_T0 "MailGuard$Checker" 19 (8, 5, 1) := by
  simp only [ax_okE]
  exact ⟨mg_t1 98 (by decide +kernel) rfl, mg_t1 32 (by decide +kernel) rfl, rfl, rfl, mg_t1 2 (by decide +kernel) rfl, by decide +kernel, ⟨rfl, mg_t1 33 (by decide +kernel) rfl, by decide, by decide, by decide⟩⟩
theorem pe_Checker_22 : ax_okE mg_TB mg_T0 "MailGuard$Checker" 22 (1, 6, 2) := by
  simp only [ax_okE]
  exact ⟨by decide, mg_t1 148 (by decide +kernel) rfl⟩
theorem pe_Checker_26 : ax_okE mg_TB mg_T0 "MailGuard$Checker" 26 (1, 6, 3) := by
  simp only [ax_okE]
  exact ⟨by decide, mg_t1 149 (by decide +kernel) rfl⟩
theorem pe_Checker_29 : ax_okE mg_TB mg_T0 "MailGuard$Checker" 29 (1, 6, 5) := by
  simp only [ax_okE]
  exact ⟨by decide, mg_t1 151 (by decide +kernel) rfl⟩
theorem pe_Checker_33 : ax_okE mg_TB mg_T0 "MailGuard$Checker" 33 (1, 6, 0) := by
  simp only [ax_okE]
  exact ⟨by decide, mg_t1 146 (by decide +kernel) rfl⟩
theorem pe_Checker_37 : ax_okE mg_TB mg_T0 "MailGuard$Checker" 37 (18, 9, 0) := by
  simp only [ax_okE]
  exact ⟨mg_t1 100 (by decide +kernel) rfl, mg_t1 101 (by decide +kernel) rfl, rfl, rfl, mg_t1 6 (by decide +kernel) rfl, by decide +kernel, ⟨rfl, mg_t1 102 (by decide +kernel) rfl, by decide, by decide, by decide⟩⟩
theorem pe_Checker_38 : ax_okE mg_TB mg_T0 "MailGuard$Checker" 38 (1, 6, 6) := by
  simp only [ax_okE]
  exact ⟨by decide, mg_t1 152 (by decide +kernel) rfl⟩
theorem pe_Checker_41 : ax_okE mg_TB mg_T0 "MailGuard$Checker" 41 (1, 6, 7) := by
  simp only [ax_okE]
  exact ⟨by decide, mg_t1 153 (by decide +kernel) rfl⟩
theorem pe_Checker_44 : ax_okE mg_TB mg_T0 "MailGuard$Checker" 44 (1, 6, 8) := by
  simp only [ax_okE]
  exact ⟨by decide, mg_t1 154 (by decide +kernel) rfl⟩
theorem pe_Checker_47 : ax_okE mg_TB mg_T0 "MailGuard$Checker" 47 (1, 6, 9) := by
  simp only [ax_okE]
  exact ⟨by decide, mg_t1 155 (by decide +kernel) rfl⟩
theorem pe_Checker_50 : ax_okE mg_TB mg_T0 "MailGuard$Checker" 50 (2, 5, 0) := by
  simp only [ax_okE]
  exact ⟨by decide, mg_t1 138 (by decide +kernel) rfl⟩
theorem pe_Checker_53 : ax_okE mg_TB mg_T0 "MailGuard$Checker" 53 (1, 6, 4) := by
  simp only [ax_okE]
  exact ⟨by decide, mg_t1 150 (by decide +kernel) rfl⟩
theorem pe_Checker_56 : ax_okE mg_TB mg_T0 "MailGuard$Checker" 56 (7, 18, 0) := by
  simp only [ax_okE]
  exact ⟨mg_t2 221 (by decide +kernel) rfl, mg_t2 10 (by decide +kernel) rfl, mg_t2 11 (by decide +kernel) rfl, mg_t1 2 (by decide +kernel) rfl, by decide +kernel, ⟨rfl, mg_t2 12 (by decide +kernel) rfl, by decide, by decide, by decide⟩⟩
theorem pe_Checker_59 : ax_okE mg_TB mg_T0 "MailGuard$Checker" 59 (7, 48, 1) := by
  simp only [ax_okE]
  exact ⟨mg_t2 222 (by decide +kernel) rfl, mg_t2 223 (by decide +kernel) rfl, mg_t2 224 (by decide +kernel) rfl, mg_t1 2 (by decide +kernel) rfl, by decide +kernel, ⟨rfl, mg_t2 225 (by decide +kernel) rfl, by decide, by decide, by decide⟩⟩
theorem pe_Checker_62 : ax_okE mg_TB mg_T0 "MailGuard$Checker" 62 (7, 16, 1) := by
  simp only [ax_okE]
  exact ⟨mg_t2 227 (by decide +kernel) rfl, mg_t2 2 (by decide +kernel) rfl, mg_t2 3 (by decide +kernel) rfl, mg_t1 2 (by decide +kernel) rfl, by decide +kernel, ⟨rfl, mg_t2 4 (by decide +kernel) rfl, by decide, by decide, by decide⟩⟩
theorem pe_Checker_66 : ax_okE mg_TB mg_T0 "MailGuard$Checker" 66 (7, 49, 0) := by
  simp only [ax_okE]
  exact ⟨mg_t2 228 (by decide +kernel) rfl, mg_t2 229 (by decide +kernel) rfl, mg_t2 230 (by decide +kernel) rfl, mg_t1 5 (by decide +kernel) rfl, by decide +kernel, ⟨rfl, mg_t2 231 (by decide +kernel) rfl, by decide, by decide, by decide⟩⟩
theorem pe_Checker_70 : ax_okE mg_TB mg_T0 "MailGuard$Checker" 70 (7, 15, 0) := by
  simp only [ax_okE]
  exact ⟨mg_t2 232 (by decide +kernel) rfl, mg_t1 238 (by decide +kernel) rfl, mg_t1 239 (by decide +kernel) rfl, mg_t1 2 (by decide +kernel) rfl, by decide +kernel, ⟨rfl, mg_t2 0 (by decide +kernel) rfl, by decide, by decide, by decide⟩⟩
theorem pe_Checker_74 : ax_okE mg_TB mg_T0 "MailGuard$Checker" 74 (7, 44, 3) := by
  simp only [ax_okE]
  exact ⟨mg_t2 233 (by decide +kernel) rfl, mg_t2 201 (by decide +kernel) rfl, mg_t2 202 (by decide +kernel) rfl, mg_t1 2 (by decide +kernel) rfl, by decide +kernel, ⟨rfl, mg_t2 203 (by decide +kernel) rfl, by decide, by decide, by decide⟩⟩
theorem pe_Checker_78 : ax_okE mg_TB mg_T0 "MailGuard$Checker" 78 (7, 50, 0) := by
  simp only [ax_okE]
  exact ⟨mg_t2 234 (by decide +kernel) rfl, mg_t2 235 (by decide +kernel) rfl, mg_t2 236 (by decide +kernel) rfl, mg_t1 3 (by decide +kernel) rfl, by decide +kernel, ⟨rfl, mg_t2 237 (by decide +kernel) rfl, by decide, by decide, by decide⟩⟩
theorem pe_Checker_83 : ax_okE mg_TB mg_T0 "MailGuard$Checker" 83 (7, 52, 1) := by
  simp only [ax_okE]
  exact ⟨mg_t3 3 (by decide +kernel) rfl, mg_t3 4 (by decide +kernel) rfl, mg_t3 5 (by decide +kernel) rfl, mg_t1 2 (by decide +kernel) rfl, by decide +kernel, ⟨rfl, mg_t3 6 (by decide +kernel) rfl, by decide, by decide, by decide⟩⟩
theorem pe_Checker_87 : ax_okE mg_TB mg_T0 "MailGuard$Checker" 87 (7, 53, 2) := by
  simp only [ax_okE]
  exact ⟨mg_t3 7 (by decide +kernel) rfl, mg_t3 8 (by decide +kernel) rfl, mg_t3 9 (by decide +kernel) rfl, mg_t1 3 (by decide +kernel) rfl, by decide +kernel, ⟨rfl, mg_t3 10 (by decide +kernel) rfl, by decide, by decide, by decide⟩⟩
theorem pe_Checker_91 : ax_okE mg_TB mg_T0 "MailGuard$Checker" 91 (7, 33, 0) := by
  simp only [ax_okE]
  exact ⟨mg_t3 17 (by decide +kernel) rfl, mg_t2 70 (by decide +kernel) rfl, mg_t2 71 (by decide +kernel) rfl, mg_t1 3 (by decide +kernel) rfl, by decide +kernel, ⟨rfl, mg_t2 72 (by decide +kernel) rfl, by decide, by decide, by decide⟩⟩
theorem pe_Checker_94 : ax_okE mg_TB mg_T0 "MailGuard$Checker" 94 (7, 34, 1) := by
  simp only [ax_okE]
  exact ⟨mg_t3 18 (by decide +kernel) rfl, mg_t2 74 (by decide +kernel) rfl, mg_t2 75 (by decide +kernel) rfl, mg_t1 3 (by decide +kernel) rfl, by decide +kernel, ⟨rfl, mg_t2 76 (by decide +kernel) rfl, by decide, by decide, by decide⟩⟩
theorem pe_Checker_98 : ax_okE mg_TB mg_T0 "MailGuard$Checker" 98 (7, 55, 2) := by
  simp only [ax_okE]
  exact ⟨mg_t3 19 (by decide +kernel) rfl, mg_t3 20 (by decide +kernel) rfl, mg_t3 21 (by decide +kernel) rfl, mg_t1 4 (by decide +kernel) rfl, by decide +kernel, ⟨rfl, mg_t3 22 (by decide +kernel) rfl, by decide, by decide, by decide⟩⟩
theorem pe_Checker_104 : ax_okE mg_TB mg_T0 "MailGuard$Checker" 104 (2, 2, 2) := by
  simp only [ax_okE]
  exact ⟨by decide, mg_t1 67 (by decide +kernel) rfl⟩
theorem pe_Checker_107 : ax_okE mg_TB mg_T0 "MailGuard$Checker" 107 (6, 56, 1) := by
  simp only [ax_okE]
  exact ⟨mg_t3 24 (by decide +kernel) rfl, mg_t3 25 (by decide +kernel) rfl, mg_t1 5 (by decide +kernel) rfl, by decide +kernel, ⟨rfl, mg_t3 26 (by decide +kernel) rfl, by decide, by decide, by decide⟩⟩
theorem pe_Checker_111 : ax_okE mg_TB mg_T0 "MailGuard$Checker" 111 (2, 5, 1) := by
  simp only [ax_okE]
  exact ⟨by decide, mg_t1 140 (by decide +kernel) rfl⟩
theorem pe_Checker_115 : ax_okE mg_TB mg_T0 "MailGuard$Checker" 115 (6, 58, 2) := by
  simp only [ax_okE]
  exact ⟨mg_t3 85 (by decide +kernel) rfl, mg_t3 86 (by decide +kernel) rfl, mg_t1 5 (by decide +kernel) rfl, by decide +kernel, ⟨rfl, mg_t3 87 (by decide +kernel) rfl, by decide, by decide, by decide⟩⟩
theorem pe_Checker_119 : ax_okE mg_TB mg_T0 "MailGuard$Checker" 119 (7, 70, 2) := by
  simp only [ax_okE]
  exact ⟨mg_t3 141 (by decide +kernel) rfl, mg_t3 143 (by decide +kernel) rfl, mg_p0 7 (by decide +kernel) rfl, mg_t1 5 (by decide +kernel) rfl, by decide +kernel, ⟨rfl, mg_t3 144 (by decide +kernel) rfl, by decide, by decide, by decide⟩⟩
theorem pe_Checker_122 : ax_okE mg_TB mg_T0 "MailGuard$Checker" 122 (13, 0, 0) := by
  simp only [ax_okE]
  exact ⟨_, rfl, rfl, rfl⟩
theorem pe_Checker_124 : ax_okE mg_TB mg_T0 "MailGuard$Checker" 124 (14, 0, 0) := by
  simp only [ax_okE]
  exact ⟨mg_t3 28 (by decide +kernel) rfl, mg_t3 29 (by decide +kernel) rfl, mg_t3 30 (by decide +kernel) rfl, mg_swl⟩
theorem pe_Checker_129 : ax_okE mg_TB mg_T0 "MailGuard$Checker" 129 (19, 0, 0) := by
  simp only [ax_okE]
  exact ⟨mg_t3 38 (by decide +kernel) rfl, mg_t3 39 (by decide +kernel) rfl, mg_t1 17 (by decide +kernel) rfl, mg_t3 40 (by decide +kernel) rfl⟩
theorem pe_Checker_135 : ax_okE mg_TB mg_T0 "MailGuard$Checker" 135 (7, 57, 3) := by
  simp only [ax_okE]
  exact ⟨mg_t3 41 (by decide +kernel) rfl, mg_t3 42 (by decide +kernel) rfl, mg_t3 43 (by decide +kernel) rfl, mg_t1 2 (by decide +kernel) rfl, by decide +kernel, ⟨rfl, mg_t3 44 (by decide +kernel) rfl, by decide, by decide, by decide⟩⟩
theorem pe_Checker_139 : ax_okE mg_TB mg_T0 "MailGuard$Checker" 139 (7, 31, 1) := by
  simp only [ax_okE]
  exact ⟨mg_t3 84 (by decide +kernel) rfl, mg_t2 62 (by decide +kernel) rfl, mg_t2 63 (by decide +kernel) rfl, mg_t1 2 (by decide +kernel) rfl, by decide +kernel, ⟨rfl, mg_t2 64 (by decide +kernel) rfl, by decide, by decide, by decide⟩⟩
theorem pe_Checker_142 : ax_okE mg_TB mg_T0 "MailGuard$Checker" 142 (7, 59, 3) := by
  simp only [ax_okE]
  exact ⟨mg_t3 88 (by decide +kernel) rfl, mg_t3 89 (by decide +kernel) rfl, mg_t3 90 (by decide +kernel) rfl, mg_t1 7 (by decide +kernel) rfl, by decide +kernel, ⟨rfl, mg_t3 91 (by decide +kernel) rfl, by decide, by decide, by decide⟩⟩
theorem pe_Checker_148 : ax_okE mg_TB mg_T0 "MailGuard$Checker" 148 (2, 4, 0) := by
  simp only [ax_okE]
  exact ⟨by decide, mg_t1 113 (by decide +kernel) rfl⟩
theorem pe_Checker_151 : ax_okE mg_TB mg_T0 "MailGuard$Checker" 151 (7, 71, 0) := by
  simp only [ax_okE]
  exact ⟨mg_t3 145 (by decide +kernel) rfl, mg_t3 146 (by decide +kernel) rfl, mg_t3 147 (by decide +kernel) rfl, mg_t1 7 (by decide +kernel) rfl, by decide +kernel, ⟨rfl, mg_t3 148 (by decide +kernel) rfl, by decide, by decide, by decide⟩⟩
theorem pe_Checker_155 : ax_okE mg_TB mg_T0 "MailGuard$Checker" 155 (7, 72, 3) := by
  simp only [ax_okE]
  exact ⟨mg_t3 149 (by decide +kernel) rfl, mg_t3 151 (by decide +kernel) rfl, mg_p0 8 (by decide +kernel) rfl, mg_t1 5 (by decide +kernel) rfl, by decide +kernel, ⟨rfl, mg_t3 152 (by decide +kernel) rfl, by decide, by decide, by decide⟩⟩
theorem pe_Checker_159 : ax_okE mg_TB mg_T0 "MailGuard$Checker" 159 (2, 4, 1) := by
  simp only [ax_okE]
  exact ⟨by decide, mg_t1 115 (by decide +kernel) rfl⟩
theorem pe_Checker_160 : ax_okE mg_TB mg_T0 "MailGuard$Checker" 160 (2, 4, 2) := by
  simp only [ax_okE]
  exact ⟨by decide, mg_t1 117 (by decide +kernel) rfl⟩
theorem pe_Checker_163 : ax_okE mg_TB mg_T0 "MailGuard$Checker" 163 (2, 4, 3) := by
  simp only [ax_okE]
  exact ⟨by decide, mg_t1 119 (by decide +kernel) rfl⟩
theorem pe_Checker_166 : ax_okE mg_TB mg_T0 "MailGuard$Checker" 166 (7, 84, 4) := by
  simp only [ax_okE]
  exact ⟨mg_t3 203 (by decide +kernel) rfl, mg_t3 205 (by decide +kernel) rfl, mg_p1 0 (by decide +kernel) rfl, mg_t1 5 (by decide +kernel) rfl, by decide +kernel, ⟨rfl, mg_t3 206 (by decide +kernel) rfl, by decide, by decide, by decide⟩⟩
theorem pe_Checker_170 : ax_okE mg_TB mg_T0 "MailGuard$Checker" 170 (7, 74, 0) := by
  simp only [ax_okE]
  exact ⟨mg_t3 156 (by decide +kernel) rfl, mg_t3 158 (by decide +kernel) rfl, mg_p0 9 (by decide +kernel) rfl, mg_t1 5 (by decide +kernel) rfl, by decide +kernel, ⟨rfl, mg_t3 159 (by decide +kernel) rfl, by decide, by decide, by decide⟩⟩
theorem pe_Checker_173 : ax_okE mg_TB mg_T0 "MailGuard$Checker" 173 (7, 75, 4) := by
  simp only [ax_okE]
  exact ⟨mg_t3 161 (by decide +kernel) rfl, mg_t3 163 (by decide +kernel) rfl, mg_p0 10 (by decide +kernel) rfl, mg_t1 5 (by decide +kernel) rfl, by decide +kernel, ⟨rfl, mg_t3 164 (by decide +kernel) rfl, by decide, by decide, by decide⟩⟩
theorem pe_Checker_177 : ax_okE mg_TB mg_T0 "MailGuard$Checker" 177 (7, 79, 1) := by
  simp only [ax_okE]
  exact ⟨mg_t3 182 (by decide +kernel) rfl, mg_t3 184 (by decide +kernel) rfl, mg_p0 12 (by decide +kernel) rfl, mg_t1 5 (by decide +kernel) rfl, by decide +kernel, ⟨rfl, mg_t3 185 (by decide +kernel) rfl, by decide, by decide, by decide⟩⟩
theorem pe_Checker_180 : ax_okE mg_TB mg_T0 "MailGuard$Checker" 180 (2, 4, 5) := by
  simp only [ax_okE]
  exact ⟨by decide, mg_t1 123 (by decide +kernel) rfl⟩
theorem pe_Checker_181 : ax_okE mg_TB mg_T0 "MailGuard$Checker" 181 (2, 4, 4) := by
  simp only [ax_okE]
  exact ⟨by decide, mg_t1 121 (by decide +kernel) rfl⟩
theorem pe_Checker_184 : ax_okE mg_TB mg_T0 "MailGuard$Checker" 184 (6, 73, 3) := by
  simp only [ax_okE]
  exact ⟨mg_t3 153 (by decide +kernel) rfl, mg_t3 154 (by decide +kernel) rfl, mg_t1 5 (by decide +kernel) rfl, by decide +kernel, ⟨rfl, mg_t3 155 (by decide +kernel) rfl, by decide, by decide, by decide⟩⟩
theorem pe_Checker_188 : ax_okE mg_TB mg_T0 "MailGuard$Checker" 188 (7, 63, 0) := by
  simp only [ax_okE]
  exact ⟨mg_t3 160 (by decide +kernel) rfl, mg_t3 107 (by decide +kernel) rfl, mg_t3 108 (by decide +kernel) rfl, mg_t1 7 (by decide +kernel) rfl, by decide +kernel, ⟨rfl, mg_t3 109 (by decide +kernel) rfl, by decide, by decide, by decide⟩⟩
theorem pe_Checker_191 : ax_okE mg_TB mg_T0 "MailGuard$Checker" 191 (6, 80, 1) := by
  simp only [ax_okE]
  exact ⟨mg_t3 188 (by decide +kernel) rfl, mg_t3 189 (by decide +kernel) rfl, mg_t1 5 (by decide +kernel) rfl, by decide +kernel, ⟨rfl, mg_t3 190 (by decide +kernel) rfl, by decide, by decide, by decide⟩⟩
theorem pe_Checker_194 : ax_okE mg_TB mg_T0 "MailGuard$Checker" 194 (7, 46, 0) := by
  simp only [ax_okE]
  exact ⟨mg_t3 186 (by decide +kernel) rfl, mg_t2 213 (by decide +kernel) rfl, mg_t2 214 (by decide +kernel) rfl, mg_t1 2 (by decide +kernel) rfl, by decide +kernel, ⟨rfl, mg_t2 215 (by decide +kernel) rfl, by decide, by decide, by decide⟩⟩
theorem pe_Checker_197 : ax_okE mg_TB mg_T0 "MailGuard$Checker" 197 (7, 81, 2) := by
  simp only [ax_okE]
  exact ⟨mg_t3 191 (by decide +kernel) rfl, mg_t3 193 (by decide +kernel) rfl, mg_p0 13 (by decide +kernel) rfl, mg_t1 5 (by decide +kernel) rfl, by decide +kernel, ⟨rfl, mg_t3 194 (by decide +kernel) rfl, by decide, by decide, by decide⟩⟩
theorem pe_Checker_200 : ax_okE mg_TB mg_T0 "MailGuard$Checker" 200 (7, 83, 2) := by
  simp only [ax_okE]
  exact ⟨mg_t3 199 (by decide +kernel) rfl, mg_t3 201 (by decide +kernel) rfl, mg_p0 15 (by decide +kernel) rfl, mg_t1 5 (by decide +kernel) rfl, by decide +kernel, ⟨rfl, mg_t3 202 (by decide +kernel) rfl, by decide, by decide, by decide⟩⟩
theorem pe_Checker_203 : ax_okE mg_TB mg_T0 "MailGuard$Checker" 203 (7, 82, 1) := by
  simp only [ax_okE]
  exact ⟨mg_t3 195 (by decide +kernel) rfl, mg_t3 197 (by decide +kernel) rfl, mg_p0 14 (by decide +kernel) rfl, mg_t1 5 (by decide +kernel) rfl, by decide +kernel, ⟨rfl, mg_t3 198 (by decide +kernel) rfl, by decide, by decide, by decide⟩⟩
theorem pe_Checker_206 : ax_okE mg_TB mg_T0 "MailGuard$Checker" 206 (7, 51, 1) := by
  simp only [ax_okE]
  exact ⟨mg_t3 187 (by decide +kernel) rfl, mg_t3 1 (by decide +kernel) rfl, mg_p0 2 (by decide +kernel) rfl, mg_t1 5 (by decide +kernel) rfl, by decide +kernel, ⟨rfl, mg_t3 2 (by decide +kernel) rfl, by decide, by decide, by decide⟩⟩
theorem pe_Checker_209 : ax_okE mg_TB mg_T0 "MailGuard$Checker" 209 (2, 2, 3) := by
  simp only [ax_okE]
  exact ⟨by decide, mg_t1 69 (by decide +kernel) rfl⟩
theorem pe_Checker_210 : ax_okE mg_TB mg_T0 "MailGuard$Checker" 210 (6, 65, 3) := by
  simp only [ax_okE]
  exact ⟨mg_t3 165 (by decide +kernel) rfl, mg_t3 114 (by decide +kernel) rfl, mg_t1 7 (by decide +kernel) rfl, by decide +kernel, ⟨rfl, mg_t3 115 (by decide +kernel) rfl, by decide, by decide, by decide⟩⟩
theorem pe_Checker_214 : ax_okE mg_TB mg_T0 "MailGuard$Checker" 214 (7, 76, 4) := by
  simp only [ax_okE]
  exact ⟨mg_t3 166 (by decide +kernel) rfl, mg_t3 168 (by decide +kernel) rfl, mg_p0 11 (by decide +kernel) rfl, mg_t1 5 (by decide +kernel) rfl, by decide +kernel, ⟨rfl, mg_t3 169 (by decide +kernel) rfl, by decide, by decide, by decide⟩⟩
theorem pe_Checker_217 : ax_okE mg_TB mg_T0 "MailGuard$Checker" 217 (20, 0, 0) := by
  simp only [ax_okE]
  exact ⟨mg_t3 179 (by decide +kernel) rfl, mg_t3 180 (by decide +kernel) rfl, mg_t1 17 (by decide +kernel) rfl, mg_t3 181 (by decide +kernel) rfl⟩
theorem pe_Checker_220 : ax_okE mg_TB mg_T0 "MailGuard$Checker" 220 (7, 77, 2) := by
  simp only [ax_okE]
  exact ⟨mg_t3 170 (by decide +kernel) rfl, mg_t3 171 (by decide +kernel) rfl, mg_t3 172 (by decide +kernel) rfl, mg_t1 2 (by decide +kernel) rfl, by decide +kernel, ⟨rfl, mg_t3 173 (by decide +kernel) rfl, by decide, by decide, by decide⟩⟩
theorem pe_Checker (idx : Nat) : ax_okE mg_TB mg_T0 "MailGuard$Checker" idx (pl_Checker idx) := by
  unfold pl_Checker
  split
  · exact pe_Checker_3
  · exact pe_Checker_11
  · exact pe_Checker_13
  · exact pe_Checker_17
  · exact pe_Checker_19
  · exact pe_Checker_22
  · exact pe_Checker_26
  · exact pe_Checker_29
  · exact pe_Checker_33
  · exact pe_Checker_37
  · exact pe_Checker_38
  · exact pe_Checker_41
  · exact pe_Checker_44
  · exact pe_Checker_47
  · exact pe_Checker_50
  · exact pe_Checker_53
  · exact pe_Checker_56
  · exact pe_Checker_59
  · exact pe_Checker_62
  · exact pe_Checker_66
  · exact pe_Checker_70
  · exact pe_Checker_74
  · exact pe_Checker_78
  · exact pe_Checker_83
  · exact pe_Checker_87
  · exact pe_Checker_91
  · exact pe_Checker_94
  · exact pe_Checker_98
  · exact pe_Checker_104
  · exact pe_Checker_107
  · exact pe_Checker_111
  · exact pe_Checker_115
  · exact pe_Checker_119
  · exact pe_Checker_122
  · exact pe_Checker_124
  · exact pe_Checker_129
  · exact pe_Checker_135
  · exact pe_Checker_139
  · exact pe_Checker_142
  · exact pe_Checker_148
  · exact pe_Checker_151
  · exact pe_Checker_155
  · exact pe_Checker_159
  · exact pe_Checker_160
  · exact pe_Checker_163
  · exact pe_Checker_166
  · exact pe_Checker_170
  · exact pe_Checker_173
  · exact pe_Checker_177
  · exact pe_Checker_180
  · exact pe_Checker_181
  · exact pe_Checker_184
  · exact pe_Checker_188
  · exact pe_Checker_191
  · exact pe_Checker_194
  · exact pe_Checker_197
  · exact pe_Checker_200
  · exact pe_Checker_203
  · exact pe_Checker_206
  · exact pe_Checker_209
  · exact pe_Checker_210
  · exact pe_Checker_214
  · exact pe_Checker_217
  · exact pe_Checker_220
  · exact trivial
theorem pe_Policy_3 : ax_okE mg_TB mg_T0 "MailGuard$Policy" 3 (9, 0, 0) := by
  simp only [ax_okE]
  exact ⟨mg_t1 188 (by decide +kernel) rfl, mg_t1 27 (by decide +kernel) rfl, mg_t1 28 (by decide +kernel) rfl⟩
theorem pe_Policy_9 : ax_okE mg_TB mg_T0 "MailGuard$Policy" 9 (1, 7, 0) := by
  simp only [ax_okE]
  exact ⟨by decide, mg_t1 189 (by decide +kernel) rfl⟩
theorem pe_Policy_15 : ax_okE mg_TB mg_T0 "MailGuard$Policy" 15 (1, 7, 1) := by
  simp only [ax_okE]
  exact ⟨by decide, mg_t1 190 (by decide +kernel) rfl⟩
theorem pe_Policy_18 : ax_okE mg_TB mg_T0 "MailGuard$Policy" 18 (1, 7, 2) := by
  simp only [ax_okE]
  exact ⟨by decide, mg_t1 191 (by decide +kernel) rfl⟩
theorem pe_Policy_21 : ax_okE mg_TB mg_T0 "MailGuard$Policy" 21 (1, 7, 3) := by
  simp only [ax_okE]
  exact ⟨by decide, mg_t1 192 (by decide +kernel) rfl⟩
theorem pe_Policy_24 : ax_okE mg_TB mg_T0 "MailGuard$Policy" 24 (13, 9, 0) := by
  simp only [ax_okE]
  exact ⟨_, rfl, rfl, rfl⟩
theorem pe_Policy_26 : ax_okE mg_TB mg_T0 "MailGuard$Policy" 26 (14, 0, 0) := by
  simp only [ax_okE]
  exact ⟨mg_t4 18 (by decide +kernel) rfl, mg_t3 29 (by decide +kernel) rfl, mg_t3 30 (by decide +kernel) rfl, mg_swl⟩
theorem pe_Policy_32 : ax_okE mg_TB mg_T0 "MailGuard$Policy" 32 (7, 15, 0) := by
  simp only [ax_okE]
  exact ⟨mg_t4 19 (by decide +kernel) rfl, mg_t1 238 (by decide +kernel) rfl, mg_t1 239 (by decide +kernel) rfl, mg_t1 2 (by decide +kernel) rfl, by decide +kernel, ⟨rfl, mg_t2 0 (by decide +kernel) rfl, by decide, by decide, by decide⟩⟩
theorem pe_Policy_37 : ax_okE mg_TB mg_T0 "MailGuard$Policy" 37 (19, 0, 0) := by
  simp only [ax_okE]
  exact ⟨mg_t4 20 (by decide +kernel) rfl, mg_t3 39 (by decide +kernel) rfl, mg_t1 17 (by decide +kernel) rfl, mg_t3 40 (by decide +kernel) rfl⟩
theorem pe_Policy_43 : ax_okE mg_TB mg_T0 "MailGuard$Policy" 43 (7, 57, 3) := by
  simp only [ax_okE]
  exact ⟨mg_t4 21 (by decide +kernel) rfl, mg_t3 42 (by decide +kernel) rfl, mg_t3 43 (by decide +kernel) rfl, mg_t1 2 (by decide +kernel) rfl, by decide +kernel, ⟨rfl, mg_t3 44 (by decide +kernel) rfl, by decide, by decide, by decide⟩⟩
theorem pe_Policy_47 : ax_okE mg_TB mg_T0 "MailGuard$Policy" 47 (7, 31, 1) := by
  simp only [ax_okE]
  exact ⟨mg_t4 22 (by decide +kernel) rfl, mg_t2 62 (by decide +kernel) rfl, mg_t2 63 (by decide +kernel) rfl, mg_t1 2 (by decide +kernel) rfl, by decide +kernel, ⟨rfl, mg_t2 64 (by decide +kernel) rfl, by decide, by decide, by decide⟩⟩
theorem pe_Policy_51 : ax_okE mg_TB mg_T0 "MailGuard$Policy" 51 (7, 94, 2) := by
  simp only [ax_okE]
  exact ⟨mg_t4 23 (by decide +kernel) rfl, mg_t4 24 (by decide +kernel) rfl, mg_t4 25 (by decide +kernel) rfl, mg_t1 2 (by decide +kernel) rfl, by decide +kernel, ⟨rfl, mg_t4 26 (by decide +kernel) rfl, by decide, by decide, by decide⟩⟩
theorem pe_Policy_54 : ax_okE mg_TB mg_T0 "MailGuard$Policy" 54 (7, 95, 2) := by
  simp only [ax_okE]
  exact ⟨mg_t4 27 (by decide +kernel) rfl, mg_t4 28 (by decide +kernel) rfl, mg_t4 29 (by decide +kernel) rfl, mg_t1 2 (by decide +kernel) rfl, by decide +kernel, ⟨rfl, mg_t4 30 (by decide +kernel) rfl, by decide, by decide, by decide⟩⟩
theorem pe_Policy_57 : ax_okE mg_TB mg_T0 "MailGuard$Policy" 57 (7, 96, 3) := by
  simp only [ax_okE]
  exact ⟨mg_t4 31 (by decide +kernel) rfl, mg_t4 33 (by decide +kernel) rfl, mg_p1 2 (by decide +kernel) rfl, mg_t1 9 (by decide +kernel) rfl, by decide +kernel, ⟨rfl, mg_t4 34 (by decide +kernel) rfl, by decide, by decide, by decide⟩⟩
theorem pe_Policy_61 : ax_okE mg_TB mg_T0 "MailGuard$Policy" 61 (6, 61, 1) := by
  simp only [ax_okE]
  exact ⟨mg_t4 35 (by decide +kernel) rfl, mg_t3 97 (by decide +kernel) rfl, mg_t1 2 (by decide +kernel) rfl, by decide +kernel, ⟨rfl, mg_t3 98 (by decide +kernel) rfl, by decide, by decide, by decide⟩⟩
theorem pe_Policy_65 : ax_okE mg_TB mg_T0 "MailGuard$Policy" 65 (7, 37, 3) := by
  simp only [ax_okE]
  exact ⟨mg_t4 36 (by decide +kernel) rfl, mg_t2 91 (by decide +kernel) rfl, mg_t2 92 (by decide +kernel) rfl, mg_t1 2 (by decide +kernel) rfl, by decide +kernel, ⟨rfl, mg_t2 93 (by decide +kernel) rfl, by decide, by decide, by decide⟩⟩
theorem pe_Policy_69 : ax_okE mg_TB mg_T0 "MailGuard$Policy" 69 (13, 10, 0) := by
  simp only [ax_okE]
  exact ⟨_, rfl, rfl, rfl⟩
theorem pe_Policy_71 : ax_okE mg_TB mg_T0 "MailGuard$Policy" 71 (6, 97, 3) := by
  simp only [ax_okE]
  exact ⟨mg_t4 38 (by decide +kernel) rfl, mg_t4 39 (by decide +kernel) rfl, mg_t1 9 (by decide +kernel) rfl, by decide +kernel, ⟨rfl, mg_t4 40 (by decide +kernel) rfl, by decide, by decide, by decide⟩⟩
theorem pe_Policy_75 : ax_okE mg_TB mg_T0 "MailGuard$Policy" 75 (13, 14, 0) := by
  simp only [ax_okE]
  exact ⟨_, rfl, rfl, rfl⟩
theorem pe_Policy_77 : ax_okE mg_TB mg_T0 "MailGuard$Policy" 77 (13, 15, 0) := by
  simp only [ax_okE]
  exact ⟨_, rfl, rfl, rfl⟩
theorem pe_Policy_79 : ax_okE mg_TB mg_T0 "MailGuard$Policy" 79 (6, 98, 3) := by
  simp only [ax_okE]
  exact ⟨mg_t4 46 (by decide +kernel) rfl, mg_t4 47 (by decide +kernel) rfl, mg_t1 9 (by decide +kernel) rfl, by decide +kernel, ⟨rfl, mg_t4 48 (by decide +kernel) rfl, by decide, by decide, by decide⟩⟩
theorem pe_Policy_82 : ax_okE mg_TB mg_T0 "MailGuard$Policy" 82 (13, 18, 0) := by
  simp only [ax_okE]
  exact ⟨_, rfl, rfl, rfl⟩
theorem pe_Policy_84 : ax_okE mg_TB mg_T0 "MailGuard$Policy" 84 (7, 41, 3) := by
  simp only [ax_okE]
  exact ⟨mg_t4 52 (by decide +kernel) rfl, mg_t2 107 (by decide +kernel) rfl, mg_t2 108 (by decide +kernel) rfl, mg_t1 2 (by decide +kernel) rfl, by decide +kernel, ⟨rfl, mg_t2 109 (by decide +kernel) rfl, by decide, by decide, by decide⟩⟩
theorem pe_Policy_88 : ax_okE mg_TB mg_T0 "MailGuard$Policy" 88 (13, 11, 0) := by
  simp only [ax_okE]
  exact ⟨_, rfl, rfl, rfl⟩
theorem pe_Policy_92 : ax_okE mg_TB mg_T0 "MailGuard$Policy" 92 (13, 12, 0) := by
  simp only [ax_okE]
  exact ⟨_, rfl, rfl, rfl⟩
theorem pe_Policy_94 : ax_okE mg_TB mg_T0 "MailGuard$Policy" 94 (13, 13, 0) := by
  simp only [ax_okE]
  exact ⟨_, rfl, rfl, rfl⟩
theorem pe_Policy_96 : ax_okE mg_TB mg_T0 "MailGuard$Policy" 96 (13, 16, 0) := by
  simp only [ax_okE]
  exact ⟨_, rfl, rfl, rfl⟩
theorem pe_Policy_98 : ax_okE mg_TB mg_T0 "MailGuard$Policy" 98 (13, 17, 0) := by
  simp only [ax_okE]
  exact ⟨_, rfl, rfl, rfl⟩
theorem pe_Policy (idx : Nat) : ax_okE mg_TB mg_T0 "MailGuard$Policy" idx (pl_Policy idx) := by
  unfold pl_Policy
  split
  · exact pe_Policy_3
  · exact pe_Policy_9
  · exact pe_Policy_15
  · exact pe_Policy_18
  · exact pe_Policy_21
  · exact pe_Policy_24
  · exact pe_Policy_26
  · exact pe_Policy_32
  · exact pe_Policy_37
  · exact pe_Policy_43
  · exact pe_Policy_47
  · exact pe_Policy_51
  · exact pe_Policy_54
  · exact pe_Policy_57
  · exact pe_Policy_61
  · exact pe_Policy_65
  · exact pe_Policy_69
  · exact pe_Policy_71
  · exact pe_Policy_75
  · exact pe_Policy_77
  · exact pe_Policy_79
  · exact pe_Policy_82
  · exact pe_Policy_84
  · exact pe_Policy_88
  · exact pe_Policy_92
  · exact pe_Policy_94
  · exact pe_Policy_96
  · exact pe_Policy_98
  · exact trivial
theorem pe_Judge_3 : ax_okE mg_TB mg_T0 "MailGuard$Judge" 3 (9, 0, 0) := by
  simp only [ax_okE]
  exact ⟨mg_t1 182 (by decide +kernel) rfl, mg_t1 27 (by decide +kernel) rfl, mg_t1 28 (by decide +kernel) rfl⟩
theorem pe_Judge_9 : ax_okE mg_TB mg_T0 "MailGuard$Judge" 9 (4, 7, 4) := by
  simp only [ax_okE]
  exact ⟨rfl, mg_t1 183 (by decide +kernel) rfl, mg_t1 184 (by decide +kernel) rfl, mg_t1 9 (by decide +kernel) rfl⟩
theorem pe_Judge_11 : ax_okE mg_TB mg_T0 "MailGuard$Judge" 11 (18, 12, 0) := by
  simp only [ax_okE]
  exact ⟨mg_t1 185 (by decide +kernel) rfl, mg_t1 186 (by decide +kernel) rfl, rfl, rfl, mg_t1 9 (by decide +kernel) rfl, by decide +kernel, ⟨rfl, mg_t1 187 (by decide +kernel) rfl, by decide, by decide, by decide⟩⟩
theorem pe_Judge_12 : ax_okE mg_TB mg_T0 "MailGuard$Judge" 12 (1, 8, 2) := by
  simp only [ax_okE]
  exact ⟨by decide, mg_t1 206 (by decide +kernel) rfl⟩
theorem pe_Judge_18 : ax_okE mg_TB mg_T0 "MailGuard$Judge" 18 (4, 1, 2) := by
  simp only [ax_okE]
  exact ⟨rfl, mg_t1 202 (by decide +kernel) rfl, mg_t1 30 (by decide +kernel) rfl, mg_t1 2 (by decide +kernel) rfl⟩
theorem pe_Judge_20 : ax_okE mg_TB mg_T0 "MailGuard$Judge" 20 (8, 5, 1) := by
  simp only [ax_okE]
  exact ⟨mg_t1 203 (by decide +kernel) rfl, mg_t1 32 (by decide +kernel) rfl, rfl, rfl, mg_t1 2 (by decide +kernel) rfl, by decide +kernel, ⟨rfl, mg_t1 33 (by decide +kernel) rfl, by decide, by decide, by decide⟩⟩
theorem pe_Judge_23 : ax_okE mg_TB mg_T0 "MailGuard$Judge" 23 (1, 8, 3) := by
  simp only [ax_okE]
  exact ⟨by decide, mg_t1 207 (by decide +kernel) rfl⟩
theorem pe_Judge_27 : ax_okE mg_TB mg_T0 "MailGuard$Judge" 27 (1, 8, 0) := by
  simp only [ax_okE]
  exact ⟨by decide, mg_t1 204 (by decide +kernel) rfl⟩
theorem pe_Judge_31 : ax_okE mg_TB mg_T0 "MailGuard$Judge" 31 (1, 8, 1) := by
  simp only [ax_okE]
  exact ⟨by decide, mg_t1 205 (by decide +kernel) rfl⟩
theorem pe_Judge_35 : ax_okE mg_TB mg_T0 "MailGuard$Judge" 35 (7, 88, 1) := by
  simp only [ax_okE]
  exact ⟨mg_t3 223 (by decide +kernel) rfl, mg_t3 224 (by decide +kernel) rfl, mg_t3 225 (by decide +kernel) rfl, mg_t1 3 (by decide +kernel) rfl, by decide +kernel, ⟨rfl, mg_t3 226 (by decide +kernel) rfl, by decide, by decide, by decide⟩⟩
theorem pe_Judge_41 : ax_okE mg_TB mg_T0 "MailGuard$Judge" 41 (7, 91, 2) := by
  simp only [ax_okE]
  exact ⟨mg_t3 237 (by decide +kernel) rfl, mg_t3 239 (by decide +kernel) rfl, mg_p1 1 (by decide +kernel) rfl, mg_t1 8 (by decide +kernel) rfl, by decide +kernel, ⟨rfl, mg_t4 0 (by decide +kernel) rfl, by decide, by decide, by decide⟩⟩
theorem pe_Judge_45 : ax_okE mg_TB mg_T0 "MailGuard$Judge" 45 (7, 99, 2) := by
  simp only [ax_okE]
  exact ⟨mg_t4 53 (by decide +kernel) rfl, mg_t4 55 (by decide +kernel) rfl, mg_p1 3 (by decide +kernel) rfl, mg_t1 8 (by decide +kernel) rfl, by decide +kernel, ⟨rfl, mg_t4 56 (by decide +kernel) rfl, by decide, by decide, by decide⟩⟩
theorem pe_Judge_49 : ax_okE mg_TB mg_T0 "MailGuard$Judge" 49 (7, 101, 0) := by
  simp only [ax_okE]
  exact ⟨mg_t4 64 (by decide +kernel) rfl, mg_t4 65 (by decide +kernel) rfl, mg_t4 66 (by decide +kernel) rfl, mg_t1 9 (by decide +kernel) rfl, by decide +kernel, ⟨rfl, mg_t4 67 (by decide +kernel) rfl, by decide, by decide, by decide⟩⟩
theorem pe_Judge_53 : ax_okE mg_TB mg_T0 "MailGuard$Judge" 53 (7, 102, 0) := by
  simp only [ax_okE]
  exact ⟨mg_t4 68 (by decide +kernel) rfl, mg_t4 69 (by decide +kernel) rfl, mg_t4 70 (by decide +kernel) rfl, mg_t1 9 (by decide +kernel) rfl, by decide +kernel, ⟨rfl, mg_t4 71 (by decide +kernel) rfl, by decide, by decide, by decide⟩⟩
theorem pe_Judge_56 : ax_okE mg_TB mg_T0 "MailGuard$Judge" 56 (7, 103, 0) := by
  simp only [ax_okE]
  exact ⟨mg_t4 72 (by decide +kernel) rfl, mg_t4 73 (by decide +kernel) rfl, mg_t4 74 (by decide +kernel) rfl, mg_t1 9 (by decide +kernel) rfl, by decide +kernel, ⟨rfl, mg_t4 75 (by decide +kernel) rfl, by decide, by decide, by decide⟩⟩
theorem pe_Judge_59 : ax_okE mg_TB mg_T0 "MailGuard$Judge" 59 (7, 18, 0) := by
  simp only [ax_okE]
  exact ⟨mg_t4 1 (by decide +kernel) rfl, mg_t2 10 (by decide +kernel) rfl, mg_t2 11 (by decide +kernel) rfl, mg_t1 2 (by decide +kernel) rfl, by decide +kernel, ⟨rfl, mg_t2 12 (by decide +kernel) rfl, by decide, by decide, by decide⟩⟩
theorem pe_Judge_62 : ax_okE mg_TB mg_T0 "MailGuard$Judge" 62 (13, 8, 0) := by
  simp only [ax_okE]
  exact ⟨_, rfl, rfl, rfl⟩
theorem pe_Judge_64 : ax_okE mg_TB mg_T0 "MailGuard$Judge" 64 (7, 92, 1) := by
  simp only [ax_okE]
  exact ⟨mg_t4 3 (by decide +kernel) rfl, mg_t4 4 (by decide +kernel) rfl, mg_t4 5 (by decide +kernel) rfl, mg_t1 2 (by decide +kernel) rfl, by decide +kernel, ⟨rfl, mg_t4 6 (by decide +kernel) rfl, by decide, by decide, by decide⟩⟩
theorem pe_Judge_68 : ax_okE mg_TB mg_T0 "MailGuard$Judge" 68 (7, 15, 0) := by
  simp only [ax_okE]
  exact ⟨mg_t4 7 (by decide +kernel) rfl, mg_t1 238 (by decide +kernel) rfl, mg_t1 239 (by decide +kernel) rfl, mg_t1 2 (by decide +kernel) rfl, by decide +kernel, ⟨rfl, mg_t2 0 (by decide +kernel) rfl, by decide, by decide, by decide⟩⟩
theorem pe_Judge_71 : ax_okE mg_TB mg_T0 "MailGuard$Judge" 71 (7, 44, 3) := by
  simp only [ax_okE]
  exact ⟨mg_t4 8 (by decide +kernel) rfl, mg_t2 201 (by decide +kernel) rfl, mg_t2 202 (by decide +kernel) rfl, mg_t1 2 (by decide +kernel) rfl, by decide +kernel, ⟨rfl, mg_t2 203 (by decide +kernel) rfl, by decide, by decide, by decide⟩⟩
theorem pe_Judge_75 : ax_okE mg_TB mg_T0 "MailGuard$Judge" 75 (7, 53, 2) := by
  simp only [ax_okE]
  exact ⟨mg_t4 9 (by decide +kernel) rfl, mg_t3 8 (by decide +kernel) rfl, mg_t3 9 (by decide +kernel) rfl, mg_t1 3 (by decide +kernel) rfl, by decide +kernel, ⟨rfl, mg_t3 10 (by decide +kernel) rfl, by decide, by decide, by decide⟩⟩
theorem pe_Judge_78 : ax_okE mg_TB mg_T0 "MailGuard$Judge" 78 (7, 33, 0) := by
  simp only [ax_okE]
  exact ⟨mg_t4 10 (by decide +kernel) rfl, mg_t2 70 (by decide +kernel) rfl, mg_t2 71 (by decide +kernel) rfl, mg_t1 3 (by decide +kernel) rfl, by decide +kernel, ⟨rfl, mg_t2 72 (by decide +kernel) rfl, by decide, by decide, by decide⟩⟩
theorem pe_Judge_81 : ax_okE mg_TB mg_T0 "MailGuard$Judge" 81 (7, 34, 1) := by
  simp only [ax_okE]
  exact ⟨mg_t4 11 (by decide +kernel) rfl, mg_t2 74 (by decide +kernel) rfl, mg_t2 75 (by decide +kernel) rfl, mg_t1 3 (by decide +kernel) rfl, by decide +kernel, ⟨rfl, mg_t2 76 (by decide +kernel) rfl, by decide, by decide, by decide⟩⟩
theorem pe_Judge_85 : ax_okE mg_TB mg_T0 "MailGuard$Judge" 85 (7, 55, 2) := by
  simp only [ax_okE]
  exact ⟨mg_t4 12 (by decide +kernel) rfl, mg_t3 20 (by decide +kernel) rfl, mg_t3 21 (by decide +kernel) rfl, mg_t1 4 (by decide +kernel) rfl, by decide +kernel, ⟨rfl, mg_t3 22 (by decide +kernel) rfl, by decide, by decide, by decide⟩⟩
theorem pe_Judge_91 : ax_okE mg_TB mg_T0 "MailGuard$Judge" 91 (2, 2, 2) := by
  simp only [ax_okE]
  exact ⟨by decide, mg_t1 66 (by decide +kernel) rfl⟩
theorem pe_Judge_94 : ax_okE mg_TB mg_T0 "MailGuard$Judge" 94 (7, 93, 1) := by
  simp only [ax_okE]
  exact ⟨mg_t4 13 (by decide +kernel) rfl, mg_t4 14 (by decide +kernel) rfl, mg_t4 15 (by decide +kernel) rfl, mg_t1 9 (by decide +kernel) rfl, by decide +kernel, ⟨rfl, mg_t4 16 (by decide +kernel) rfl, by decide, by decide, by decide⟩⟩
theorem pe_Judge_98 : ax_okE mg_TB mg_T0 "MailGuard$Judge" 98 (7, 24, 0) := by
  simp only [ax_okE]
  exact ⟨mg_t4 57 (by decide +kernel) rfl, mg_t2 34 (by decide +kernel) rfl, mg_t2 35 (by decide +kernel) rfl, mg_t1 5 (by decide +kernel) rfl, by decide +kernel, ⟨rfl, mg_t2 36 (by decide +kernel) rfl, by decide, by decide, by decide⟩⟩
theorem pe_Judge_103 : ax_okE mg_TB mg_T0 "MailGuard$Judge" 103 (7, 49, 0) := by
  simp only [ax_okE]
  exact ⟨mg_t4 58 (by decide +kernel) rfl, mg_t2 229 (by decide +kernel) rfl, mg_t2 230 (by decide +kernel) rfl, mg_t1 5 (by decide +kernel) rfl, by decide +kernel, ⟨rfl, mg_t2 231 (by decide +kernel) rfl, by decide, by decide, by decide⟩⟩
theorem pe_Judge_107 : ax_okE mg_TB mg_T0 "MailGuard$Judge" 107 (7, 100, 0) := by
  simp only [ax_okE]
  exact ⟨mg_t4 59 (by decide +kernel) rfl, mg_t4 60 (by decide +kernel) rfl, mg_t4 61 (by decide +kernel) rfl, mg_t1 9 (by decide +kernel) rfl, by decide +kernel, ⟨rfl, mg_t4 62 (by decide +kernel) rfl, by decide, by decide, by decide⟩⟩
theorem pe_Judge_111 : ax_okE mg_TB mg_T0 "MailGuard$Judge" 111 (7, 54, 3) := by
  simp only [ax_okE]
  exact ⟨mg_t4 63 (by decide +kernel) rfl, mg_t3 14 (by decide +kernel) rfl, mg_t3 15 (by decide +kernel) rfl, mg_t1 2 (by decide +kernel) rfl, by decide +kernel, ⟨rfl, mg_t3 16 (by decide +kernel) rfl, by decide, by decide, by decide⟩⟩
theorem pe_Judge (idx : Nat) : ax_okE mg_TB mg_T0 "MailGuard$Judge" idx (pl_Judge idx) := by
  unfold pl_Judge
  split
  · exact pe_Judge_3
  · exact pe_Judge_9
  · exact pe_Judge_11
  · exact pe_Judge_12
  · exact pe_Judge_18
  · exact pe_Judge_20
  · exact pe_Judge_23
  · exact pe_Judge_27
  · exact pe_Judge_31
  · exact pe_Judge_35
  · exact pe_Judge_41
  · exact pe_Judge_45
  · exact pe_Judge_49
  · exact pe_Judge_53
  · exact pe_Judge_56
  · exact pe_Judge_59
  · exact pe_Judge_62
  · exact pe_Judge_64
  · exact pe_Judge_68
  · exact pe_Judge_71
  · exact pe_Judge_75
  · exact pe_Judge_78
  · exact pe_Judge_81
  · exact pe_Judge_85
  · exact pe_Judge_91
  · exact pe_Judge_94
  · exact pe_Judge_98
  · exact pe_Judge_103
  · exact pe_Judge_107
  · exact pe_Judge_111
  · exact trivial
theorem pe_Model_1 : ax_okE mg_TB mg_T0 "MailGuardModel" 1 (9, 0, 0) := by
  simp only [ax_okE]
  exact ⟨mg_t4 81 (by decide +kernel) rfl, mg_t1 27 (by decide +kernel) rfl, mg_t1 28 (by decide +kernel) rfl⟩
theorem pe_Model_7 : ax_okE mg_TB mg_T0 "MailGuardModel" 7 (1, 9, 2) := by
  simp only [ax_okE]
  exact ⟨by decide, mg_t4 84 (by decide +kernel) rfl⟩
theorem pe_Model_13 : ax_okE mg_TB mg_T0 "MailGuardModel" 13 (1, 9, 4) := by
  simp only [ax_okE]
  exact ⟨by decide, mg_t4 86 (by decide +kernel) rfl⟩
theorem pe_Model_16 : ax_okE mg_TB mg_T0 "MailGuardModel" 16 (1, 9, 5) := by
  simp only [ax_okE]
  exact ⟨by decide, mg_t4 87 (by decide +kernel) rfl⟩
theorem pe_Model_19 : ax_okE mg_TB mg_T0 "MailGuardModel" 19 (1, 9, 6) := by
  simp only [ax_okE]
  exact ⟨by decide, mg_t4 88 (by decide +kernel) rfl⟩
theorem pe_Model_22 : ax_okE mg_TB mg_T0 "MailGuardModel" 22 (1, 9, 7) := by
  simp only [ax_okE]
  exact ⟨by decide, mg_t4 89 (by decide +kernel) rfl⟩
theorem pe_Model_25 : ax_okE mg_TB mg_T0 "MailGuardModel" 25 (1, 9, 8) := by
  simp only [ax_okE]
  exact ⟨by decide, mg_t4 90 (by decide +kernel) rfl⟩
theorem pe_Model_28 : ax_okE mg_TB mg_T0 "MailGuardModel" 28 (1, 9, 11) := by
  simp only [ax_okE]
  exact ⟨by decide, mg_t4 93 (by decide +kernel) rfl⟩
theorem pe_Model_31 : ax_okE mg_TB mg_T0 "MailGuardModel" 31 (1, 9, 13) := by
  simp only [ax_okE]
  exact ⟨by decide, mg_t4 95 (by decide +kernel) rfl⟩
theorem pe_Model_34 : ax_okE mg_TB mg_T0 "MailGuardModel" 34 (1, 9, 16) := by
  simp only [ax_okE]
  exact ⟨by decide, mg_t4 98 (by decide +kernel) rfl⟩
theorem pe_Model_37 : ax_okE mg_TB mg_T0 "MailGuardModel" 37 (1, 9, 18) := by
  simp only [ax_okE]
  exact ⟨by decide, mg_t4 100 (by decide +kernel) rfl⟩
theorem pe_Model_40 : ax_okE mg_TB mg_T0 "MailGuardModel" 40 (1, 9, 20) := by
  simp only [ax_okE]
  exact ⟨by decide, mg_t4 102 (by decide +kernel) rfl⟩
theorem pe_Model_43 : ax_okE mg_TB mg_T0 "MailGuardModel" 43 (1, 9, 21) := by
  simp only [ax_okE]
  exact ⟨by decide, mg_t4 103 (by decide +kernel) rfl⟩
theorem pe_Model_46 : ax_okE mg_TB mg_T0 "MailGuardModel" 46 (1, 9, 24) := by
  simp only [ax_okE]
  exact ⟨by decide, mg_t4 106 (by decide +kernel) rfl⟩
theorem pe_Model_49 : ax_okE mg_TB mg_T0 "MailGuardModel" 49 (1, 9, 25) := by
  simp only [ax_okE]
  exact ⟨by decide, mg_t4 107 (by decide +kernel) rfl⟩
theorem pe_Model_52 : ax_okE mg_TB mg_T0 "MailGuardModel" 52 (1, 9, 26) := by
  simp only [ax_okE]
  exact ⟨by decide, mg_t4 108 (by decide +kernel) rfl⟩
theorem pe_Model_55 : ax_okE mg_TB mg_T0 "MailGuardModel" 55 (1, 9, 27) := by
  simp only [ax_okE]
  exact ⟨by decide, mg_t4 109 (by decide +kernel) rfl⟩
theorem pe_Model_58 : ax_okE mg_TB mg_T0 "MailGuardModel" 58 (1, 9, 28) := by
  simp only [ax_okE]
  exact ⟨by decide, mg_t4 110 (by decide +kernel) rfl⟩
theorem pe_Model_61 : ax_okE mg_TB mg_T0 "MailGuardModel" 61 (1, 9, 29) := by
  simp only [ax_okE]
  exact ⟨by decide, mg_t4 111 (by decide +kernel) rfl⟩
theorem pe_Model_64 : ax_okE mg_TB mg_T0 "MailGuardModel" 64 (1, 9, 30) := by
  simp only [ax_okE]
  exact ⟨by decide, mg_t4 112 (by decide +kernel) rfl⟩
theorem pe_Model_67 : ax_okE mg_TB mg_T0 "MailGuardModel" 67 (1, 9, 31) := by
  simp only [ax_okE]
  exact ⟨by decide, mg_t4 113 (by decide +kernel) rfl⟩
theorem pe_Model_70 : ax_okE mg_TB mg_T0 "MailGuardModel" 70 (1, 9, 32) := by
  simp only [ax_okE]
  exact ⟨by decide, mg_t4 114 (by decide +kernel) rfl⟩
theorem pe_Model_73 : ax_okE mg_TB mg_T0 "MailGuardModel" 73 (1, 9, 42) := by
  simp only [ax_okE]
  exact ⟨by decide, mg_t4 124 (by decide +kernel) rfl⟩
theorem pe_Model_76 : ax_okE mg_TB mg_T0 "MailGuardModel" 76 (1, 9, 47) := by
  simp only [ax_okE]
  exact ⟨by decide, mg_t4 129 (by decide +kernel) rfl⟩
theorem pe_Model_79 : ax_okE mg_TB mg_T0 "MailGuardModel" 79 (1, 9, 48) := by
  simp only [ax_okE]
  exact ⟨by decide, mg_t4 130 (by decide +kernel) rfl⟩
theorem pe_Model_82 : ax_okE mg_TB mg_T0 "MailGuardModel" 82 (1, 9, 0) := by
  simp only [ax_okE]
  exact ⟨by decide, mg_t4 82 (by decide +kernel) rfl⟩
theorem pe_Model_86 : ax_okE mg_TB mg_T0 "MailGuardModel" 86 (1, 9, 1) := by
  simp only [ax_okE]
  exact ⟨by decide, mg_t4 83 (by decide +kernel) rfl⟩
theorem pe_Model_89 : ax_okE mg_TB mg_T0 "MailGuardModel" 89 (6, 111, 1) := by
  simp only [ax_okE]
  exact ⟨mg_t5 14 (by decide +kernel) rfl, mg_t5 15 (by decide +kernel) rfl, mg_t1 10 (by decide +kernel) rfl, by decide +kernel, ⟨rfl, mg_t5 16 (by decide +kernel) rfl, by decide, by decide, by decide⟩⟩
theorem pe_Model_93 : ax_okE mg_TB mg_T0 "MailGuardModel" 93 (6, 112, 1) := by
  simp only [ax_okE]
  exact ⟨mg_t5 17 (by decide +kernel) rfl, mg_t5 18 (by decide +kernel) rfl, mg_t1 10 (by decide +kernel) rfl, by decide +kernel, ⟨rfl, mg_t5 19 (by decide +kernel) rfl, by decide, by decide, by decide⟩⟩
theorem pe_Model_96 : ax_okE mg_TB mg_T0 "MailGuardModel" 96 (1, 9, 9) := by
  simp only [ax_okE]
  exact ⟨by decide, mg_t4 91 (by decide +kernel) rfl⟩
theorem pe_Model_99 : ax_okE mg_TB mg_T0 "MailGuardModel" 99 (7, 114, 4) := by
  simp only [ax_okE]
  exact ⟨mg_t5 24 (by decide +kernel) rfl, mg_t5 26 (by decide +kernel) rfl, mg_p1 5 (by decide +kernel) rfl, mg_t1 10 (by decide +kernel) rfl, by decide +kernel, ⟨rfl, mg_t5 27 (by decide +kernel) rfl, by decide, by decide, by decide⟩⟩
theorem pe_Model_103 : ax_okE mg_TB mg_T0 "MailGuardModel" 103 (6, 110, 3) := by
  simp only [ax_okE]
  exact ⟨mg_t5 11 (by decide +kernel) rfl, mg_t5 12 (by decide +kernel) rfl, mg_t1 10 (by decide +kernel) rfl, by decide +kernel, ⟨rfl, mg_t5 13 (by decide +kernel) rfl, by decide, by decide, by decide⟩⟩
theorem pe_Model_107 : ax_okE mg_TB mg_T0 "MailGuardModel" 107 (7, 113, 3) := by
  simp only [ax_okE]
  exact ⟨mg_t5 20 (by decide +kernel) rfl, mg_t5 22 (by decide +kernel) rfl, mg_p1 4 (by decide +kernel) rfl, mg_t1 10 (by decide +kernel) rfl, by decide +kernel, ⟨rfl, mg_t5 23 (by decide +kernel) rfl, by decide, by decide, by decide⟩⟩
theorem pe_Model_111 : ax_okE mg_TB mg_T0 "MailGuardModel" 111 (1, 9, 3) := by
  simp only [ax_okE]
  exact ⟨by decide, mg_t4 85 (by decide +kernel) rfl⟩
theorem pe_Model_114 : ax_okE mg_TB mg_T0 "MailGuardModel" 114 (1, 9, 10) := by
  simp only [ax_okE]
  exact ⟨by decide, mg_t4 92 (by decide +kernel) rfl⟩
theorem pe_Model_117 : ax_okE mg_TB mg_T0 "MailGuardModel" 117 (1, 9, 14) := by
  simp only [ax_okE]
  exact ⟨by decide, mg_t4 96 (by decide +kernel) rfl⟩
theorem pe_Model_121 : ax_okE mg_TB mg_T0 "MailGuardModel" 121 (1, 9, 12) := by
  simp only [ax_okE]
  exact ⟨by decide, mg_t4 94 (by decide +kernel) rfl⟩
theorem pe_Model_124 : ax_okE mg_TB mg_T0 "MailGuardModel" 124 (1, 9, 15) := by
  simp only [ax_okE]
  exact ⟨by decide, mg_t4 97 (by decide +kernel) rfl⟩
theorem pe_Model_127 : ax_okE mg_TB mg_T0 "MailGuardModel" 127 (7, 122, 1) := by
  simp only [ax_okE]
  exact ⟨mg_t5 56 (by decide +kernel) rfl, mg_t5 58 (by decide +kernel) rfl, mg_p1 11 (by decide +kernel) rfl, mg_t1 10 (by decide +kernel) rfl, by decide +kernel, ⟨rfl, mg_t5 59 (by decide +kernel) rfl, by decide, by decide, by decide⟩⟩
theorem pe_Model_130 : ax_okE mg_TB mg_T0 "MailGuardModel" 130 (7, 131, 3) := by
  simp only [ax_okE]
  exact ⟨mg_t5 92 (by decide +kernel) rfl, mg_t5 94 (by decide +kernel) rfl, mg_p2 4 (by decide +kernel) rfl, mg_t1 10 (by decide +kernel) rfl, by decide +kernel, ⟨rfl, mg_t5 95 (by decide +kernel) rfl, by decide, by decide, by decide⟩⟩
theorem pe_Model_134 : ax_okE mg_TB mg_T0 "MailGuardModel" 134 (1, 9, 17) := by
  simp only [ax_okE]
  exact ⟨by decide, mg_t4 99 (by decide +kernel) rfl⟩
theorem pe_Model_137 : ax_okE mg_TB mg_T0 "MailGuardModel" 137 (1, 9, 22) := by
  simp only [ax_okE]
  exact ⟨by decide, mg_t4 104 (by decide +kernel) rfl⟩
theorem pe_Model_140 : ax_okE mg_TB mg_T0 "MailGuardModel" 140 (1, 9, 23) := by
  simp only [ax_okE]
  exact ⟨by decide, mg_t4 105 (by decide +kernel) rfl⟩
theorem pe_Model_143 : ax_okE mg_TB mg_T0 "MailGuardModel" 143 (1, 9, 35) := by
  simp only [ax_okE]
  exact ⟨by decide, mg_t4 117 (by decide +kernel) rfl⟩
theorem pe_Model_146 : ax_okE mg_TB mg_T0 "MailGuardModel" 146 (7, 144, 1) := by
  simp only [ax_okE]
  exact ⟨mg_t5 141 (by decide +kernel) rfl, mg_t5 143 (by decide +kernel) rfl, mg_p2 14 (by decide +kernel) rfl, mg_t1 10 (by decide +kernel) rfl, by decide +kernel, ⟨rfl, mg_t5 144 (by decide +kernel) rfl, by decide, by decide, by decide⟩⟩
theorem pe_Model_150 : ax_okE mg_TB mg_T0 "MailGuardModel" 150 (1, 9, 41) := by
  simp only [ax_okE]
  exact ⟨by decide, mg_t4 123 (by decide +kernel) rfl⟩
theorem pe_Model_153 : ax_okE mg_TB mg_T0 "MailGuardModel" 153 (1, 9, 19) := by
  simp only [ax_okE]
  exact ⟨by decide, mg_t4 101 (by decide +kernel) rfl⟩
theorem pe_Model_156 : ax_okE mg_TB mg_T0 "MailGuardModel" 156 (7, 142, 1) := by
  simp only [ax_okE]
  exact ⟨mg_t5 133 (by decide +kernel) rfl, mg_t5 135 (by decide +kernel) rfl, mg_p2 12 (by decide +kernel) rfl, mg_t1 10 (by decide +kernel) rfl, by decide +kernel, ⟨rfl, mg_t5 136 (by decide +kernel) rfl, by decide, by decide, by decide⟩⟩
theorem pe_Model_159 : ax_okE mg_TB mg_T0 "MailGuardModel" 159 (7, 143, 1) := by
  simp only [ax_okE]
  exact ⟨mg_t5 137 (by decide +kernel) rfl, mg_t5 139 (by decide +kernel) rfl, mg_p2 13 (by decide +kernel) rfl, mg_t1 10 (by decide +kernel) rfl, by decide +kernel, ⟨rfl, mg_t5 140 (by decide +kernel) rfl, by decide, by decide, by decide⟩⟩
theorem pe_Model_162 : ax_okE mg_TB mg_T0 "MailGuardModel" 162 (7, 145, 2) := by
  simp only [ax_okE]
  exact ⟨mg_t5 145 (by decide +kernel) rfl, mg_t5 147 (by decide +kernel) rfl, mg_p2 15 (by decide +kernel) rfl, mg_t1 10 (by decide +kernel) rfl, by decide +kernel, ⟨rfl, mg_t5 148 (by decide +kernel) rfl, by decide, by decide, by decide⟩⟩
theorem pe_Model_166 : ax_okE mg_TB mg_T0 "MailGuardModel" 166 (7, 125, 2) := by
  simp only [ax_okE]
  exact ⟨mg_t5 68 (by decide +kernel) rfl, mg_t5 70 (by decide +kernel) rfl, mg_p1 14 (by decide +kernel) rfl, mg_t1 10 (by decide +kernel) rfl, by decide +kernel, ⟨rfl, mg_t5 71 (by decide +kernel) rfl, by decide, by decide, by decide⟩⟩
theorem pe_Model_170 : ax_okE mg_TB mg_T0 "MailGuardModel" 170 (7, 124, 5) := by
  simp only [ax_okE]
  exact ⟨mg_t5 64 (by decide +kernel) rfl, mg_t5 66 (by decide +kernel) rfl, mg_p1 13 (by decide +kernel) rfl, mg_t1 10 (by decide +kernel) rfl, by decide +kernel, ⟨rfl, mg_t5 67 (by decide +kernel) rfl, by decide, by decide, by decide⟩⟩
theorem pe_Model_174 : ax_okE mg_TB mg_T0 "MailGuardModel" 174 (7, 134, 3) := by
  simp only [ax_okE]
  exact ⟨mg_t5 103 (by decide +kernel) rfl, mg_t5 105 (by decide +kernel) rfl, mg_p2 6 (by decide +kernel) rfl, mg_t1 10 (by decide +kernel) rfl, by decide +kernel, ⟨rfl, mg_t5 106 (by decide +kernel) rfl, by decide, by decide, by decide⟩⟩
theorem pe_Model_177 : ax_okE mg_TB mg_T0 "MailGuardModel" 177 (7, 130, 4) := by
  simp only [ax_okE]
  exact ⟨mg_t5 88 (by decide +kernel) rfl, mg_t5 90 (by decide +kernel) rfl, mg_p2 3 (by decide +kernel) rfl, mg_t1 10 (by decide +kernel) rfl, by decide +kernel, ⟨rfl, mg_t5 91 (by decide +kernel) rfl, by decide, by decide, by decide⟩⟩
theorem pe_Model_181 : ax_okE mg_TB mg_T0 "MailGuardModel" 181 (7, 135, 3) := by
  simp only [ax_okE]
  exact ⟨mg_t5 107 (by decide +kernel) rfl, mg_t5 109 (by decide +kernel) rfl, mg_p2 7 (by decide +kernel) rfl, mg_t1 10 (by decide +kernel) rfl, by decide +kernel, ⟨rfl, mg_t5 110 (by decide +kernel) rfl, by decide, by decide, by decide⟩⟩
theorem pe_Model_184 : ax_okE mg_TB mg_T0 "MailGuardModel" 184 (7, 127, 2) := by
  simp only [ax_okE]
  exact ⟨mg_t5 76 (by decide +kernel) rfl, mg_t5 78 (by decide +kernel) rfl, mg_p2 0 (by decide +kernel) rfl, mg_t1 10 (by decide +kernel) rfl, by decide +kernel, ⟨rfl, mg_t5 79 (by decide +kernel) rfl, by decide, by decide, by decide⟩⟩
theorem pe_Model_187 : ax_okE mg_TB mg_T0 "MailGuardModel" 187 (7, 128, 3) := by
  simp only [ax_okE]
  exact ⟨mg_t5 80 (by decide +kernel) rfl, mg_t5 82 (by decide +kernel) rfl, mg_p2 1 (by decide +kernel) rfl, mg_t1 10 (by decide +kernel) rfl, by decide +kernel, ⟨rfl, mg_t5 83 (by decide +kernel) rfl, by decide, by decide, by decide⟩⟩
theorem pe_Model_190 : ax_okE mg_TB mg_T0 "MailGuardModel" 190 (7, 129, 3) := by
  simp only [ax_okE]
  exact ⟨mg_t5 84 (by decide +kernel) rfl, mg_t5 86 (by decide +kernel) rfl, mg_p2 2 (by decide +kernel) rfl, mg_t1 10 (by decide +kernel) rfl, by decide +kernel, ⟨rfl, mg_t5 87 (by decide +kernel) rfl, by decide, by decide, by decide⟩⟩
theorem pe_Model_194 : ax_okE mg_TB mg_T0 "MailGuardModel" 194 (6, 132, 1) := by
  simp only [ax_okE]
  exact ⟨mg_t5 96 (by decide +kernel) rfl, mg_t5 97 (by decide +kernel) rfl, mg_t1 10 (by decide +kernel) rfl, by decide +kernel, ⟨rfl, mg_t5 98 (by decide +kernel) rfl, by decide, by decide, by decide⟩⟩
theorem pe_Model_197 : ax_okE mg_TB mg_T0 "MailGuardModel" 197 (7, 133, 3) := by
  simp only [ax_okE]
  exact ⟨mg_t5 99 (by decide +kernel) rfl, mg_t5 101 (by decide +kernel) rfl, mg_p2 5 (by decide +kernel) rfl, mg_t1 10 (by decide +kernel) rfl, by decide +kernel, ⟨rfl, mg_t5 102 (by decide +kernel) rfl, by decide, by decide, by decide⟩⟩
theorem pe_Model_200 : ax_okE mg_TB mg_T0 "MailGuardModel" 200 (1, 9, 36) := by
  simp only [ax_okE]
  exact ⟨by decide, mg_t4 118 (by decide +kernel) rfl⟩
theorem pe_Model_203 : ax_okE mg_TB mg_T0 "MailGuardModel" 203 (1, 9, 40) := by
  simp only [ax_okE]
  exact ⟨by decide, mg_t4 122 (by decide +kernel) rfl⟩
theorem pe_Model_206 : ax_okE mg_TB mg_T0 "MailGuardModel" 206 (7, 118, 1) := by
  simp only [ax_okE]
  exact ⟨mg_t5 40 (by decide +kernel) rfl, mg_t5 42 (by decide +kernel) rfl, mg_p1 7 (by decide +kernel) rfl, mg_t1 10 (by decide +kernel) rfl, by decide +kernel, ⟨rfl, mg_t5 43 (by decide +kernel) rfl, by decide, by decide, by decide⟩⟩
theorem pe_Model_209 : ax_okE mg_TB mg_T0 "MailGuardModel" 209 (7, 120, 1) := by
  simp only [ax_okE]
  exact ⟨mg_t5 48 (by decide +kernel) rfl, mg_t5 50 (by decide +kernel) rfl, mg_p1 9 (by decide +kernel) rfl, mg_t1 10 (by decide +kernel) rfl, by decide +kernel, ⟨rfl, mg_t5 51 (by decide +kernel) rfl, by decide, by decide, by decide⟩⟩
theorem pe_Model_212 : ax_okE mg_TB mg_T0 "MailGuardModel" 212 (7, 121, 1) := by
  simp only [ax_okE]
  exact ⟨mg_t5 52 (by decide +kernel) rfl, mg_t5 54 (by decide +kernel) rfl, mg_p1 10 (by decide +kernel) rfl, mg_t1 10 (by decide +kernel) rfl, by decide +kernel, ⟨rfl, mg_t5 55 (by decide +kernel) rfl, by decide, by decide, by decide⟩⟩
theorem pe_Model_215 : ax_okE mg_TB mg_T0 "MailGuardModel" 215 (7, 119, 1) := by
  simp only [ax_okE]
  exact ⟨mg_t5 44 (by decide +kernel) rfl, mg_t5 46 (by decide +kernel) rfl, mg_p1 8 (by decide +kernel) rfl, mg_t1 10 (by decide +kernel) rfl, by decide +kernel, ⟨rfl, mg_t5 47 (by decide +kernel) rfl, by decide, by decide, by decide⟩⟩
theorem pe_Model_218 : ax_okE mg_TB mg_T0 "MailGuardModel" 218 (7, 123, 1) := by
  simp only [ax_okE]
  exact ⟨mg_t5 60 (by decide +kernel) rfl, mg_t5 62 (by decide +kernel) rfl, mg_p1 12 (by decide +kernel) rfl, mg_t1 10 (by decide +kernel) rfl, by decide +kernel, ⟨rfl, mg_t5 63 (by decide +kernel) rfl, by decide, by decide, by decide⟩⟩
theorem pe_Model_221 : ax_okE mg_TB mg_T0 "MailGuardModel" 221 (7, 126, 1) := by
  simp only [ax_okE]
  exact ⟨mg_t5 72 (by decide +kernel) rfl, mg_t5 74 (by decide +kernel) rfl, mg_p1 15 (by decide +kernel) rfl, mg_t1 10 (by decide +kernel) rfl, by decide +kernel, ⟨rfl, mg_t5 75 (by decide +kernel) rfl, by decide, by decide, by decide⟩⟩
theorem pe_Model_224 : ax_okE mg_TB mg_T0 "MailGuardModel" 224 (1, 9, 39) := by
  simp only [ax_okE]
  exact ⟨by decide, mg_t4 121 (by decide +kernel) rfl⟩
theorem pe_Model_227 : ax_okE mg_TB mg_T0 "MailGuardModel" 227 (1, 9, 37) := by
  simp only [ax_okE]
  exact ⟨by decide, mg_t4 119 (by decide +kernel) rfl⟩
theorem pe_Model_230 : ax_okE mg_TB mg_T0 "MailGuardModel" 230 (7, 148, 0) := by
  simp only [ax_okE]
  exact ⟨mg_t5 157 (by decide +kernel) rfl, mg_t5 159 (by decide +kernel) rfl, mg_p3 2 (by decide +kernel) rfl, mg_t1 10 (by decide +kernel) rfl, by decide +kernel, ⟨rfl, mg_t5 160 (by decide +kernel) rfl, by decide, by decide, by decide⟩⟩
theorem pe_Model_234 : ax_okE mg_TB mg_T0 "MailGuardModel" 234 (6, 139, 3) := by
  simp only [ax_okE]
  exact ⟨mg_t5 122 (by decide +kernel) rfl, mg_t5 123 (by decide +kernel) rfl, mg_t1 10 (by decide +kernel) rfl, by decide +kernel, ⟨rfl, mg_t5 124 (by decide +kernel) rfl, by decide, by decide, by decide⟩⟩
theorem pe_Model_237 : ax_okE mg_TB mg_T0 "MailGuardModel" 237 (1, 9, 38) := by
  simp only [ax_okE]
  exact ⟨by decide, mg_t4 120 (by decide +kernel) rfl⟩
theorem pe_Model_240 : ax_okE mg_TB mg_T0 "MailGuardModel" 240 (7, 149, 1) := by
  simp only [ax_okE]
  exact ⟨mg_t5 161 (by decide +kernel) rfl, mg_t5 163 (by decide +kernel) rfl, mg_p3 3 (by decide +kernel) rfl, mg_t1 10 (by decide +kernel) rfl, by decide +kernel, ⟨rfl, mg_t5 164 (by decide +kernel) rfl, by decide, by decide, by decide⟩⟩
theorem pe_Model_243 : ax_okE mg_TB mg_T0 "MailGuardModel" 243 (7, 150, 0) := by
  simp only [ax_okE]
  exact ⟨mg_t5 165 (by decide +kernel) rfl, mg_t5 167 (by decide +kernel) rfl, mg_p3 4 (by decide +kernel) rfl, mg_t1 10 (by decide +kernel) rfl, by decide +kernel, ⟨rfl, mg_t5 168 (by decide +kernel) rfl, by decide, by decide, by decide⟩⟩
theorem pe_Model_246 : ax_okE mg_TB mg_T0 "MailGuardModel" 246 (7, 151, 1) := by
  simp only [ax_okE]
  exact ⟨mg_t5 169 (by decide +kernel) rfl, mg_t5 171 (by decide +kernel) rfl, mg_p3 5 (by decide +kernel) rfl, mg_t1 10 (by decide +kernel) rfl, by decide +kernel, ⟨rfl, mg_t5 172 (by decide +kernel) rfl, by decide, by decide, by decide⟩⟩
theorem pe_Model_250 : ax_okE mg_TB mg_T0 "MailGuardModel" 250 (7, 152, 0) := by
  simp only [ax_okE]
  exact ⟨mg_t5 173 (by decide +kernel) rfl, mg_t5 175 (by decide +kernel) rfl, mg_p3 6 (by decide +kernel) rfl, mg_t1 10 (by decide +kernel) rfl, by decide +kernel, ⟨rfl, mg_t5 176 (by decide +kernel) rfl, by decide, by decide, by decide⟩⟩
theorem pe_Model_253 : ax_okE mg_TB mg_T0 "MailGuardModel" 253 (7, 140, 0) := by
  simp only [ax_okE]
  exact ⟨mg_t5 125 (by decide +kernel) rfl, mg_t5 127 (by decide +kernel) rfl, mg_p2 10 (by decide +kernel) rfl, mg_t1 10 (by decide +kernel) rfl, by decide +kernel, ⟨rfl, mg_t5 128 (by decide +kernel) rfl, by decide, by decide, by decide⟩⟩
theorem pe_Model_257 : ax_okE mg_TB mg_T0 "MailGuardModel" 257 (7, 141, 3) := by
  simp only [ax_okE]
  exact ⟨mg_t5 129 (by decide +kernel) rfl, mg_t5 131 (by decide +kernel) rfl, mg_p2 11 (by decide +kernel) rfl, mg_t1 10 (by decide +kernel) rfl, by decide +kernel, ⟨rfl, mg_t5 132 (by decide +kernel) rfl, by decide, by decide, by decide⟩⟩
theorem pe_Model_260 : ax_okE mg_TB mg_T0 "MailGuardModel" 260 (7, 146, 0) := by
  simp only [ax_okE]
  exact ⟨mg_t5 149 (by decide +kernel) rfl, mg_t5 151 (by decide +kernel) rfl, mg_p3 0 (by decide +kernel) rfl, mg_t1 10 (by decide +kernel) rfl, by decide +kernel, ⟨rfl, mg_t5 152 (by decide +kernel) rfl, by decide, by decide, by decide⟩⟩
theorem pe_Model_263 : ax_okE mg_TB mg_T0 "MailGuardModel" 263 (1, 9, 33) := by
  simp only [ax_okE]
  exact ⟨by decide, mg_t4 115 (by decide +kernel) rfl⟩
theorem pe_Model_266 : ax_okE mg_TB mg_T0 "MailGuardModel" 266 (7, 117, 2) := by
  simp only [ax_okE]
  exact ⟨mg_t5 36 (by decide +kernel) rfl, mg_t5 38 (by decide +kernel) rfl, mg_p1 6 (by decide +kernel) rfl, mg_t1 10 (by decide +kernel) rfl, by decide +kernel, ⟨rfl, mg_t5 39 (by decide +kernel) rfl, by decide, by decide, by decide⟩⟩
theorem pe_Model_270 : ax_okE mg_TB mg_T0 "MailGuardModel" 270 (7, 147, 1) := by
  simp only [ax_okE]
  exact ⟨mg_t5 153 (by decide +kernel) rfl, mg_t5 155 (by decide +kernel) rfl, mg_p3 1 (by decide +kernel) rfl, mg_t1 10 (by decide +kernel) rfl, by decide +kernel, ⟨rfl, mg_t5 156 (by decide +kernel) rfl, by decide, by decide, by decide⟩⟩
theorem pe_Model_273 : ax_okE mg_TB mg_T0 "MailGuardModel" 273 (6, 137, 1) := by
  simp only [ax_okE]
  exact ⟨mg_t5 115 (by decide +kernel) rfl, mg_t5 116 (by decide +kernel) rfl, mg_t1 10 (by decide +kernel) rfl, by decide +kernel, ⟨rfl, mg_t5 117 (by decide +kernel) rfl, by decide, by decide, by decide⟩⟩
theorem pe_Model_276 : ax_okE mg_TB mg_T0 "MailGuardModel" 276 (7, 138, 4) := by
  simp only [ax_okE]
  exact ⟨mg_t5 118 (by decide +kernel) rfl, mg_t5 120 (by decide +kernel) rfl, mg_p2 9 (by decide +kernel) rfl, mg_t1 10 (by decide +kernel) rfl, by decide +kernel, ⟨rfl, mg_t5 121 (by decide +kernel) rfl, by decide, by decide, by decide⟩⟩
theorem pe_Model_280 : ax_okE mg_TB mg_T0 "MailGuardModel" 280 (1, 9, 34) := by
  simp only [ax_okE]
  exact ⟨by decide, mg_t4 116 (by decide +kernel) rfl⟩
theorem pe_Model_283 : ax_okE mg_TB mg_T0 "MailGuardModel" 283 (7, 136, 0) := by
  simp only [ax_okE]
  exact ⟨mg_t5 111 (by decide +kernel) rfl, mg_t5 113 (by decide +kernel) rfl, mg_p2 8 (by decide +kernel) rfl, mg_t1 10 (by decide +kernel) rfl, by decide +kernel, ⟨rfl, mg_t5 114 (by decide +kernel) rfl, by decide, by decide, by decide⟩⟩
theorem pe_Model_286 : ax_okE mg_TB mg_T0 "MailGuardModel" 286 (1, 9, 43) := by
  simp only [ax_okE]
  exact ⟨by decide, mg_t4 125 (by decide +kernel) rfl⟩
theorem pe_Model_289 : ax_okE mg_TB mg_T0 "MailGuardModel" 289 (7, 161, 3) := by
  simp only [ax_okE]
  exact ⟨mg_t5 209 (by decide +kernel) rfl, mg_t5 211 (by decide +kernel) rfl, mg_p3 12 (by decide +kernel) rfl, mg_t1 10 (by decide +kernel) rfl, by decide +kernel, ⟨rfl, mg_t5 212 (by decide +kernel) rfl, by decide, by decide, by decide⟩⟩
theorem pe_Model_292 : ax_okE mg_TB mg_T0 "MailGuardModel" 292 (1, 9, 44) := by
  simp only [ax_okE]
  exact ⟨by decide, mg_t4 126 (by decide +kernel) rfl⟩
theorem pe_Model_295 : ax_okE mg_TB mg_T0 "MailGuardModel" 295 (1, 9, 45) := by
  simp only [ax_okE]
  exact ⟨by decide, mg_t4 127 (by decide +kernel) rfl⟩
theorem pe_Model_298 : ax_okE mg_TB mg_T0 "MailGuardModel" 298 (1, 9, 46) := by
  simp only [ax_okE]
  exact ⟨by decide, mg_t4 128 (by decide +kernel) rfl⟩
theorem pe_Model_301 : ax_okE mg_TB mg_T0 "MailGuardModel" 301 (7, 159, 2) := by
  simp only [ax_okE]
  exact ⟨mg_t5 201 (by decide +kernel) rfl, mg_t5 203 (by decide +kernel) rfl, mg_p3 10 (by decide +kernel) rfl, mg_t1 10 (by decide +kernel) rfl, by decide +kernel, ⟨rfl, mg_t5 204 (by decide +kernel) rfl, by decide, by decide, by decide⟩⟩
theorem pe_Model_304 : ax_okE mg_TB mg_T0 "MailGuardModel" 304 (7, 160, 4) := by
  simp only [ax_okE]
  exact ⟨mg_t5 205 (by decide +kernel) rfl, mg_t5 207 (by decide +kernel) rfl, mg_p3 11 (by decide +kernel) rfl, mg_t1 10 (by decide +kernel) rfl, by decide +kernel, ⟨rfl, mg_t5 208 (by decide +kernel) rfl, by decide, by decide, by decide⟩⟩
theorem pe_Model_308 : ax_okE mg_TB mg_T0 "MailGuardModel" 308 (7, 158, 1) := by
  simp only [ax_okE]
  exact ⟨mg_t5 197 (by decide +kernel) rfl, mg_t5 199 (by decide +kernel) rfl, mg_p3 9 (by decide +kernel) rfl, mg_t1 10 (by decide +kernel) rfl, by decide +kernel, ⟨rfl, mg_t5 200 (by decide +kernel) rfl, by decide, by decide, by decide⟩⟩
theorem pe_Model_311 : ax_okE mg_TB mg_T0 "MailGuardModel" 311 (7, 156, 2) := by
  simp only [ax_okE]
  exact ⟨mg_t5 189 (by decide +kernel) rfl, mg_t5 191 (by decide +kernel) rfl, mg_p3 7 (by decide +kernel) rfl, mg_t1 10 (by decide +kernel) rfl, by decide +kernel, ⟨rfl, mg_t5 192 (by decide +kernel) rfl, by decide, by decide, by decide⟩⟩
theorem pe_Model_315 : ax_okE mg_TB mg_T0 "MailGuardModel" 315 (7, 157, 3) := by
  simp only [ax_okE]
  exact ⟨mg_t5 193 (by decide +kernel) rfl, mg_t5 195 (by decide +kernel) rfl, mg_p3 8 (by decide +kernel) rfl, mg_t1 10 (by decide +kernel) rfl, by decide +kernel, ⟨rfl, mg_t5 196 (by decide +kernel) rfl, by decide, by decide, by decide⟩⟩
theorem pe_Model_318 : ax_okE mg_TB mg_T0 "MailGuardModel" 318 (6, 162, 6) := by
  simp only [ax_okE]
  exact ⟨mg_t5 213 (by decide +kernel) rfl, mg_t5 214 (by decide +kernel) rfl, mg_t1 10 (by decide +kernel) rfl, by decide +kernel, ⟨rfl, mg_t5 215 (by decide +kernel) rfl, by decide, by decide, by decide⟩⟩
theorem pe_Model (idx : Nat) : ax_okE mg_TB mg_T0 "MailGuardModel" idx (pl_Model idx) := by
  unfold pl_Model
  split
  · exact pe_Model_1
  · exact pe_Model_7
  · exact pe_Model_13
  · exact pe_Model_16
  · exact pe_Model_19
  · exact pe_Model_22
  · exact pe_Model_25
  · exact pe_Model_28
  · exact pe_Model_31
  · exact pe_Model_34
  · exact pe_Model_37
  · exact pe_Model_40
  · exact pe_Model_43
  · exact pe_Model_46
  · exact pe_Model_49
  · exact pe_Model_52
  · exact pe_Model_55
  · exact pe_Model_58
  · exact pe_Model_61
  · exact pe_Model_64
  · exact pe_Model_67
  · exact pe_Model_70
  · exact pe_Model_73
  · exact pe_Model_76
  · exact pe_Model_79
  · exact pe_Model_82
  · exact pe_Model_86
  · exact pe_Model_89
  · exact pe_Model_93
  · exact pe_Model_96
  · exact pe_Model_99
  · exact pe_Model_103
  · exact pe_Model_107
  · exact pe_Model_111
  · exact pe_Model_114
  · exact pe_Model_117
  · exact pe_Model_121
  · exact pe_Model_124
  · exact pe_Model_127
  · exact pe_Model_130
  · exact pe_Model_134
  · exact pe_Model_137
  · exact pe_Model_140
  · exact pe_Model_143
  · exact pe_Model_146
  · exact pe_Model_150
  · exact pe_Model_153
  · exact pe_Model_156
  · exact pe_Model_159
  · exact pe_Model_162
  · exact pe_Model_166
  · exact pe_Model_170
  · exact pe_Model_174
  · exact pe_Model_177
  · exact pe_Model_181
  · exact pe_Model_184
  · exact pe_Model_187
  · exact pe_Model_190
  · exact pe_Model_194
  · exact pe_Model_197
  · exact pe_Model_200
  · exact pe_Model_203
  · exact pe_Model_206
  · exact pe_Model_209
  · exact pe_Model_212
  · exact pe_Model_215
  · exact pe_Model_218
  · exact pe_Model_221
  · exact pe_Model_224
  · exact pe_Model_227
  · exact pe_Model_230
  · exact pe_Model_234
  · exact pe_Model_237
  · exact pe_Model_240
  · exact pe_Model_243
  · exact pe_Model_246
  · exact pe_Model_250
  · exact pe_Model_253
  · exact pe_Model_257
  · exact pe_Model_260
  · exact pe_Model_263
  · exact pe_Model_266
  · exact pe_Model_270
  · exact pe_Model_273
  · exact pe_Model_276
  · exact pe_Model_280
  · exact pe_Model_283
  · exact pe_Model_286
  · exact pe_Model_289
  · exact pe_Model_292
  · exact pe_Model_295
  · exact pe_Model_298
  · exact pe_Model_301
  · exact pe_Model_304
  · exact pe_Model_308
  · exact pe_Model_311
  · exact pe_Model_315
  · exact pe_Model_318
  · exact trivial
theorem pe_Law_7 : ax_okE mg_TB mg_T0 "MailGuardLaw" 7 (7, 35, 1) := by
  simp only [ax_okE]
  exact ⟨mg_t2 82 (by decide +kernel) rfl, mg_t2 83 (by decide +kernel) rfl, mg_t2 84 (by decide +kernel) rfl, mg_t1 1 (by decide +kernel) rfl, by decide +kernel, ⟨rfl, mg_t2 85 (by decide +kernel) rfl, by decide, by decide, by decide⟩⟩
theorem pe_Law_8 : ax_okE mg_TB mg_T0 "MailGuardLaw" 8 (4, 0, 4) := by
  simp only [ax_okE]
  exact ⟨rfl, mg_t1 21 (by decide +kernel) rfl, mg_t1 22 (by decide +kernel) rfl, mg_t1 1 (by decide +kernel) rfl⟩
theorem pe_Law_13 : ax_okE mg_TB mg_T0 "MailGuardLaw" 13 (12, 1, 0) := by
  simp only [ax_okE]
  exact mg_t2 80 (by decide +kernel) rfl
theorem pe_Law_15 : ax_okE mg_TB mg_T0 "MailGuardLaw" 15 (12, 2, 0) := by
  simp only [ax_okE]
  exact mg_t2 81 (by decide +kernel) rfl
theorem pe_Law_17 : ax_okE mg_TB mg_T0 "MailGuardLaw" 17 (7, 45, 1) := by
  simp only [ax_okE]
  exact ⟨mg_t2 208 (by decide +kernel) rfl, mg_t2 209 (by decide +kernel) rfl, mg_t2 210 (by decide +kernel) rfl, mg_t1 1 (by decide +kernel) rfl, by decide +kernel, ⟨rfl, mg_t2 211 (by decide +kernel) rfl, by decide, by decide, by decide⟩⟩
theorem pe_Law_20 : ax_okE mg_TB mg_T0 "MailGuardLaw" 20 (7, 86, 1) := by
  simp only [ax_okE]
  exact ⟨mg_t3 215 (by decide +kernel) rfl, mg_t3 216 (by decide +kernel) rfl, mg_t3 217 (by decide +kernel) rfl, mg_t1 1 (by decide +kernel) rfl, by decide +kernel, ⟨rfl, mg_t3 218 (by decide +kernel) rfl, by decide, by decide, by decide⟩⟩
theorem pe_Law_23 : ax_okE mg_TB mg_T0 "MailGuardLaw" 23 (8, 4, 0) := by
  simp only [ax_okE]
  exact ⟨mg_t1 23 (by decide +kernel) rfl, mg_t1 24 (by decide +kernel) rfl, rfl, rfl, mg_t1 1 (by decide +kernel) rfl, by decide +kernel, ⟨rfl, mg_t1 25 (by decide +kernel) rfl, by decide, by decide, by decide⟩⟩
theorem pe_Law_24 : ax_okE mg_TB mg_T0 "MailGuardLaw" 24 (4, 9, 49) := by
  simp only [ax_okE]
  exact ⟨rfl, mg_t4 76 (by decide +kernel) rfl, mg_t4 77 (by decide +kernel) rfl, mg_t1 10 (by decide +kernel) rfl⟩
theorem pe_Law_26 : ax_okE mg_TB mg_T0 "MailGuardLaw" 26 (8, 104, 0) := by
  simp only [ax_okE]
  exact ⟨mg_t4 78 (by decide +kernel) rfl, mg_t4 79 (by decide +kernel) rfl, rfl, rfl, mg_t1 10 (by decide +kernel) rfl, by decide +kernel, ⟨rfl, mg_t4 80 (by decide +kernel) rfl, by decide, by decide, by decide⟩⟩
theorem pe_Law_27 : ax_okE mg_TB mg_T0 "MailGuardLaw" 27 (11, 4294967295, 0) := by
  simp only [ax_okE]
  exact mg_t5 220 (by decide +kernel) rfl
theorem pe_Law_29 : ax_okE mg_TB mg_T0 "MailGuardLaw" 29 (7, 13, 1) := by
  simp only [ax_okE]
  exact ⟨mg_t1 230 (by decide +kernel) rfl, mg_t1 231 (by decide +kernel) rfl, mg_t1 232 (by decide +kernel) rfl, mg_t1 1 (by decide +kernel) rfl, by decide +kernel, ⟨rfl, mg_t1 233 (by decide +kernel) rfl, by decide, by decide, by decide⟩⟩
theorem pe_Law_33 : ax_okE mg_TB mg_T0 "MailGuardLaw" 33 (7, 106, 1) := by
  simp only [ax_okE]
  exact ⟨mg_t4 235 (by decide +kernel) rfl, mg_t4 236 (by decide +kernel) rfl, mg_t4 237 (by decide +kernel) rfl, mg_t1 10 (by decide +kernel) rfl, by decide +kernel, ⟨rfl, mg_t4 238 (by decide +kernel) rfl, by decide, by decide, by decide⟩⟩
theorem pe_Law_34 : ax_okE mg_TB mg_T0 "MailGuardLaw" 34 (7, 17, 0) := by
  simp only [ax_okE]
  exact ⟨mg_t2 5 (by decide +kernel) rfl, mg_t2 6 (by decide +kernel) rfl, mg_t2 7 (by decide +kernel) rfl, mg_t1 1 (by decide +kernel) rfl, by decide +kernel, ⟨rfl, mg_t2 8 (by decide +kernel) rfl, by decide, by decide, by decide⟩⟩
theorem pe_Law_37 : ax_okE mg_TB mg_T0 "MailGuardLaw" 37 (7, 107, 0) := by
  simp only [ax_okE]
  exact ⟨mg_t4 239 (by decide +kernel) rfl, mg_t5 0 (by decide +kernel) rfl, mg_t5 1 (by decide +kernel) rfl, mg_t1 10 (by decide +kernel) rfl, by decide +kernel, ⟨rfl, mg_t5 2 (by decide +kernel) rfl, by decide, by decide, by decide⟩⟩
theorem pe_Law_38 : ax_okE mg_TB mg_T0 "MailGuardLaw" 38 (7, 19, 0) := by
  simp only [ax_okE]
  exact ⟨mg_t2 13 (by decide +kernel) rfl, mg_t2 14 (by decide +kernel) rfl, mg_t2 15 (by decide +kernel) rfl, mg_t1 1 (by decide +kernel) rfl, by decide +kernel, ⟨rfl, mg_t2 16 (by decide +kernel) rfl, by decide, by decide, by decide⟩⟩
theorem pe_Law_42 : ax_okE mg_TB mg_T0 "MailGuardLaw" 42 (7, 108, 0) := by
  simp only [ax_okE]
  exact ⟨mg_t5 3 (by decide +kernel) rfl, mg_t5 4 (by decide +kernel) rfl, mg_t5 5 (by decide +kernel) rfl, mg_t1 10 (by decide +kernel) rfl, by decide +kernel, ⟨rfl, mg_t5 6 (by decide +kernel) rfl, by decide, by decide, by decide⟩⟩
theorem pe_Law_43 : ax_okE mg_TB mg_T0 "MailGuardLaw" 43 (26, 1, 3) := by
  simp only [ax_okE]
  exact ⟨mg_t2 77 (by decide +kernel) rfl, mg_t2 78 (by decide +kernel) rfl, mg_t1 0 (by decide +kernel) rfl, by decide +kernel, ⟨by decide, mg_t2 79 (by decide +kernel) rfl, by decide, by decide, by decide⟩⟩
theorem pe_Law_48 : ax_okE mg_TB mg_T0 "MailGuardLaw" 48 (7, 109, 1) := by
  simp only [ax_okE]
  exact ⟨mg_t5 7 (by decide +kernel) rfl, mg_t5 8 (by decide +kernel) rfl, mg_t5 9 (by decide +kernel) rfl, mg_t1 10 (by decide +kernel) rfl, by decide +kernel, ⟨rfl, mg_t5 10 (by decide +kernel) rfl, by decide, by decide, by decide⟩⟩
theorem pe_Law_49 : ax_okE mg_TB mg_T0 "MailGuardLaw" 49 (7, 105, 0) := by
  simp only [ax_okE]
  exact ⟨mg_t4 231 (by decide +kernel) rfl, mg_t4 232 (by decide +kernel) rfl, mg_t4 233 (by decide +kernel) rfl, mg_t1 10 (by decide +kernel) rfl, by decide +kernel, ⟨rfl, mg_t4 234 (by decide +kernel) rfl, by decide, by decide, by decide⟩⟩
theorem pe_Law_52 : ax_okE mg_TB mg_T0 "MailGuardLaw" 52 (7, 20, 1) := by
  simp only [ax_okE]
  exact ⟨mg_t2 17 (by decide +kernel) rfl, mg_t2 18 (by decide +kernel) rfl, mg_t2 19 (by decide +kernel) rfl, mg_t1 1 (by decide +kernel) rfl, by decide +kernel, ⟨rfl, mg_t2 20 (by decide +kernel) rfl, by decide, by decide, by decide⟩⟩
theorem pe_Law_56 : ax_okE mg_TB mg_T0 "MailGuardLaw" 56 (7, 115, 1) := by
  simp only [ax_okE]
  exact ⟨mg_t5 28 (by decide +kernel) rfl, mg_t5 29 (by decide +kernel) rfl, mg_t5 30 (by decide +kernel) rfl, mg_t1 10 (by decide +kernel) rfl, by decide +kernel, ⟨rfl, mg_t5 31 (by decide +kernel) rfl, by decide, by decide, by decide⟩⟩
theorem pe_Law_57 : ax_okE mg_TB mg_T0 "MailGuardLaw" 57 (26, 2, 3) := by
  simp only [ax_okE]
  exact ⟨mg_t2 205 (by decide +kernel) rfl, mg_t2 206 (by decide +kernel) rfl, mg_t1 0 (by decide +kernel) rfl, by decide +kernel, ⟨by decide, mg_t2 207 (by decide +kernel) rfl, by decide, by decide, by decide⟩⟩
theorem pe_Law_59 : ax_okE mg_TB mg_T0 "MailGuardLaw" 59 (7, 116, 1) := by
  simp only [ax_okE]
  exact ⟨mg_t5 32 (by decide +kernel) rfl, mg_t5 33 (by decide +kernel) rfl, mg_t5 34 (by decide +kernel) rfl, mg_t1 10 (by decide +kernel) rfl, by decide +kernel, ⟨rfl, mg_t5 35 (by decide +kernel) rfl, by decide, by decide, by decide⟩⟩
theorem pe_Law_60 : ax_okE mg_TB mg_T0 "MailGuardLaw" 60 (7, 22, 1) := by
  simp only [ax_okE]
  exact ⟨mg_t2 25 (by decide +kernel) rfl, mg_t2 26 (by decide +kernel) rfl, mg_t2 27 (by decide +kernel) rfl, mg_t1 1 (by decide +kernel) rfl, by decide +kernel, ⟨rfl, mg_t2 28 (by decide +kernel) rfl, by decide, by decide, by decide⟩⟩
theorem pe_Law_63 : ax_okE mg_TB mg_T0 "MailGuardLaw" 63 (7, 153, 1) := by
  simp only [ax_okE]
  exact ⟨mg_t5 177 (by decide +kernel) rfl, mg_t5 178 (by decide +kernel) rfl, mg_t5 179 (by decide +kernel) rfl, mg_t1 10 (by decide +kernel) rfl, by decide +kernel, ⟨rfl, mg_t5 180 (by decide +kernel) rfl, by decide, by decide, by decide⟩⟩
theorem pe_Law_64 : ax_okE mg_TB mg_T0 "MailGuardLaw" 64 (7, 29, 1) := by
  simp only [ax_okE]
  exact ⟨mg_t2 53 (by decide +kernel) rfl, mg_t2 54 (by decide +kernel) rfl, mg_t2 55 (by decide +kernel) rfl, mg_t1 1 (by decide +kernel) rfl, by decide +kernel, ⟨rfl, mg_t2 56 (by decide +kernel) rfl, by decide, by decide, by decide⟩⟩
theorem pe_Law_67 : ax_okE mg_TB mg_T0 "MailGuardLaw" 67 (7, 154, 1) := by
  simp only [ax_okE]
  exact ⟨mg_t5 181 (by decide +kernel) rfl, mg_t5 182 (by decide +kernel) rfl, mg_t5 183 (by decide +kernel) rfl, mg_t1 10 (by decide +kernel) rfl, by decide +kernel, ⟨rfl, mg_t5 184 (by decide +kernel) rfl, by decide, by decide, by decide⟩⟩
theorem pe_Law_68 : ax_okE mg_TB mg_T0 "MailGuardLaw" 68 (26, 3, 3) := by
  simp only [ax_okE]
  exact ⟨mg_t3 212 (by decide +kernel) rfl, mg_t3 213 (by decide +kernel) rfl, mg_t1 0 (by decide +kernel) rfl, by decide +kernel, ⟨by decide, mg_t3 214 (by decide +kernel) rfl, by decide, by decide, by decide⟩⟩
theorem pe_Law_70 : ax_okE mg_TB mg_T0 "MailGuardLaw" 70 (7, 155, 1) := by
  simp only [ax_okE]
  exact ⟨mg_t5 185 (by decide +kernel) rfl, mg_t5 186 (by decide +kernel) rfl, mg_t5 187 (by decide +kernel) rfl, mg_t1 10 (by decide +kernel) rfl, by decide +kernel, ⟨rfl, mg_t5 188 (by decide +kernel) rfl, by decide, by decide, by decide⟩⟩
theorem pe_Law_71 : ax_okE mg_TB mg_T0 "MailGuardLaw" 71 (7, 32, 1) := by
  simp only [ax_okE]
  exact ⟨mg_t2 65 (by decide +kernel) rfl, mg_t2 66 (by decide +kernel) rfl, mg_t2 67 (by decide +kernel) rfl, mg_t1 1 (by decide +kernel) rfl, by decide +kernel, ⟨rfl, mg_t2 68 (by decide +kernel) rfl, by decide, by decide, by decide⟩⟩
theorem pe_Law_74 : ax_okE mg_TB mg_T0 "MailGuardLaw" 74 (7, 163, 1) := by
  simp only [ax_okE]
  exact ⟨mg_t5 216 (by decide +kernel) rfl, mg_t5 217 (by decide +kernel) rfl, mg_t5 218 (by decide +kernel) rfl, mg_t1 10 (by decide +kernel) rfl, by decide +kernel, ⟨rfl, mg_t5 219 (by decide +kernel) rfl, by decide, by decide, by decide⟩⟩
theorem pe_Law (idx : Nat) : ax_okE mg_TB mg_T0 "MailGuardLaw" idx (pl_Law idx) := by
  unfold pl_Law
  split
  · exact pe_Law_7
  · exact pe_Law_8
  · exact pe_Law_13
  · exact pe_Law_15
  · exact pe_Law_17
  · exact pe_Law_20
  · exact pe_Law_23
  · exact pe_Law_24
  · exact pe_Law_26
  · exact pe_Law_27
  · exact pe_Law_29
  · exact pe_Law_33
  · exact pe_Law_34
  · exact pe_Law_37
  · exact pe_Law_38
  · exact pe_Law_42
  · exact pe_Law_43
  · exact pe_Law_48
  · exact pe_Law_49
  · exact pe_Law_52
  · exact pe_Law_56
  · exact pe_Law_57
  · exact pe_Law_59
  · exact pe_Law_60
  · exact pe_Law_63
  · exact pe_Law_64
  · exact pe_Law_67
  · exact pe_Law_68
  · exact pe_Law_70
  · exact pe_Law_71
  · exact pe_Law_74
  · exact trivial
