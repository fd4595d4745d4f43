/-! the tables of this claim for the abstract machine (written by a program) -/
def mg_TB : List Jvm.Cond := lw_tbl.filter ax_gw
theorem mg_of {w : Jvm.Cond} (h : w ∈ lw_tbl) (hg : ax_gw w = true) : w ∈ mg_TB := List.mem_filter.mpr ⟨h, hg⟩
theorem mg_p0 (i : Nat) {w : Jvm.Cond} (h : (k2_sels lw_privs_1)[i]? = some w) (hg : ax_gw w = true) : w ∈ mg_TB := mg_of (List.mem_append_left _ (by
  have h1 := List.mem_of_getElem? h
  unfold k2_sels at h1 ⊢
  rw [show lw_privs = lw_privs_1 ++ (lw_privs_2 ++ (lw_privs_3 ++ lw_privs_4)) from rfl]
  simp only [List.map_append, List.mem_append]
  simp only [h1, true_or, or_true])) hg
theorem mg_p1 (i : Nat) {w : Jvm.Cond} (h : (k2_sels lw_privs_2)[i]? = some w) (hg : ax_gw w = true) : w ∈ mg_TB := mg_of (List.mem_append_left _ (by
  have h1 := List.mem_of_getElem? h
  unfold k2_sels at h1 ⊢
  rw [show lw_privs = lw_privs_1 ++ (lw_privs_2 ++ (lw_privs_3 ++ lw_privs_4)) from rfl]
  simp only [List.map_append, List.mem_append]
  simp only [h1, true_or, or_true])) hg
theorem mg_p2 (i : Nat) {w : Jvm.Cond} (h : (k2_sels lw_privs_3)[i]? = some w) (hg : ax_gw w = true) : w ∈ mg_TB := mg_of (List.mem_append_left _ (by
  have h1 := List.mem_of_getElem? h
  unfold k2_sels at h1 ⊢
  rw [show lw_privs = lw_privs_1 ++ (lw_privs_2 ++ (lw_privs_3 ++ lw_privs_4)) from rfl]
  simp only [List.map_append, List.mem_append]
  simp only [h1, true_or, or_true])) hg
theorem mg_p3 (i : Nat) {w : Jvm.Cond} (h : (k2_sels lw_privs_4)[i]? = some w) (hg : ax_gw w = true) : w ∈ mg_TB := mg_of (List.mem_append_left _ (by
  have h1 := List.mem_of_getElem? h
  unfold k2_sels at h1 ⊢
  rw [show lw_privs = lw_privs_1 ++ (lw_privs_2 ++ (lw_privs_3 ++ lw_privs_4)) from rfl]
  simp only [List.map_append, List.mem_append]
  simp only [h1, true_or, or_true])) hg
theorem mg_t1 (i : Nat) {w : Jvm.Cond} (h : tables_1_1[i]? = some w) (hg : ax_gw w = true) : w ∈ mg_TB := mg_of (List.mem_append_right _ (by
  have h1 := List.mem_of_getElem? h
  rw [show tables_1 = tables_1_1 ++ (tables_1_2 ++ (tables_1_3 ++ (tables_1_4 ++ tables_1_5))) from rfl]
  simp only [List.mem_append]
  simp only [h1, true_or, or_true])) hg
theorem mg_t2 (i : Nat) {w : Jvm.Cond} (h : tables_1_2[i]? = some w) (hg : ax_gw w = true) : w ∈ mg_TB := mg_of (List.mem_append_right _ (by
  have h1 := List.mem_of_getElem? h
  rw [show tables_1 = tables_1_1 ++ (tables_1_2 ++ (tables_1_3 ++ (tables_1_4 ++ tables_1_5))) from rfl]
  simp only [List.mem_append]
  simp only [h1, true_or, or_true])) hg
theorem mg_t3 (i : Nat) {w : Jvm.Cond} (h : tables_1_3[i]? = some w) (hg : ax_gw w = true) : w ∈ mg_TB := mg_of (List.mem_append_right _ (by
  have h1 := List.mem_of_getElem? h
  rw [show tables_1 = tables_1_1 ++ (tables_1_2 ++ (tables_1_3 ++ (tables_1_4 ++ tables_1_5))) from rfl]
  simp only [List.mem_append]
  simp only [h1, true_or, or_true])) hg
theorem mg_t4 (i : Nat) {w : Jvm.Cond} (h : tables_1_4[i]? = some w) (hg : ax_gw w = true) : w ∈ mg_TB := mg_of (List.mem_append_right _ (by
  have h1 := List.mem_of_getElem? h
  rw [show tables_1 = tables_1_1 ++ (tables_1_2 ++ (tables_1_3 ++ (tables_1_4 ++ tables_1_5))) from rfl]
  simp only [List.mem_append]
  simp only [h1, true_or, or_true])) hg
theorem mg_t5 (i : Nat) {w : Jvm.Cond} (h : tables_1_5[i]? = some w) (hg : ax_gw w = true) : w ∈ mg_TB := mg_of (List.mem_append_right _ (by
  have h1 := List.mem_of_getElem? h
  rw [show tables_1 = tables_1_1 ++ (tables_1_2 ++ (tables_1_3 ++ (tables_1_4 ++ tables_1_5))) from rfl]
  simp only [List.mem_append]
  simp only [h1, true_or, or_true])) hg
def F_Guard : u_T := fun k => match k with
  | 0 => ("MailGuard", "text", "LMailGuard$Text;", true)
  | 1 => ("MailGuard", "table", "LMailGuard$Table;", true)
  | 2 => ("MailGuard", "checker", "LMailGuard$Checker;", true)
  | _ => ("MailGuard", "judge", "LMailGuard$Judge;", true)
def t_Guard : Nat → FieldType := fun k => match k with
  | 0 => .object "MailGuard$Text"
  | 1 => .object "MailGuard$Table"
  | 2 => .object "MailGuard$Checker"
  | _ => .object "MailGuard$Judge"
def F_Text : u_T := fun k => match k with
  | 0 => ("MailGuard$Text", "chars", "[C", true)
  | _ => ("MailGuard$Text", "size", "I", false)
def t_Text : Nat → FieldType := fun k => match k with
  | 0 => .array .char
  | _ => .int
def F_Row : u_T := fun k => match k with
  | 0 => ("MailGuard$Row", "kind", "I", false)
  | 1 => ("MailGuard$Row", "name", "LMailGuard$Text;", true)
  | 2 => ("MailGuard$Row", "data", "LMailGuard$Text;", true)
  | _ => ("MailGuard$Row", "address", "I", false)
def t_Row : Nat → FieldType := fun k => match k with
  | 0 => .int
  | 1 => .object "MailGuard$Text"
  | 2 => .object "MailGuard$Text"
  | _ => .int
def F_Table : u_T := fun k => match k with
  | 0 => ("MailGuard$Table", "rows", "[LMailGuard$Row;", true)
  | 1 => ("MailGuard$Table", "count", "I", false)
  | _ => ("MailGuard$Table", "lastAsked", "LMailGuard$Text;", true)
def t_Table : Nat → FieldType := fun k => match k with
  | 0 => .array (.object "MailGuard$Row")
  | 1 => .int
  | _ => .object "MailGuard$Text"
def F_Term : u_T := fun k => match k with
  | 0 => ("MailGuard$Term", "kind", "I", false)
  | 1 => ("MailGuard$Term", "result", "I", false)
  | 2 => ("MailGuard$Term", "targetFrom", "I", false)
  | 3 => ("MailGuard$Term", "targetTo", "I", false)
  | 4 => ("MailGuard$Term", "bits", "I", false)
  | _ => ("MailGuard$Term", "address", "I", false)
def t_Term : Nat → FieldType := fun k => match k with
  | 0 => .int
  | 1 => .int
  | 2 => .int
  | 3 => .int
  | 4 => .int
  | _ => .int
def F_Level : u_T := fun k => match k with
  | 0 => ("MailGuard$Level", "domain", "LMailGuard$Text;", true)
  | _ => ("MailGuard$Level", "term", "LMailGuard$Term;", true)
def t_Level : Nat → FieldType := fun k => match k with
  | 0 => .object "MailGuard$Text"
  | _ => .object "MailGuard$Term"
def F_Checker : u_T := fun k => match k with
  | 0 => ("MailGuard$Checker", "table", "LMailGuard$Table;", true)
  | 1 => ("MailGuard$Checker", "levels", "[LMailGuard$Level;", true)
  | 2 => ("MailGuard$Checker", "expanded", "LMailGuard$Text;", true)
  | 3 => ("MailGuard$Checker", "written", "LMailGuard$Text;", true)
  | 4 => ("MailGuard$Checker", "address", "I", false)
  | 5 => ("MailGuard$Checker", "result", "I", false)
  | 6 => ("MailGuard$Checker", "lookups", "I", false)
  | 7 => ("MailGuard$Checker", "voids", "I", false)
  | 8 => ("MailGuard$Checker", "matched", "I", false)
  | _ => ("MailGuard$Checker", "checks", "I", false)
def t_Checker : Nat → FieldType := fun k => match k with
  | 0 => .object "MailGuard$Table"
  | 1 => .array (.object "MailGuard$Level")
  | 2 => .object "MailGuard$Text"
  | 3 => .object "MailGuard$Text"
  | 4 => .int
  | 5 => .int
  | 6 => .int
  | 7 => .int
  | 8 => .int
  | _ => .int
def F_Policy : u_T := fun k => match k with
  | 0 => ("MailGuard$Policy", "action", "I", false)
  | 1 => ("MailGuard$Policy", "actionBelow", "I", false)
  | 2 => ("MailGuard$Policy", "alignment", "I", false)
  | _ => ("MailGuard$Policy", "percent", "I", false)
def t_Policy : Nat → FieldType := fun k => match k with
  | 0 => .int
  | 1 => .int
  | 2 => .int
  | _ => .int
def F_Judge : u_T := fun k => match k with
  | 0 => ("MailGuard$Judge", "table", "LMailGuard$Table;", true)
  | 1 => ("MailGuard$Judge", "checker", "LMailGuard$Checker;", true)
  | 2 => ("MailGuard$Judge", "found", "LMailGuard$Policy;", true)
  | _ => ("MailGuard$Judge", "policyName", "LMailGuard$Text;", true)
def t_Judge : Nat → FieldType := fun k => match k with
  | 0 => .object "MailGuard$Table"
  | 1 => .object "MailGuard$Checker"
  | 2 => .object "MailGuard$Policy"
  | _ => .object "MailGuard$Text"
def F_Model : u_T := fun k => match k with
  | 0 => ("MailGuardModel", "thrown", "I", false)
  | 1 => ("MailGuardModel", "length", "I", false)
  | 2 => ("MailGuardModel", "text", "[I", false)
  | 3 => ("MailGuardModel", "rows", "I", false)
  | 4 => ("MailGuardModel", "typeOf", "[I", false)
  | 5 => ("MailGuardModel", "row", "[I", false)
  | 6 => ("MailGuardModel", "size", "[I", false)
  | 7 => ("MailGuardModel", "nameSize", "[I", false)
  | 8 => ("MailGuardModel", "addressOf", "[I", false)
  | 9 => ("MailGuardModel", "read", "I", false)
  | 10 => ("MailGuardModel", "nameLength", "I", false)
  | 11 => ("MailGuardModel", "name", "[I", false)
  | 12 => ("MailGuardModel", "askedLength", "I", false)
  | 13 => ("MailGuardModel", "asked", "[I", false)
  | 14 => ("MailGuardModel", "asks", "Z", false)
  | 15 => ("MailGuardModel", "hits", "I", false)
  | 16 => ("MailGuardModel", "hit", "[I", false)
  | 17 => ("MailGuardModel", "long1", "I", false)
  | 18 => ("MailGuardModel", "big", "[I", false)
  | 19 => ("MailGuardModel", "parts", "I", false)
  | 20 => ("MailGuardModel", "partFrom", "[I", false)
  | 21 => ("MailGuardModel", "source", "[I", false)
  | 22 => ("MailGuardModel", "sourceSize", "I", false)
  | 23 => ("MailGuardModel", "deep", "I", false)
  | 24 => ("MailGuardModel", "domain", "[I", false)
  | 25 => ("MailGuardModel", "domainSize", "[I", false)
  | 26 => ("MailGuardModel", "record", "[I", false)
  | 27 => ("MailGuardModel", "place", "[I", false)
  | 28 => ("MailGuardModel", "redirect", "[I", false)
  | 29 => ("MailGuardModel", "redirectEnd", "[I", false)
  | 30 => ("MailGuardModel", "begun", "[I", false)
  | 31 => ("MailGuardModel", "sign", "[I", false)
  | 32 => ("MailGuardModel", "mechanisms", "[I", false)
  | 33 => ("MailGuardModel", "current", "I", false)
  | 34 => ("MailGuardModel", "checked", "Z", false)
  | 35 => ("MailGuardModel", "address", "I", false)
  | 36 => ("MailGuardModel", "result", "I", false)
  | 37 => ("MailGuardModel", "lookups", "I", false)
  | 38 => ("MailGuardModel", "voids", "I", false)
  | 39 => ("MailGuardModel", "matched", "I", false)
  | 40 => ("MailGuardModel", "checks", "I", false)
  | 41 => ("MailGuardModel", "firstSize", "I", false)
  | 42 => ("MailGuardModel", "firstDomain", "[I", false)
  | 43 => ("MailGuardModel", "policyP", "I", false)
  | 44 => ("MailGuardModel", "policySp", "I", false)
  | 45 => ("MailGuardModel", "policyStrict", "I", false)
  | 46 => ("MailGuardModel", "policyPct", "I", false)
  | 47 => ("MailGuardModel", "left", "[I", false)
  | _ => ("MailGuardModel", "right", "[I", false)
def t_Model : Nat → FieldType := fun k => match k with
  | 0 => .int
  | 1 => .int
  | 2 => .array .int
  | 3 => .int
  | 4 => .array .int
  | 5 => .array .int
  | 6 => .array .int
  | 7 => .array .int
  | 8 => .array .int
  | 9 => .int
  | 10 => .int
  | 11 => .array .int
  | 12 => .int
  | 13 => .array .int
  | 14 => .boolean
  | 15 => .int
  | 16 => .array .int
  | 17 => .int
  | 18 => .array .int
  | 19 => .int
  | 20 => .array .int
  | 21 => .array .int
  | 22 => .int
  | 23 => .int
  | 24 => .array .int
  | 25 => .array .int
  | 26 => .array .int
  | 27 => .array .int
  | 28 => .array .int
  | 29 => .array .int
  | 30 => .array .int
  | 31 => .array .int
  | 32 => .array .int
  | 33 => .int
  | 34 => .boolean
  | 35 => .int
  | 36 => .int
  | 37 => .int
  | 38 => .int
  | 39 => .int
  | 40 => .int
  | 41 => .int
  | 42 => .array .int
  | 43 => .int
  | 44 => .int
  | 45 => .int
  | 46 => .int
  | 47 => .array .int
  | _ => .array .int
def mg_cl : List vw_C := [("MailGuard", F_Guard, 4), ("MailGuard$Text", F_Text, 2), ("MailGuard$Row", F_Row, 4), ("MailGuard$Table", F_Table, 3), ("MailGuard$Term", F_Term, 6), ("MailGuard$Level", F_Level, 2), ("MailGuard$Checker", F_Checker, 10), ("MailGuard$Policy", F_Policy, 4), ("MailGuard$Judge", F_Judge, 4), ("MailGuardModel", F_Model, 49)]
def mg_ft (ci k : Nat) : FieldType := match ci with
  | 0 => t_Guard k
  | 1 => t_Text k
  | 2 => t_Row k
  | 3 => t_Table k
  | 4 => t_Term k
  | 5 => t_Level k
  | 6 => t_Checker k
  | 7 => t_Policy k
  | 8 => t_Judge k
  | _ => t_Model k
def mg_ty : List FieldType := [.int, .char, .long, .object "MailGuard$Row", .object "MailGuard$Level"]
def pl_Guard (idx : Nat) : Nat × Nat × Nat := match idx with
  | 3 => (9, 0, 0)
  | 9 => (4, 1, 2)
  | 11 => (8, 5, 1)
  | 14 => (1, 0, 0)
  | 18 => (4, 3, 3)
  | 20 => (8, 6, 0)
  | 21 => (1, 0, 1)
  | 25 => (4, 6, 10)
  | 27 => (8, 8, 1)
  | 30 => (1, 0, 2)
  | 34 => (4, 8, 4)
  | 36 => (8, 11, 2)
  | 39 => (1, 0, 3)
  | 43 => (6, 14, 2)
  | 47 => (7, 15, 0)
  | 51 => (7, 16, 1)
  | 55 => (7, 18, 0)
  | 58 => (7, 36, 1)
  | 62 => (10, 1, 64)
  | 65 => (7, 33, 0)
  | 68 => (10, 2, 70)
  | 71 => (7, 42, 2)
  | 75 => (7, 21, 1)
  | 78 => (7, 46, 0)
  | 82 => (7, 47, 2)
  | 85 => (17, 51, 1)
  | 89 => (7, 85, 1)
  | 92 => (7, 23, 0)
  | 95 => (7, 24, 0)
  | 98 => (7, 25, 0)
  | 101 => (7, 26, 0)
  | 104 => (7, 27, 0)
  | 107 => (7, 28, 0)
  | 110 => (7, 30, 0)
  | 114 => (7, 31, 1)
  | 118 => (7, 87, 2)
  | 122 => (7, 34, 1)
  | 125 => (2, 2, 0)
  | 131 => (7, 37, 3)
  | 135 => (7, 38, 2)
  | 138 => (7, 40, 2)
  | 142 => (11, 18446744073709551615, 0)
  | _ => (0, 0, 0)
def pl_Text (idx : Nat) : Nat × Nat × Nat := match idx with
  | 3 => (9, 0, 0)
  | 9 => (1, 1, 0)
  | 15 => (1, 1, 1)
  | 19 => (14, 0, 0)
  | 25 => (15, 0, 0)
  | 29 => (7, 16, 1)
  | 33 => (7, 78, 1)
  | 37 => (7, 31, 1)
  | 40 => (7, 44, 3)
  | 44 => (7, 38, 2)
  | 48 => (6, 39, 1)
  | 52 => (7, 41, 3)
  | 56 => (11, 18446744073709551615, 0)
  | _ => (0, 0, 0)
def pl_Row (idx : Nat) : Nat × Nat × Nat := match idx with
  | 3 => (9, 0, 0)
  | 9 => (4, 1, 2)
  | 11 => (8, 5, 1)
  | 14 => (1, 2, 1)
  | 20 => (1, 2, 2)
  | 23 => (7, 15, 0)
  | 27 => (7, 37, 3)
  | 31 => (1, 2, 0)
  | 35 => (7, 18, 0)
  | 38 => (7, 44, 3)
  | 42 => (7, 40, 2)
  | 46 => (1, 2, 3)
  | 48 => (7, 54, 3)
  | _ => (0, 0, 0)
def pl_Table (idx : Nat) : Nat × Nat × Nat := match idx with
  | 3 => (9, 0, 0)
  | 9 => (4, 2, 4)
  | 11 => (1, 3, 0)
  | 17 => (4, 1, 2)
  | 19 => (8, 5, 1)
  | 22 => (1, 3, 2)
  | 26 => (18, 7, 0)
  | 27 => (1, 3, 1)
  | 31 => (7, 18, 0)
  | 34 => (7, 43, 2)
  | 38 => (7, 15, 0)
  | 42 => (7, 44, 3)
  | 46 => (2, 2, 1)
  | 49 => (7, 54, 3)
  | 53 => (2, 2, 0)
  | 56 => (6, 89, 2)
  | 60 => (19, 0, 0)
  | 66 => (7, 52, 1)
  | 70 => (7, 90, 1)
  | 73 => (7, 31, 1)
  | _ => (0, 0, 0)
def pl_Term (idx : Nat) : Nat × Nat × Nat := match idx with
  | 3 => (9, 0, 0)
  | 9 => (1, 4, 0)
  | 15 => (1, 4, 2)
  | 18 => (1, 4, 3)
  | 21 => (6, 60, 3)
  | 25 => (7, 62, 4)
  | 29 => (7, 66, 3)
  | 33 => (7, 31, 1)
  | 39 => (6, 61, 1)
  | 43 => (6, 39, 1)
  | 46 => (13, 1, 0)
  | 48 => (7, 57, 3)
  | 52 => (7, 63, 0)
  | 56 => (6, 64, 3)
  | 59 => (7, 67, 1)
  | 62 => (7, 37, 3)
  | 66 => (6, 68, 3)
  | 69 => (7, 41, 3)
  | 73 => (1, 4, 4)
  | 76 => (7, 40, 2)
  | 80 => (7, 69, 1)
  | 84 => (1, 4, 5)
  | 86 => (11, 18446744073709551615, 0)
  | 88 => (1, 4, 1)
  | 91 => (13, 2, 0)
  | 93 => (13, 3, 0)
  | 95 => (13, 4, 0)
  | 97 => (13, 5, 0)
  | 99 => (13, 6, 0)
  | 101 => (13, 7, 0)
  | 103 => (6, 65, 3)
  | _ => (0, 0, 0)
def pl_Level (idx : Nat) : Nat × Nat × Nat := match idx with
  | 3 => (9, 0, 0)
  | 9 => (4, 1, 2)
  | 11 => (8, 5, 1)
  | 14 => (1, 5, 0)
  | 20 => (4, 4, 6)
  | 22 => (18, 10, 0)
  | 23 => (1, 5, 1)
  | _ => (0, 0, 0)
def pl_Checker (idx : Nat) : Nat × Nat × Nat := match idx with
  | 3 => (9, 0, 0)
  | 11 => (4, 5, 2)
  | 13 => (1, 6, 1)
  | 17 => (4, 1, 2)
  | 19 => (8, 5, 1)
  | 22 => (1, 6, 2)
  | 26 => (1, 6, 3)
  | 29 => (1, 6, 5)
  | 33 => (1, 6, 0)
  | 37 => (18, 9, 0)
  | 38 => (1, 6, 6)
  | 41 => (1, 6, 7)
  | 44 => (1, 6, 8)
  | 47 => (1, 6, 9)
  | 50 => (2, 5, 0)
  | 53 => (1, 6, 4)
  | 56 => (7, 18, 0)
  | 59 => (7, 48, 1)
  | 62 => (7, 16, 1)
  | 66 => (7, 49, 0)
  | 70 => (7, 15, 0)
  | 74 => (7, 44, 3)
  | 78 => (7, 50, 0)
  | 83 => (7, 52, 1)
  | 87 => (7, 53, 2)
  | 91 => (7, 33, 0)
  | 94 => (7, 34, 1)
  | 98 => (7, 55, 2)
  | 104 => (2, 2, 2)
  | 107 => (6, 56, 1)
  | 111 => (2, 5, 1)
  | 115 => (6, 58, 2)
  | 119 => (7, 70, 2)
  | 122 => (13, 0, 0)
  | 124 => (14, 0, 0)
  | 129 => (19, 0, 0)
  | 135 => (7, 57, 3)
  | 139 => (7, 31, 1)
  | 142 => (7, 59, 3)
  | 148 => (2, 4, 0)
  | 151 => (7, 71, 0)
  | 155 => (7, 72, 3)
  | 159 => (2, 4, 1)
  | 160 => (2, 4, 2)
  | 163 => (2, 4, 3)
  | 166 => (7, 84, 4)
  | 170 => (7, 74, 0)
  | 173 => (7, 75, 4)
  | 177 => (7, 79, 1)
  | 180 => (2, 4, 5)
  | 181 => (2, 4, 4)
  | 184 => (6, 73, 3)
  | 188 => (7, 63, 0)
  | 191 => (6, 80, 1)
  | 194 => (7, 46, 0)
  | 197 => (7, 81, 2)
  | 200 => (7, 83, 2)
  | 203 => (7, 82, 1)
  | 206 => (7, 51, 1)
  | 209 => (2, 2, 3)
  | 210 => (6, 65, 3)
  | 214 => (7, 76, 4)
  | 217 => (20, 0, 0)
  | 220 => (7, 77, 2)
  | _ => (0, 0, 0)
def pl_Policy (idx : Nat) : Nat × Nat × Nat := match idx with
  | 3 => (9, 0, 0)
  | 9 => (1, 7, 0)
  | 15 => (1, 7, 1)
  | 18 => (1, 7, 2)
  | 21 => (1, 7, 3)
  | 24 => (13, 9, 0)
  | 26 => (14, 0, 0)
  | 32 => (7, 15, 0)
  | 37 => (19, 0, 0)
  | 43 => (7, 57, 3)
  | 47 => (7, 31, 1)
  | 51 => (7, 94, 2)
  | 54 => (7, 95, 2)
  | 57 => (7, 96, 3)
  | 61 => (6, 61, 1)
  | 65 => (7, 37, 3)
  | 69 => (13, 10, 0)
  | 71 => (6, 97, 3)
  | 75 => (13, 14, 0)
  | 77 => (13, 15, 0)
  | 79 => (6, 98, 3)
  | 82 => (13, 18, 0)
  | 84 => (7, 41, 3)
  | 88 => (13, 11, 0)
  | 92 => (13, 12, 0)
  | 94 => (13, 13, 0)
  | 96 => (13, 16, 0)
  | 98 => (13, 17, 0)
  | _ => (0, 0, 0)
def pl_Judge (idx : Nat) : Nat × Nat × Nat := match idx with
  | 3 => (9, 0, 0)
  | 9 => (4, 7, 4)
  | 11 => (18, 12, 0)
  | 12 => (1, 8, 2)
  | 18 => (4, 1, 2)
  | 20 => (8, 5, 1)
  | 23 => (1, 8, 3)
  | 27 => (1, 8, 0)
  | 31 => (1, 8, 1)
  | 35 => (7, 88, 1)
  | 41 => (7, 91, 2)
  | 45 => (7, 99, 2)
  | 49 => (7, 101, 0)
  | 53 => (7, 102, 0)
  | 56 => (7, 103, 0)
  | 59 => (7, 18, 0)
  | 62 => (13, 8, 0)
  | 64 => (7, 92, 1)
  | 68 => (7, 15, 0)
  | 71 => (7, 44, 3)
  | 75 => (7, 53, 2)
  | 78 => (7, 33, 0)
  | 81 => (7, 34, 1)
  | 85 => (7, 55, 2)
  | 91 => (2, 2, 2)
  | 94 => (7, 93, 1)
  | 98 => (7, 24, 0)
  | 103 => (7, 49, 0)
  | 107 => (7, 100, 0)
  | 111 => (7, 54, 3)
  | _ => (0, 0, 0)
def pl_Model (idx : Nat) : Nat × Nat × Nat := match idx with
  | 1 => (9, 0, 0)
  | 7 => (1, 9, 2)
  | 13 => (1, 9, 4)
  | 16 => (1, 9, 5)
  | 19 => (1, 9, 6)
  | 22 => (1, 9, 7)
  | 25 => (1, 9, 8)
  | 28 => (1, 9, 11)
  | 31 => (1, 9, 13)
  | 34 => (1, 9, 16)
  | 37 => (1, 9, 18)
  | 40 => (1, 9, 20)
  | 43 => (1, 9, 21)
  | 46 => (1, 9, 24)
  | 49 => (1, 9, 25)
  | 52 => (1, 9, 26)
  | 55 => (1, 9, 27)
  | 58 => (1, 9, 28)
  | 61 => (1, 9, 29)
  | 64 => (1, 9, 30)
  | 67 => (1, 9, 31)
  | 70 => (1, 9, 32)
  | 73 => (1, 9, 42)
  | 76 => (1, 9, 47)
  | 79 => (1, 9, 48)
  | 82 => (1, 9, 0)
  | 86 => (1, 9, 1)
  | 89 => (6, 111, 1)
  | 93 => (6, 112, 1)
  | 96 => (1, 9, 9)
  | 99 => (7, 114, 4)
  | 103 => (6, 110, 3)
  | 107 => (7, 113, 3)
  | 111 => (1, 9, 3)
  | 114 => (1, 9, 10)
  | 117 => (1, 9, 14)
  | 121 => (1, 9, 12)
  | 124 => (1, 9, 15)
  | 127 => (7, 122, 1)
  | 130 => (7, 131, 3)
  | 134 => (1, 9, 17)
  | 137 => (1, 9, 22)
  | 140 => (1, 9, 23)
  | 143 => (1, 9, 35)
  | 146 => (7, 144, 1)
  | 150 => (1, 9, 41)
  | 153 => (1, 9, 19)
  | 156 => (7, 142, 1)
  | 159 => (7, 143, 1)
  | 162 => (7, 145, 2)
  | 166 => (7, 125, 2)
  | 170 => (7, 124, 5)
  | 174 => (7, 134, 3)
  | 177 => (7, 130, 4)
  | 181 => (7, 135, 3)
  | 184 => (7, 127, 2)
  | 187 => (7, 128, 3)
  | 190 => (7, 129, 3)
  | 194 => (6, 132, 1)
  | 197 => (7, 133, 3)
  | 200 => (1, 9, 36)
  | 203 => (1, 9, 40)
  | 206 => (7, 118, 1)
  | 209 => (7, 120, 1)
  | 212 => (7, 121, 1)
  | 215 => (7, 119, 1)
  | 218 => (7, 123, 1)
  | 221 => (7, 126, 1)
  | 224 => (1, 9, 39)
  | 227 => (1, 9, 37)
  | 230 => (7, 148, 0)
  | 234 => (6, 139, 3)
  | 237 => (1, 9, 38)
  | 240 => (7, 149, 1)
  | 243 => (7, 150, 0)
  | 246 => (7, 151, 1)
  | 250 => (7, 152, 0)
  | 253 => (7, 140, 0)
  | 257 => (7, 141, 3)
  | 260 => (7, 146, 0)
  | 263 => (1, 9, 33)
  | 266 => (7, 117, 2)
  | 270 => (7, 147, 1)
  | 273 => (6, 137, 1)
  | 276 => (7, 138, 4)
  | 280 => (1, 9, 34)
  | 283 => (7, 136, 0)
  | 286 => (1, 9, 43)
  | 289 => (7, 161, 3)
  | 292 => (1, 9, 44)
  | 295 => (1, 9, 45)
  | 298 => (1, 9, 46)
  | 301 => (7, 159, 2)
  | 304 => (7, 160, 4)
  | 308 => (7, 158, 1)
  | 311 => (7, 156, 2)
  | 315 => (7, 157, 3)
  | 318 => (6, 162, 6)
  | _ => (0, 0, 0)
def pl_Law (idx : Nat) : Nat × Nat × Nat := match idx with
  | 7 => (7, 35, 1)
  | 8 => (4, 0, 4)
  | 13 => (12, 1, 0)
  | 15 => (12, 2, 0)
  | 17 => (7, 45, 1)
  | 20 => (7, 86, 1)
  | 23 => (8, 4, 0)
  | 24 => (4, 9, 49)
  | 26 => (8, 104, 0)
  | 27 => (11, 4294967295, 0)
  | 29 => (7, 13, 1)
  | 33 => (7, 106, 1)
  | 34 => (7, 17, 0)
  | 37 => (7, 107, 0)
  | 38 => (7, 19, 0)
  | 42 => (7, 108, 0)
  | 43 => (26, 1, 3)
  | 48 => (7, 109, 1)
  | 49 => (7, 105, 0)
  | 52 => (7, 20, 1)
  | 56 => (7, 115, 1)
  | 57 => (26, 2, 3)
  | 59 => (7, 116, 1)
  | 60 => (7, 22, 1)
  | 63 => (7, 153, 1)
  | 64 => (7, 29, 1)
  | 67 => (7, 154, 1)
  | 68 => (26, 3, 3)
  | 70 => (7, 155, 1)
  | 71 => (7, 32, 1)
  | 74 => (7, 163, 1)
  | _ => (0, 0, 0)
def pl_none (_ : Nat) : Nat × Nat × Nat := (0, 0, 0)
abbrev mg_e : Type := (MethodName × ByteArray × Nat × Option FieldType) × (Nat → Nat × Nat × Nat) × List (Nat × Nat × Nat × Nat)
def mg_ms0 : List mg_e := [((⟨"MailGuardLaw", "law", "([I)Z"⟩, code, 7, (some FieldType.boolean)), pl_Law, []),
  ((⟨"MailGuardLaw", "row", "(LMailGuard;I[J)I"⟩, method_3_code, 4, (some FieldType.int)), pl_Law, [(0, 9, 12, 13), (0, 9, 15, 15)]),
  ((⟨"MailGuardLaw", "check", "(LMailGuard;I[J)I"⟩, method_4_code, 4, (some FieldType.int)), pl_Law, [(0, 9, 12, 13)]),
  ((⟨"MailGuardLaw", "policy", "(LMailGuard;I[J)I"⟩, method_5_code, 4, (some FieldType.int)), pl_Law, [(0, 9, 12, 13), (0, 9, 15, 15)]),
  ((⟨"MailGuard", "<init>", "()V"⟩, prog_1_method_1_code, 1, none), pl_Guard, []),
  ((⟨"MailGuard$Text", "<init>", "(I)V"⟩, prog_9_method_1_code, 2, none), pl_Text, []),
  ((⟨"MailGuard$Table", "<init>", "()V"⟩, prog_7_method_1_code, 2, none), pl_Table, []),
  ((⟨"MailGuard$Row", "<init>", "()V"⟩, prog_6_method_1_code, 1, none), pl_Row, []),
  ((⟨"MailGuard$Checker", "<init>", "(LMailGuard$Table;)V"⟩, prog_2_method_1_code, 3, none), pl_Checker, []),
  ((⟨"MailGuard$Level", "<init>", "()V"⟩, prog_4_method_1_code, 1, none), pl_Level, []),
  ((⟨"MailGuard$Term", "<init>", "()V"⟩, prog_8_method_1_code, 1, none), pl_Term, []),
  ((⟨"MailGuard$Judge", "<init>", "(LMailGuard$Table;LMailGuard$Checker;)V"⟩, prog_3_method_1_code, 3, none), pl_Judge, []),
  ((⟨"MailGuard$Policy", "<init>", "()V"⟩, prog_5_method_1_code, 1, none), pl_Policy, []),
  ((⟨"MailGuard", "type", "(J)Z"⟩, prog_1_method_2_code, 6, (some FieldType.boolean)), pl_Guard, []),
  ((⟨"MailGuard", "byteAt", "(JI)I"⟩, prog_1_method_12_code, 3, (some FieldType.int)), pl_Guard, []),
  ((⟨"MailGuard$Text", "size", "()I"⟩, prog_9_method_2_code, 1, (some FieldType.int)), pl_Text, []),
  ((⟨"MailGuard$Text", "add", "(C)V"⟩, prog_9_method_5_code, 2, none), pl_Text, []),
  ((⟨"MailGuard", "wipe", "()V"⟩, prog_1_method_3_code, 1, none), pl_Guard, []),
  ((⟨"MailGuard$Text", "clear", "()V"⟩, prog_9_method_4_code, 1, none), pl_Text, []),
  ((⟨"MailGuard", "length", "()I"⟩, prog_1_method_4_code, 1, (some FieldType.int)), pl_Guard, [])]
def mg_ms1 : List mg_e := [((⟨"MailGuard", "drop", "(I)Z"⟩, prog_1_method_6_code, 2, (some FieldType.boolean)), pl_Guard, []),
  ((⟨"MailGuard$Table", "remove", "(I)Z"⟩, prog_7_method_7_code, 4, (some FieldType.boolean)), pl_Table, []),
  ((⟨"MailGuard", "latest", "(I)I"⟩, prog_1_method_8_code, 2, (some FieldType.int)), pl_Guard, []),
  ((⟨"MailGuard$Checker", "hasResult", "()Z"⟩, prog_2_method_2_code, 1, (some FieldType.boolean)), pl_Checker, []),
  ((⟨"MailGuard$Checker", "result", "()I"⟩, prog_2_method_3_code, 1, (some FieldType.int)), pl_Checker, []),
  ((⟨"MailGuard$Checker", "lookups", "()I"⟩, prog_2_method_4_code, 1, (some FieldType.int)), pl_Checker, []),
  ((⟨"MailGuard$Checker", "voids", "()I"⟩, prog_2_method_5_code, 1, (some FieldType.int)), pl_Checker, []),
  ((⟨"MailGuard$Checker", "matched", "()I"⟩, prog_2_method_6_code, 1, (some FieldType.int)), pl_Checker, []),
  ((⟨"MailGuard$Checker", "checks", "()I"⟩, prog_2_method_7_code, 1, (some FieldType.int)), pl_Checker, []),
  ((⟨"MailGuard", "asked", "(I)I"⟩, prog_1_method_9_code, 3, (some FieldType.int)), pl_Guard, []),
  ((⟨"MailGuard$Table", "lastAsked", "()LMailGuard$Text;"⟩, prog_7_method_4_code, 1, (some (FieldType.object "MailGuard$Text"))), pl_Table, []),
  ((⟨"MailGuard$Text", "at", "(I)C"⟩, prog_9_method_3_code, 2, (some FieldType.char)), pl_Text, []),
  ((⟨"MailGuard", "rows", "(I)I"⟩, prog_1_method_11_code, 3, (some FieldType.int)), pl_Guard, []),
  ((⟨"MailGuard$Table", "count", "()I"⟩, prog_7_method_2_code, 1, (some FieldType.int)), pl_Table, []),
  ((⟨"MailGuard$Table", "at", "(I)LMailGuard$Row;"⟩, prog_7_method_3_code, 2, (some (FieldType.object "MailGuard$Row"))), pl_Table, []),
  ((⟨"MailGuard", "row", "(I)I"⟩, prog_1_method_5_code, 2, (some FieldType.int)), pl_Guard, []),
  ((⟨"MailGuard", "textIsRow", "(I)Z"⟩, prog_1_method_13_code, 4, (some FieldType.boolean)), pl_Guard, []),
  ((⟨"MailGuard$Text", "find", "(CII)I"⟩, prog_9_method_17_code, 5, (some FieldType.int)), pl_Text, []),
  ((⟨"MailGuard$Text", "isName", "(II)Z"⟩, prog_9_method_19_code, 6, (some FieldType.boolean)), pl_Text, []),
  ((⟨"MailGuard$Text", "isLabelCharacter", "(C)Z"⟩, prog_9_method_23_code, 1, (some FieldType.boolean)), pl_Text, [])]
def mg_ms2 : List mg_e := [((⟨"MailGuard$Text", "address", "(II)J"⟩, prog_9_method_21_code, 9, (some FieldType.long)), pl_Text, []),
  ((⟨"MailGuard$Text", "number", "(III)I"⟩, prog_9_method_20_code, 8, (some FieldType.int)), pl_Text, []),
  ((⟨"MailGuard$Table", "append", "(ILMailGuard$Text;)V"⟩, prog_7_method_6_code, 3, none), pl_Table, []),
  ((⟨"MailGuard$Row", "fill", "(ILMailGuard$Text;)V"⟩, prog_6_method_2_code, 4, none), pl_Row, []),
  ((⟨"MailGuard$Text", "addPart", "(LMailGuard$Text;II)V"⟩, prog_9_method_6_code, 5, none), pl_Text, []),
  ((⟨"MailGuard", "check", "(I)I"⟩, prog_1_method_7_code, 3, (some FieldType.int)), pl_Guard, []),
  ((⟨"MailGuard$Text", "isName", "()Z"⟩, prog_9_method_18_code, 1, (some FieldType.boolean)), pl_Text, []),
  ((⟨"MailGuard$Checker", "begin", "(ILMailGuard$Text;)V"⟩, prog_2_method_9_code, 4, none), pl_Checker, []),
  ((⟨"MailGuard$Text", "addByte", "(I)V"⟩, prog_9_method_8_code, 2, none), pl_Text, []),
  ((⟨"MailGuard$Checker", "firstDomain", "()LMailGuard$Text;"⟩, prog_2_method_8_code, 1, (some (FieldType.object "MailGuard$Text"))), pl_Checker, []),
  ((⟨"MailGuard$Table", "forgetAsked", "()V"⟩, prog_7_method_5_code, 1, none), pl_Table, []),
  ((⟨"MailGuard$Checker", "evaluate", "(I)I"⟩, prog_2_method_11_code, 6, (some FieldType.int)), pl_Checker, []),
  ((⟨"MailGuard$Text", "startOfLast", "(I)I"⟩, prog_9_method_11_code, 4, (some FieldType.int)), pl_Text, []),
  ((⟨"MailGuard$Table", "ask", "(LMailGuard$Text;I)I"⟩, prog_7_method_8_code, 5, (some FieldType.int)), pl_Table, []),
  ((⟨"MailGuard$Text", "same", "(ILMailGuard$Text;I)Z"⟩, prog_9_method_13_code, 5, (some FieldType.boolean)), pl_Text, []),
  ((⟨"MailGuard$Row", "is", "(ILMailGuard$Text;)Z"⟩, prog_6_method_3_code, 3, (some FieldType.boolean)), pl_Row, []),
  ((⟨"MailGuard$Checker", "isRecord", "(LMailGuard$Text;)Z"⟩, prog_2_method_12_code, 2, (some FieldType.boolean)), pl_Checker, []),
  ((⟨"MailGuard$Text", "isWord", "(IILjava/lang/String;)Z"⟩, prog_9_method_16_code, 5, (some FieldType.boolean)), pl_Text, []),
  ((⟨"MailGuard$Checker", "hasTermsAlone", "(LMailGuard$Text;LMailGuard$Term;)Z"⟩, prog_2_method_13_code, 5, (some FieldType.boolean)), pl_Checker, []),
  ((⟨"MailGuard$Term", "read", "(LMailGuard$Text;II)Z"⟩, prog_8_method_4_code, 5, (some FieldType.boolean)), pl_Term, [])]
def mg_ms3 : List mg_e := [((⟨"MailGuard$Term", "endOfModifierName", "(LMailGuard$Text;II)I"⟩, prog_8_method_5_code, 5, (some FieldType.int)), pl_Term, []),
  ((⟨"MailGuard$Text", "isLetter", "(C)Z"⟩, prog_9_method_22_code, 1, (some FieldType.boolean)), pl_Text, []),
  ((⟨"MailGuard$Term", "readModifier", "(LMailGuard$Text;III)Z"⟩, prog_8_method_6_code, 5, (some FieldType.boolean)), pl_Term, []),
  ((⟨"MailGuard$Term", "hasTarget", "()Z"⟩, prog_8_method_3_code, 1, (some FieldType.boolean)), pl_Term, []),
  ((⟨"MailGuard$Term", "isTarget", "(LMailGuard$Text;II)Z"⟩, prog_8_method_11_code, 5, (some FieldType.boolean)), pl_Term, []),
  ((⟨"MailGuard$Term", "endOfMacro", "(LMailGuard$Text;II)I"⟩, prog_8_method_12_code, 5, (some FieldType.int)), pl_Term, []),
  ((⟨"MailGuard$Term", "readMechanism", "(LMailGuard$Text;II)Z"⟩, prog_8_method_7_code, 9, (some FieldType.boolean)), pl_Term, []),
  ((⟨"MailGuard$Term", "readSign", "(C)Z"⟩, prog_8_method_9_code, 2, (some FieldType.boolean)), pl_Term, []),
  ((⟨"MailGuard$Term", "kindOf", "(LMailGuard$Text;II)I"⟩, prog_8_method_10_code, 3, (some FieldType.int)), pl_Term, []),
  ((⟨"MailGuard$Term", "readAddress", "(J)Z"⟩, prog_8_method_8_code, 3, (some FieldType.boolean)), pl_Term, []),
  ((⟨"MailGuard$Checker", "goThrough", "(LMailGuard$Text;I)I"⟩, prog_2_method_14_code, 10, (some FieldType.int)), pl_Checker, []),
  ((⟨"MailGuard$Term", "isMechanism", "()Z"⟩, prog_8_method_2_code, 1, (some FieldType.boolean)), pl_Term, []),
  ((⟨"MailGuard$Checker", "matches", "(LMailGuard$Text;LMailGuard$Term;I)I"⟩, prog_2_method_16_code, 5, (some FieldType.int)), pl_Checker, []),
  ((⟨"MailGuard$Checker", "sameBits", "(III)Z"⟩, prog_2_method_23_code, 3, (some FieldType.boolean)), pl_Checker, []),
  ((⟨"MailGuard$Checker", "spendLookup", "()Z"⟩, prog_2_method_17_code, 1, (some FieldType.boolean)), pl_Checker, []),
  ((⟨"MailGuard$Checker", "expand", "(LMailGuard$Text;IILMailGuard$Text;)V"⟩, prog_2_method_24_code, 8, none), pl_Checker, []),
  ((⟨"MailGuard$Checker", "expandMacro", "(LMailGuard$Text;IILMailGuard$Text;)V"⟩, prog_2_method_25_code, 9, none), pl_Checker, []),
  ((⟨"MailGuard$Text", "addReversed", "(LMailGuard$Text;I)V"⟩, prog_9_method_9_code, 5, none), pl_Text, []),
  ((⟨"MailGuard$Text", "endOfFirst", "(I)I"⟩, prog_9_method_10_code, 4, (some FieldType.int)), pl_Text, []),
  ((⟨"MailGuard$Checker", "evaluateExpanded", "(I)I"⟩, prog_2_method_18_code, 5, (some FieldType.int)), pl_Checker, [])]
def mg_ms4 : List mg_e := [((⟨"MailGuard$Checker", "matchOfInclude", "(I)I"⟩, prog_2_method_19_code, 1, (some FieldType.int)), pl_Checker, []),
  ((⟨"MailGuard$Checker", "hostsMatch", "(LMailGuard$Text;I)I"⟩, prog_2_method_21_code, 6, (some FieldType.int)), pl_Checker, []),
  ((⟨"MailGuard$Checker", "matchOfCount", "(I)I"⟩, prog_2_method_20_code, 2, (some FieldType.int)), pl_Checker, []),
  ((⟨"MailGuard$Checker", "mailsMatch", "(LMailGuard$Text;I)I"⟩, prog_2_method_22_code, 8, (some FieldType.int)), pl_Checker, []),
  ((⟨"MailGuard$Checker", "redirected", "(LMailGuard$Text;III)I"⟩, prog_2_method_15_code, 5, (some FieldType.int)), pl_Checker, []),
  ((⟨"MailGuard$Checker", "end", "(I)V"⟩, prog_2_method_10_code, 2, none), pl_Checker, []),
  ((⟨"MailGuard", "policy", "(I)I"⟩, prog_1_method_10_code, 3, (some FieldType.int)), pl_Guard, []),
  ((⟨"MailGuard$Judge", "verdict", "(LMailGuard$Text;I)I"⟩, prog_3_method_2_code, 7, (some FieldType.int)), pl_Judge, []),
  ((⟨"MailGuard$Table", "organisation", "(LMailGuard$Text;)I"⟩, prog_7_method_9_code, 4, (some FieldType.int)), pl_Table, []),
  ((⟨"MailGuard$Table", "startOfSuffix", "(LMailGuard$Text;LMailGuard$Text;)I"⟩, prog_7_method_10_code, 4, (some FieldType.int)), pl_Table, []),
  ((⟨"MailGuard$Text", "startOfPartAhead", "(I)I"⟩, prog_9_method_12_code, 3, (some FieldType.int)), pl_Text, []),
  ((⟨"MailGuard$Judge", "findPolicy", "(LMailGuard$Text;I)I"⟩, prog_3_method_3_code, 7, (some FieldType.int)), pl_Judge, []),
  ((⟨"MailGuard$Text", "addWord", "(Ljava/lang/String;)V"⟩, prog_9_method_7_code, 3, none), pl_Text, []),
  ((⟨"MailGuard$Policy", "read", "(LMailGuard$Text;)Z"⟩, prog_5_method_6_code, 7, (some FieldType.boolean)), pl_Policy, []),
  ((⟨"MailGuard$Text", "startWithoutBlanks", "(II)I"⟩, prog_9_method_14_code, 4, (some FieldType.int)), pl_Text, []),
  ((⟨"MailGuard$Text", "endWithoutBlanks", "(II)I"⟩, prog_9_method_15_code, 4, (some FieldType.int)), pl_Text, []),
  ((⟨"MailGuard$Policy", "readTag", "(LMailGuard$Text;II)Z"⟩, prog_5_method_7_code, 6, (some FieldType.boolean)), pl_Policy, []),
  ((⟨"MailGuard$Policy", "actionOf", "(LMailGuard$Text;II)I"⟩, prog_5_method_8_code, 3, (some FieldType.int)), pl_Policy, []),
  ((⟨"MailGuard$Policy", "alignmentOf", "(LMailGuard$Text;II)I"⟩, prog_5_method_9_code, 3, (some FieldType.int)), pl_Policy, []),
  ((⟨"MailGuard$Judge", "isAligned", "(LMailGuard$Text;I)Z"⟩, prog_3_method_4_code, 4, (some FieldType.boolean)), pl_Judge, [])]
def mg_ms5 : List mg_e := [((⟨"MailGuard$Policy", "isStrict", "()Z"⟩, prog_5_method_4_code, 1, (some FieldType.boolean)), pl_Policy, []),
  ((⟨"MailGuard$Policy", "actionBelow", "()I"⟩, prog_5_method_3_code, 1, (some FieldType.int)), pl_Policy, []),
  ((⟨"MailGuard$Policy", "action", "()I"⟩, prog_5_method_2_code, 1, (some FieldType.int)), pl_Policy, []),
  ((⟨"MailGuard$Policy", "percent", "()I"⟩, prog_5_method_5_code, 1, (some FieldType.int)), pl_Policy, []),
  ((⟨"MailGuardModel", "<init>", "()V"⟩, prog_11_method_1_code, 1, none), pl_Model, []),
  ((⟨"MailGuardModel", "thrown", "()I"⟩, prog_11_method_2_code, 1, (some FieldType.int)), pl_Model, []),
  ((⟨"MailGuardModel", "type", "(J)Z"⟩, prog_11_method_3_code, 6, (some FieldType.boolean)), pl_Model, []),
  ((⟨"MailGuardModel", "wipe", "()V"⟩, prog_11_method_4_code, 1, none), pl_Model, []),
  ((⟨"MailGuardModel", "length", "()I"⟩, prog_11_method_5_code, 1, (some FieldType.int)), pl_Model, []),
  ((⟨"MailGuardModel", "row", "(I)I"⟩, prog_11_method_11_code, 6, (some FieldType.int)), pl_Model, []),
  ((⟨"MailGuardModel", "isName", "([III)Z"⟩, prog_11_method_8_code, 7, (some FieldType.boolean)), pl_Model, []),
  ((⟨"MailGuardModel", "isSmall", "(I)Z"⟩, prog_11_method_7_code, 1, (some FieldType.boolean)), pl_Model, []),
  ((⟨"MailGuardModel", "isDigit", "(I)Z"⟩, prog_11_method_6_code, 1, (some FieldType.boolean)), pl_Model, []),
  ((⟨"MailGuardModel", "readAddress", "([III)I"⟩, prog_11_method_10_code, 8, (some FieldType.int)), pl_Model, []),
  ((⟨"MailGuardModel", "number", "([IIII)I"⟩, prog_11_method_9_code, 7, (some FieldType.int)), pl_Model, []),
  ((⟨"MailGuardModel", "drop", "(I)Z"⟩, prog_11_method_12_code, 4, (some FieldType.boolean)), pl_Model, []),
  ((⟨"MailGuardModel", "check", "(I)I"⟩, prog_11_method_49_code, 3, (some FieldType.int)), pl_Model, []),
  ((⟨"MailGuardModel", "begin", "(II)V"⟩, prog_11_method_34_code, 6, none), pl_Model, []),
  ((⟨"MailGuardModel", "comes", "(I)V"⟩, prog_11_method_37_code, 5, none), pl_Model, []),
  ((⟨"MailGuardModel", "end", "(I)V"⟩, prog_11_method_33_code, 2, none), pl_Model, [])]
def mg_ms6 : List mg_e := [((⟨"MailGuardModel", "findRecord", "(I)V"⟩, prog_11_method_36_code, 4, none), pl_Model, []),
  ((⟨"MailGuardModel", "ask", "(I)Z"⟩, prog_11_method_14_code, 4, (some FieldType.boolean)), pl_Model, []),
  ((⟨"MailGuardModel", "bears", "(I)Z"⟩, prog_11_method_13_code, 4, (some FieldType.boolean)), pl_Model, []),
  ((⟨"MailGuardModel", "counts", "(I)Z"⟩, prog_11_method_35_code, 4, (some FieldType.boolean)), pl_Model, []),
  ((⟨"MailGuardModel", "word", "(IIIII)Z"⟩, prog_11_method_26_code, 6, (some FieldType.boolean)), pl_Model, []),
  ((⟨"MailGuardModel", "at", "(II)I"⟩, prog_11_method_23_code, 3, (some FieldType.int)), pl_Model, []),
  ((⟨"MailGuardModel", "terms", "(I)Z"⟩, prog_11_method_32_code, 7, (some FieldType.boolean)), pl_Model, []),
  ((⟨"MailGuardModel", "termEnd", "(II)I"⟩, prog_11_method_24_code, 4, (some FieldType.int)), pl_Model, []),
  ((⟨"MailGuardModel", "modifier", "(III)I"⟩, prog_11_method_25_code, 6, (some FieldType.int)), pl_Model, []),
  ((⟨"MailGuardModel", "isRedirect", "(III)Z"⟩, prog_11_method_31_code, 4, (some FieldType.boolean)), pl_Model, []),
  ((⟨"MailGuardModel", "isTarget", "(IIIZ)Z"⟩, prog_11_method_16_code, 7, (some FieldType.boolean)), pl_Model, []),
  ((⟨"MailGuardModel", "macroEnd", "(III)I"⟩, prog_11_method_15_code, 8, (some FieldType.int)), pl_Model, []),
  ((⟨"MailGuardModel", "isSign", "(I)Z"⟩, prog_11_method_27_code, 1, (some FieldType.boolean)), pl_Model, []),
  ((⟨"MailGuardModel", "isMechanism", "(III)Z"⟩, prog_11_method_30_code, 9, (some FieldType.boolean)), pl_Model, []),
  ((⟨"MailGuardModel", "mechanism", "(III)I"⟩, prog_11_method_28_code, 7, (some FieldType.int)), pl_Model, []),
  ((⟨"MailGuardModel", "slash", "(III)I"⟩, prog_11_method_29_code, 5, (some FieldType.int)), pl_Model, []),
  ((⟨"MailGuardModel", "step", "()V"⟩, prog_11_method_48_code, 9, none), pl_Model, []),
  ((⟨"MailGuardModel", "meaning", "(I)I"⟩, prog_11_method_38_code, 1, (some FieldType.int)), pl_Model, []),
  ((⟨"MailGuardModel", "does", "(IIII)I"⟩, prog_11_method_47_code, 10, (some FieldType.int)), pl_Model, []),
  ((⟨"MailGuardModel", "alike", "(III)Z"⟩, prog_11_method_40_code, 3, (some FieldType.boolean)), pl_Model, [])]
def mg_ms7 : List mg_e := [((⟨"MailGuardModel", "lookUp", "()Z"⟩, prog_11_method_39_code, 1, (some FieldType.boolean)), pl_Model, []),
  ((⟨"MailGuardModel", "expand", "(III)Z"⟩, prog_11_method_21_code, 10, (some FieldType.boolean)), pl_Model, []),
  ((⟨"MailGuardModel", "put", "(I)V"⟩, prog_11_method_17_code, 2, none), pl_Model, []),
  ((⟨"MailGuardModel", "fetch", "(I)V"⟩, prog_11_method_19_code, 5, none), pl_Model, []),
  ((⟨"MailGuardModel", "sourceNumber", "(I)V"⟩, prog_11_method_18_code, 2, none), pl_Model, []),
  ((⟨"MailGuardModel", "putParts", "(IZ)V"⟩, prog_11_method_20_code, 7, none), pl_Model, []),
  ((⟨"MailGuardModel", "nameDomain", "()V"⟩, prog_11_method_22_code, 3, none), pl_Model, []),
  ((⟨"MailGuardModel", "mails", "(I)I"⟩, prog_11_method_43_code, 8, (some FieldType.int)), pl_Model, []),
  ((⟨"MailGuardModel", "empty", "()I"⟩, prog_11_method_42_code, 1, (some FieldType.int)), pl_Model, []),
  ((⟨"MailGuardModel", "isOf", "(I)Z"⟩, prog_11_method_44_code, 2, (some FieldType.boolean)), pl_Model, []),
  ((⟨"MailGuardModel", "saveName", "()V"⟩, prog_11_method_45_code, 2, none), pl_Model, []),
  ((⟨"MailGuardModel", "hosts", "(I)I"⟩, prog_11_method_41_code, 4, (some FieldType.int)), pl_Model, []),
  ((⟨"MailGuardModel", "loadName", "()V"⟩, prog_11_method_46_code, 2, none), pl_Model, []),
  ((⟨"MailGuardModel", "latest", "(I)I"⟩, prog_11_method_50_code, 2, (some FieldType.int)), pl_Model, []),
  ((⟨"MailGuardModel", "asked", "(I)I"⟩, prog_11_method_51_code, 2, (some FieldType.int)), pl_Model, []),
  ((⟨"MailGuardModel", "policy", "(I)I"⟩, prog_11_method_59_code, 11, (some FieldType.int)), pl_Model, []),
  ((⟨"MailGuardModel", "organisation", "([II)I"⟩, prog_11_method_52_code, 8, (some FieldType.int)), pl_Model, []),
  ((⟨"MailGuardModel", "seek", "([III)I"⟩, prog_11_method_57_code, 7, (some FieldType.int)), pl_Model, []),
  ((⟨"MailGuardModel", "isPolicy", "(I)Z"⟩, prog_11_method_56_code, 6, (some FieldType.boolean)), pl_Model, []),
  ((⟨"MailGuardModel", "blanks", "(II)I"⟩, prog_11_method_55_code, 4, (some FieldType.int)), pl_Model, [])]
def mg_ms8 : List mg_e := [((⟨"MailGuardModel", "tag", "(IIII)Z"⟩, prog_11_method_54_code, 8, (some FieldType.boolean)), pl_Model, []),
  ((⟨"MailGuardModel", "action", "(III)I"⟩, prog_11_method_53_code, 8, (some FieldType.int)), pl_Model, []),
  ((⟨"MailGuardModel", "sameEnds", "([III[III)Z"⟩, prog_11_method_58_code, 8, (some FieldType.boolean)), pl_Model, []),
  ((⟨"MailGuardModel", "rows", "(I)I"⟩, prog_11_method_60_code, 2, (some FieldType.int)), pl_Model, [])]
def mg_m0 : mg_e := ((⟨"MailGuardLaw", "law", "([I)Z"⟩, code, 7, (some FieldType.boolean)), pl_Law, [])
/-- the method mi -/
def mg_m (mi : Nat) : mg_e := match mi / 20 with
  | 0 => mg_ms0.getD (mi % 20) mg_m0
  | 1 => mg_ms1.getD (mi % 20) mg_m0
  | 2 => mg_ms2.getD (mi % 20) mg_m0
  | 3 => mg_ms3.getD (mi % 20) mg_m0
  | 4 => mg_ms4.getD (mi % 20) mg_m0
  | 5 => mg_ms5.getD (mi % 20) mg_m0
  | 6 => mg_ms6.getD (mi % 20) mg_m0
  | 7 => mg_ms7.getD (mi % 20) mg_m0
  | 8 => mg_ms8.getD (mi % 20) mg_m0
  | _ => mg_m0
def mgT (L : Nat) (xs : Nat → Int32) : ax_T := (fun mi => (mg_m mi).1, fun mi idx => (mg_m mi).2.1 idx, mg_cl, mg_ft, mg_ty, fun mi => (mg_m mi).2.2, some (L, xs))
def mg_T0 : ax_T := (fun mi => (mg_m mi).1, fun mi idx => (mg_m mi).2.1 idx, mg_cl, mg_ft, mg_ty, fun mi => (mg_m mi).2.2, none)
