/-! the words of the tables that go on to a callee -/
def gTbl : List Cond := lw_tbl.filter goodWord
theorem gt_in {w : Cond} {i : Nat} (h : tables_1[i]? = some w) (hg : goodWord w = true) : w ∈ gTbl := List.mem_filter.mpr ⟨List.mem_append_right _ (List.mem_of_getElem? h), hg⟩
theorem gt_sel {y : MethodName} {n i : Nat} (h : lw_privs[i]? = some (y, n)) : Cond.selects y.cls y y ∈ gTbl := List.mem_filter.mpr ⟨List.mem_append_left _ (List.mem_map.mpr ⟨(y, n), List.mem_of_getElem? h, rfl⟩), rfl⟩
theorem gTbl_good : ∀ w ∈ gTbl, (w.onTables && w.keeps) = true ∨ ∃ ty, w = .arrayClass ty := fun _ h => good_of_word (List.mem_filter.mp h).2
/-! the classes -/
def R_SD : String := "SpellDesk"
def F_SD : u_T := fun k => match k with
  | 0 => ("SpellDesk", "text", "LSpellDesk$Letters;", true)
  | 1 => ("SpellDesk", "line", "LSpellDesk$Line;", true)
  | 2 => ("SpellDesk", "printer", "LSpellDesk$Printer;", true)
  | 3 => ("SpellDesk", "dictionary", "LSpellDesk$Dictionary;", true)
  | 4 => ("SpellDesk", "prefixes", "LSpellDesk$RuleList;", true)
  | 5 => ("SpellDesk", "suffixes", "LSpellDesk$RuleList;", true)
  | 6 => ("SpellDesk", "speller", "LSpellDesk$Speller;", true)
  | _ => ("SpellDesk", "asked", "LSpellDesk$WordList;", true)
def t_SD : Nat → FieldType := fun k => match k with
  | 0 => .object "SpellDesk$Letters"
  | 1 => .object "SpellDesk$Line"
  | 2 => .object "SpellDesk$Printer"
  | 3 => .object "SpellDesk$Dictionary"
  | 4 => .object "SpellDesk$RuleList"
  | 5 => .object "SpellDesk$RuleList"
  | 6 => .object "SpellDesk$Speller"
  | _ => .object "SpellDesk$WordList"
theorem nm_SD : ∀ a, a < 8 → ∀ b, b < 8 → a ≠ b → (F_SD a).2.1 ≠ (F_SD b).2.1 := by decide +kernel
theorem ty_SD : ∀ k, k < 8 → parseFieldDescriptor (F_SD k).2.2.1 = some (t_SD k) := by decide +kernel
theorem in_SD : ∀ w ∈ u_ws R_SD F_SD 8, w ∈ gTbl := by
  intro w hw
  obtain ⟨k, hk, rfl⟩ := List.mem_map.mp hw
  have hk : k < 8 := List.mem_range.mp hk
  rcases (show k = 0 ∨ k = 1 ∨ k = 2 ∨ k = 3 ∨ k = 4 ∨ k = 5 ∨ k = 6 ∨ k = 7 by omega) with rfl | rfl | rfl | rfl | rfl | rfl | rfl | rfl
  · exact gt_in (i := 247) (by decide +kernel) (by decide +kernel)
  · exact gt_in (i := 249) (by decide +kernel) (by decide +kernel)
  · exact gt_in (i := 251) (by decide +kernel) (by decide +kernel)
  · exact gt_in (i := 253) (by decide +kernel) (by decide +kernel)
  · exact gt_in (i := 255) (by decide +kernel) (by decide +kernel)
  · exact gt_in (i := 257) (by decide +kernel) (by decide +kernel)
  · exact gt_in (i := 259) (by decide +kernel) (by decide +kernel)
  · exact gt_in (i := 261) (by decide +kernel) (by decide +kernel)
def R_Dc : String := "SpellDesk$Dictionary"
def F_Dc : u_T := fun k => match k with
  | _ => ("SpellDesk$Dictionary", "list", "Ljava/util/ArrayList;", true)
def t_Dc : Nat → FieldType := fun k => match k with
  | _ => .object "java/util/ArrayList"
theorem nm_Dc : ∀ a, a < 1 → ∀ b, b < 1 → a ≠ b → (F_Dc a).2.1 ≠ (F_Dc b).2.1 := by decide +kernel
theorem ty_Dc : ∀ k, k < 1 → parseFieldDescriptor (F_Dc k).2.2.1 = some (t_Dc k) := by decide +kernel
theorem in_Dc : ∀ w ∈ u_ws R_Dc F_Dc 1, w ∈ gTbl := by
  intro w hw
  obtain ⟨k, hk, rfl⟩ := List.mem_map.mp hw
  have hk : k < 1 := List.mem_range.mp hk
  rcases (show k = 0 by omega) with rfl
  · exact gt_in (i := 136) (by decide +kernel) (by decide +kernel)
def R_En : String := "SpellDesk$Entry"
def F_En : u_T := fun k => match k with
  | 0 => ("SpellDesk$Entry", "word", "LSpellDesk$Letters;", true)
  | _ => ("SpellDesk$Entry", "flags", "I", false)
def t_En : Nat → FieldType := fun k => match k with
  | 0 => .object "SpellDesk$Letters"
  | _ => .int
theorem nm_En : ∀ a, a < 2 → ∀ b, b < 2 → a ≠ b → (F_En a).2.1 ≠ (F_En b).2.1 := by decide +kernel
theorem ty_En : ∀ k, k < 2 → parseFieldDescriptor (F_En k).2.2.1 = some (t_En k) := by decide +kernel
theorem in_En : ∀ w ∈ u_ws R_En F_En 2, w ∈ gTbl := by
  intro w hw
  obtain ⟨k, hk, rfl⟩ := List.mem_map.mp hw
  have hk : k < 2 := List.mem_range.mp hk
  rcases (show k = 0 ∨ k = 1 by omega) with rfl | rfl
  · exact gt_in (i := 449) (by decide +kernel) (by decide +kernel)
  · exact gt_in (i := 451) (by decide +kernel) (by decide +kernel)
def R_Lt : String := "SpellDesk$Letters"
def F_Lt : u_T := fun k => match k with
  | 0 => ("SpellDesk$Letters", "row", "[C", true)
  | _ => ("SpellDesk$Letters", "count", "I", false)
def t_Lt : Nat → FieldType := fun k => match k with
  | 0 => .array .char
  | _ => .int
theorem nm_Lt : ∀ a, a < 2 → ∀ b, b < 2 → a ≠ b → (F_Lt a).2.1 ≠ (F_Lt b).2.1 := by decide +kernel
theorem ty_Lt : ∀ k, k < 2 → parseFieldDescriptor (F_Lt k).2.2.1 = some (t_Lt k) := by decide +kernel
theorem in_Lt : ∀ w ∈ u_ws R_Lt F_Lt 2, w ∈ gTbl := by
  intro w hw
  obtain ⟨k, hk, rfl⟩ := List.mem_map.mp hw
  have hk : k < 2 := List.mem_range.mp hk
  rcases (show k = 0 ∨ k = 1 by omega) with rfl | rfl
  · exact gt_in (i := 51) (by decide +kernel) (by decide +kernel)
  · exact gt_in (i := 53) (by decide +kernel) (by decide +kernel)
def R_Ln : String := "SpellDesk$Line"
def F_Ln : u_T := fun k => match k with
  | 0 => ("SpellDesk$Line", "text", "LSpellDesk$Letters;", true)
  | 1 => ("SpellDesk$Line", "lineStart", "I", false)
  | 2 => ("SpellDesk$Line", "lineEnd", "I", false)
  | 3 => ("SpellDesk$Line", "start", "I", false)
  | 4 => ("SpellDesk$Line", "end", "I", false)
  | 5 => ("SpellDesk$Line", "wordFrom", "I", false)
  | _ => ("SpellDesk$Line", "wordLength", "I", false)
def t_Ln : Nat → FieldType := fun k => match k with
  | 0 => .object "SpellDesk$Letters"
  | 1 => .int
  | 2 => .int
  | 3 => .int
  | 4 => .int
  | 5 => .int
  | _ => .int
theorem nm_Ln : ∀ a, a < 7 → ∀ b, b < 7 → a ≠ b → (F_Ln a).2.1 ≠ (F_Ln b).2.1 := by decide +kernel
theorem ty_Ln : ∀ k, k < 7 → parseFieldDescriptor (F_Ln k).2.2.1 = some (t_Ln k) := by decide +kernel
theorem in_Ln : ∀ w ∈ u_ws R_Ln F_Ln 7, w ∈ gTbl := by
  intro w hw
  obtain ⟨k, hk, rfl⟩ := List.mem_map.mp hw
  have hk : k < 7 := List.mem_range.mp hk
  rcases (show k = 0 ∨ k = 1 ∨ k = 2 ∨ k = 3 ∨ k = 4 ∨ k = 5 ∨ k = 6 by omega) with rfl | rfl | rfl | rfl | rfl | rfl | rfl
  · exact gt_in (i := 70) (by decide +kernel) (by decide +kernel)
  · exact gt_in (i := 72) (by decide +kernel) (by decide +kernel)
  · exact gt_in (i := 74) (by decide +kernel) (by decide +kernel)
  · exact gt_in (i := 76) (by decide +kernel) (by decide +kernel)
  · exact gt_in (i := 78) (by decide +kernel) (by decide +kernel)
  · exact gt_in (i := 80) (by decide +kernel) (by decide +kernel)
  · exact gt_in (i := 82) (by decide +kernel) (by decide +kernel)
def R_Pr : String := "SpellDesk$Printer"
def F_Pr : u_T := fun k => match k with
  | 0 => ("SpellDesk$Printer", "printed", "LSpellDesk$Letters;", true)
  | 1 => ("SpellDesk$Printer", "lostCount", "I", false)
  | _ => ("SpellDesk$Printer", "items", "I", false)
def t_Pr : Nat → FieldType := fun k => match k with
  | 0 => .object "SpellDesk$Letters"
  | 1 => .int
  | _ => .int
theorem nm_Pr : ∀ a, a < 3 → ∀ b, b < 3 → a ≠ b → (F_Pr a).2.1 ≠ (F_Pr b).2.1 := by decide +kernel
theorem ty_Pr : ∀ k, k < 3 → parseFieldDescriptor (F_Pr k).2.2.1 = some (t_Pr k) := by decide +kernel
theorem in_Pr : ∀ w ∈ u_ws R_Pr F_Pr 3, w ∈ gTbl := by
  intro w hw
  obtain ⟨k, hk, rfl⟩ := List.mem_map.mp hw
  have hk : k < 3 := List.mem_range.mp hk
  rcases (show k = 0 ∨ k = 1 ∨ k = 2 by omega) with rfl | rfl | rfl
  · exact gt_in (i := 96) (by decide +kernel) (by decide +kernel)
  · exact gt_in (i := 98) (by decide +kernel) (by decide +kernel)
  · exact gt_in (i := 100) (by decide +kernel) (by decide +kernel)
def R_Ru : String := "SpellDesk$Rule"
def F_Ru : u_T := fun k => match k with
  | 0 => ("SpellDesk$Rule", "atFront", "Z", true)
  | 1 => ("SpellDesk$Rule", "flag", "I", true)
  | 2 => ("SpellDesk$Rule", "strip", "LSpellDesk$Letters;", true)
  | 3 => ("SpellDesk$Rule", "add", "LSpellDesk$Letters;", true)
  | _ => ("SpellDesk$Rule", "condition", "LSpellDesk$Letters;", true)
def t_Ru : Nat → FieldType := fun k => match k with
  | 0 => .boolean
  | 1 => .int
  | 2 => .object "SpellDesk$Letters"
  | 3 => .object "SpellDesk$Letters"
  | _ => .object "SpellDesk$Letters"
theorem nm_Ru : ∀ a, a < 5 → ∀ b, b < 5 → a ≠ b → (F_Ru a).2.1 ≠ (F_Ru b).2.1 := by decide +kernel
theorem ty_Ru : ∀ k, k < 5 → parseFieldDescriptor (F_Ru k).2.2.1 = some (t_Ru k) := by decide +kernel
theorem in_Ru : ∀ w ∈ u_ws R_Ru F_Ru 5, w ∈ gTbl := by
  intro w hw
  obtain ⟨k, hk, rfl⟩ := List.mem_map.mp hw
  have hk : k < 5 := List.mem_range.mp hk
  rcases (show k = 0 ∨ k = 1 ∨ k = 2 ∨ k = 3 ∨ k = 4 by omega) with rfl | rfl | rfl | rfl | rfl
  · exact gt_in (i := 162) (by decide +kernel) (by decide +kernel)
  · exact gt_in (i := 164) (by decide +kernel) (by decide +kernel)
  · exact gt_in (i := 166) (by decide +kernel) (by decide +kernel)
  · exact gt_in (i := 168) (by decide +kernel) (by decide +kernel)
  · exact gt_in (i := 170) (by decide +kernel) (by decide +kernel)
def R_Rs : String := "SpellDesk$RuleList"
def F_Rs : u_T := fun k => match k with
  | 0 => ("SpellDesk$RuleList", "atFront", "Z", true)
  | 1 => ("SpellDesk$RuleList", "list", "Ljava/util/ArrayList;", true)
  | _ => ("SpellDesk$RuleList", "none", "LSpellDesk$Rule;", true)
def t_Rs : Nat → FieldType := fun k => match k with
  | 0 => .boolean
  | 1 => .object "java/util/ArrayList"
  | _ => .object "SpellDesk$Rule"
theorem nm_Rs : ∀ a, a < 3 → ∀ b, b < 3 → a ≠ b → (F_Rs a).2.1 ≠ (F_Rs b).2.1 := by decide +kernel
theorem ty_Rs : ∀ k, k < 3 → parseFieldDescriptor (F_Rs k).2.2.1 = some (t_Rs k) := by decide +kernel
theorem in_Rs : ∀ w ∈ u_ws R_Rs F_Rs 3, w ∈ gTbl := by
  intro w hw
  obtain ⟨k, hk, rfl⟩ := List.mem_map.mp hw
  have hk : k < 3 := List.mem_range.mp hk
  rcases (show k = 0 ∨ k = 1 ∨ k = 2 by omega) with rfl | rfl | rfl
  · exact gt_in (i := 176) (by decide +kernel) (by decide +kernel)
  · exact gt_in (i := 178) (by decide +kernel) (by decide +kernel)
  · exact gt_in (i := 180) (by decide +kernel) (by decide +kernel)
def R_Sp : String := "SpellDesk$Speller"
def F_Sp : u_T := fun k => match k with
  | 0 => ("SpellDesk$Speller", "dictionary", "LSpellDesk$Dictionary;", true)
  | 1 => ("SpellDesk$Speller", "prefixes", "LSpellDesk$RuleList;", true)
  | 2 => ("SpellDesk$Speller", "suffixes", "LSpellDesk$RuleList;", true)
  | 3 => ("SpellDesk$Speller", "base", "LSpellDesk$Letters;", true)
  | 4 => ("SpellDesk$Speller", "ways", "[I", true)
  | 5 => ("SpellDesk$Speller", "formLetters", "LSpellDesk$Letters;", true)
  | 6 => ("SpellDesk$Speller", "forms", "LSpellDesk$WordList;", true)
  | _ => ("SpellDesk$Speller", "wayCount", "I", false)
def t_Sp : Nat → FieldType := fun k => match k with
  | 0 => .object "SpellDesk$Dictionary"
  | 1 => .object "SpellDesk$RuleList"
  | 2 => .object "SpellDesk$RuleList"
  | 3 => .object "SpellDesk$Letters"
  | 4 => .array .int
  | 5 => .object "SpellDesk$Letters"
  | 6 => .object "SpellDesk$WordList"
  | _ => .int
theorem nm_Sp : ∀ a, a < 8 → ∀ b, b < 8 → a ≠ b → (F_Sp a).2.1 ≠ (F_Sp b).2.1 := by decide +kernel
theorem ty_Sp : ∀ k, k < 8 → parseFieldDescriptor (F_Sp k).2.2.1 = some (t_Sp k) := by decide +kernel
theorem in_Sp : ∀ w ∈ u_ws R_Sp F_Sp 8, w ∈ gTbl := by
  intro w hw
  obtain ⟨k, hk, rfl⟩ := List.mem_map.mp hw
  have hk : k < 8 := List.mem_range.mp hk
  rcases (show k = 0 ∨ k = 1 ∨ k = 2 ∨ k = 3 ∨ k = 4 ∨ k = 5 ∨ k = 6 ∨ k = 7 by omega) with rfl | rfl | rfl | rfl | rfl | rfl | rfl | rfl
  · exact gt_in (i := 220) (by decide +kernel) (by decide +kernel)
  · exact gt_in (i := 222) (by decide +kernel) (by decide +kernel)
  · exact gt_in (i := 224) (by decide +kernel) (by decide +kernel)
  · exact gt_in (i := 226) (by decide +kernel) (by decide +kernel)
  · exact gt_in (i := 228) (by decide +kernel) (by decide +kernel)
  · exact gt_in (i := 230) (by decide +kernel) (by decide +kernel)
  · exact gt_in (i := 232) (by decide +kernel) (by decide +kernel)
  · exact gt_in (i := 234) (by decide +kernel) (by decide +kernel)
def R_Wl : String := "SpellDesk$WordList"
def F_Wl : u_T := fun k => match k with
  | 0 => ("SpellDesk$WordList", "row", "LSpellDesk$Letters;", true)
  | 1 => ("SpellDesk$WordList", "starts", "[I", true)
  | 2 => ("SpellDesk$WordList", "lengths", "[I", true)
  | _ => ("SpellDesk$WordList", "count", "I", false)
def t_Wl : Nat → FieldType := fun k => match k with
  | 0 => .object "SpellDesk$Letters"
  | 1 => .array .int
  | 2 => .array .int
  | _ => .int
theorem nm_Wl : ∀ a, a < 4 → ∀ b, b < 4 → a ≠ b → (F_Wl a).2.1 ≠ (F_Wl b).2.1 := by decide +kernel
theorem ty_Wl : ∀ k, k < 4 → parseFieldDescriptor (F_Wl k).2.2.1 = some (t_Wl k) := by decide +kernel
theorem in_Wl : ∀ w ∈ u_ws R_Wl F_Wl 4, w ∈ gTbl := by
  intro w hw
  obtain ⟨k, hk, rfl⟩ := List.mem_map.mp hw
  have hk : k < 4 := List.mem_range.mp hk
  rcases (show k = 0 ∨ k = 1 ∨ k = 2 ∨ k = 3 by omega) with rfl | rfl | rfl | rfl
  · exact gt_in (i := 202) (by decide +kernel) (by decide +kernel)
  · exact gt_in (i := 204) (by decide +kernel) (by decide +kernel)
  · exact gt_in (i := 206) (by decide +kernel) (by decide +kernel)
  · exact gt_in (i := 208) (by decide +kernel) (by decide +kernel)
def R_Md : String := "SpellDeskModel"
def F_Md : u_T := fun k => match k with
  | 0 => ("SpellDeskModel", "code", "I", false)
  | 1 => ("SpellDeskModel", "typed", "I", false)
  | 2 => ("SpellDeskModel", "text", "[I", true)
  | 3 => ("SpellDeskModel", "size", "I", false)
  | 4 => ("SpellDeskModel", "output", "[I", true)
  | 5 => ("SpellDeskModel", "lost", "I", false)
  | 6 => ("SpellDeskModel", "entries", "I", false)
  | 7 => ("SpellDeskModel", "length", "[I", true)
  | 8 => ("SpellDeskModel", "flags", "[I", true)
  | 9 => ("SpellDeskModel", "letters", "[I", true)
  | 10 => ("SpellDeskModel", "count", "[I", true)
  | 11 => ("SpellDeskModel", "flag", "[I", true)
  | 12 => ("SpellDeskModel", "partLength", "[I", true)
  | 13 => ("SpellDeskModel", "part", "[I", true)
  | 14 => ("SpellDeskModel", "from", "I", false)
  | 15 => ("SpellDeskModel", "to", "I", false)
  | 16 => ("SpellDeskModel", "at", "I", false)
  | 17 => ("SpellDeskModel", "first", "I", false)
  | 18 => ("SpellDeskModel", "end", "I", false)
  | 19 => ("SpellDeskModel", "wrong", "I", false)
  | 20 => ("SpellDeskModel", "made", "I", false)
  | 21 => ("SpellDeskModel", "form", "[I", true)
  | 22 => ("SpellDeskModel", "words", "I", false)
  | 23 => ("SpellDeskModel", "wordFrom", "[I", true)
  | 24 => ("SpellDeskModel", "wordLength", "[I", true)
  | _ => ("SpellDeskModel", "forms", "[I", true)
def t_Md : Nat → FieldType := fun k => match k with
  | 0 => .int
  | 1 => .int
  | 2 => .array .int
  | 3 => .int
  | 4 => .array .int
  | 5 => .int
  | 6 => .int
  | 7 => .array .int
  | 8 => .array .int
  | 9 => .array .int
  | 10 => .array .int
  | 11 => .array .int
  | 12 => .array .int
  | 13 => .array .int
  | 14 => .int
  | 15 => .int
  | 16 => .int
  | 17 => .int
  | 18 => .int
  | 19 => .int
  | 20 => .int
  | 21 => .array .int
  | 22 => .int
  | 23 => .array .int
  | 24 => .array .int
  | _ => .array .int
theorem nm_Md : ∀ a, a < 26 → ∀ b, b < 26 → a ≠ b → (F_Md a).2.1 ≠ (F_Md b).2.1 := by decide +kernel
theorem ty_Md : ∀ k, k < 26 → parseFieldDescriptor (F_Md k).2.2.1 = some (t_Md k) := by decide +kernel
theorem in_Md : ∀ w ∈ u_ws R_Md F_Md 26, w ∈ gTbl := by
  intro w hw
  obtain ⟨k, hk, rfl⟩ := List.mem_map.mp hw
  have hk : k < 26 := List.mem_range.mp hk
  rcases (show k = 0 ∨ k = 1 ∨ k = 2 ∨ k = 3 ∨ k = 4 ∨ k = 5 ∨ k = 6 ∨ k = 7 ∨ k = 8 ∨ k = 9 ∨ k = 10 ∨ k = 11 ∨ k = 12 ∨ k = 13 ∨ k = 14 ∨ k = 15 ∨ k = 16 ∨ k = 17 ∨ k = 18 ∨ k = 19 ∨ k = 20 ∨ k = 21 ∨ k = 22 ∨ k = 23 ∨ k = 24 ∨ k = 25 by omega) with rfl | rfl | rfl | rfl | rfl | rfl | rfl | rfl | rfl | rfl | rfl | rfl | rfl | rfl | rfl | rfl | rfl | rfl | rfl | rfl | rfl | rfl | rfl | rfl | rfl | rfl
  · exact gt_in (i := 1179) (by decide +kernel) (by decide +kernel)
  · exact gt_in (i := 1181) (by decide +kernel) (by decide +kernel)
  · exact gt_in (i := 1183) (by decide +kernel) (by decide +kernel)
  · exact gt_in (i := 1185) (by decide +kernel) (by decide +kernel)
  · exact gt_in (i := 1187) (by decide +kernel) (by decide +kernel)
  · exact gt_in (i := 1189) (by decide +kernel) (by decide +kernel)
  · exact gt_in (i := 1191) (by decide +kernel) (by decide +kernel)
  · exact gt_in (i := 1193) (by decide +kernel) (by decide +kernel)
  · exact gt_in (i := 1195) (by decide +kernel) (by decide +kernel)
  · exact gt_in (i := 1197) (by decide +kernel) (by decide +kernel)
  · exact gt_in (i := 1199) (by decide +kernel) (by decide +kernel)
  · exact gt_in (i := 1201) (by decide +kernel) (by decide +kernel)
  · exact gt_in (i := 1203) (by decide +kernel) (by decide +kernel)
  · exact gt_in (i := 1205) (by decide +kernel) (by decide +kernel)
  · exact gt_in (i := 1207) (by decide +kernel) (by decide +kernel)
  · exact gt_in (i := 1209) (by decide +kernel) (by decide +kernel)
  · exact gt_in (i := 1211) (by decide +kernel) (by decide +kernel)
  · exact gt_in (i := 1213) (by decide +kernel) (by decide +kernel)
  · exact gt_in (i := 1215) (by decide +kernel) (by decide +kernel)
  · exact gt_in (i := 1217) (by decide +kernel) (by decide +kernel)
  · exact gt_in (i := 1219) (by decide +kernel) (by decide +kernel)
  · exact gt_in (i := 1221) (by decide +kernel) (by decide +kernel)
  · exact gt_in (i := 1223) (by decide +kernel) (by decide +kernel)
  · exact gt_in (i := 1225) (by decide +kernel) (by decide +kernel)
  · exact gt_in (i := 1227) (by decide +kernel) (by decide +kernel)
  · exact gt_in (i := 1229) (by decide +kernel) (by decide +kernel)
def R_AL : String := "java/util/ArrayList"
def F_AL : u_T := fun k => match k with
  | 0 => ("java/util/AbstractList", "modCount", "I", false)
  | 1 => ("java/util/ArrayList", "elementData", "[Ljava/lang/Object;", false)
  | _ => ("java/util/ArrayList", "size", "I", false)
def t_AL : Nat → FieldType := fun k => match k with
  | 0 => .int
  | 1 => .array (.object "java/lang/Object")
  | _ => .int
theorem nm_AL : ∀ a, a < 3 → ∀ b, b < 3 → a ≠ b → (F_AL a).2.1 ≠ (F_AL b).2.1 := by decide +kernel
theorem ty_AL : ∀ k, k < 3 → parseFieldDescriptor (F_AL k).2.2.1 = some (t_AL k) := by decide +kernel
theorem in_AL : ∀ w ∈ u_ws R_AL F_AL 3, w ∈ gTbl := by
  intro w hw
  obtain ⟨k, hk, rfl⟩ := List.mem_map.mp hw
  have hk : k < 3 := List.mem_range.mp hk
  rcases (show k = 0 ∨ k = 1 ∨ k = 2 by omega) with rfl | rfl | rfl
  · exact gt_in (i := 132) (by decide +kernel) (by decide +kernel)
  · exact gt_in (i := 128) (by decide +kernel) (by decide +kernel)
  · exact gt_in (i := 130) (by decide +kernel) (by decide +kernel)
def R_ISE : String := "java/lang/IllegalStateException"
def F_ISE : u_T := fun k => match k with
  | 0 => ("java/lang/Throwable", "cause", "Ljava/lang/Throwable;", false)
  | 1 => ("java/lang/Throwable", "stackTrace", "[Ljava/lang/StackTraceElement;", false)
  | 2 => ("java/lang/Throwable", "suppressedExceptions", "Ljava/util/List;", false)
  | 3 => ("java/lang/Throwable", "detailMessage", "Ljava/lang/String;", false)
  | 4 => ("java/lang/Throwable", "backtrace", "Ljava/lang/Object;", false)
  | _ => ("java/lang/Throwable", "depth", "I", false)
def t_ISE : Nat → FieldType := fun k => match k with
  | 0 => .object "java/lang/Throwable"
  | 1 => .array (.object "java/lang/StackTraceElement")
  | 2 => .object "java/util/List"
  | 3 => .object "java/lang/String"
  | 4 => .object "java/lang/Object"
  | _ => .int
theorem nm_ISE : ∀ a, a < 6 → ∀ b, b < 6 → a ≠ b → (F_ISE a).2.1 ≠ (F_ISE b).2.1 := by decide +kernel
theorem ty_ISE : ∀ k, k < 6 → parseFieldDescriptor (F_ISE k).2.2.1 = some (t_ISE k) := by decide +kernel
theorem in_ISE : ∀ w ∈ u_ws R_ISE F_ISE 6, w ∈ gTbl := by
  intro w hw
  obtain ⟨k, hk, rfl⟩ := List.mem_map.mp hw
  have hk : k < 6 := List.mem_range.mp hk
  rcases (show k = 0 ∨ k = 1 ∨ k = 2 ∨ k = 3 ∨ k = 4 ∨ k = 5 by omega) with rfl | rfl | rfl | rfl | rfl | rfl
  · exact gt_in (i := 1115) (by decide +kernel) (by decide +kernel)
  · exact gt_in (i := 1116) (by decide +kernel) (by decide +kernel)
  · exact gt_in (i := 1117) (by decide +kernel) (by decide +kernel)
  · exact gt_in (i := 1118) (by decide +kernel) (by decide +kernel)
  · exact gt_in (i := 1119) (by decide +kernel) (by decide +kernel)
  · exact gt_in (i := 1125) (by decide +kernel) (by decide +kernel)
def R_IOE : String := "java/lang/IndexOutOfBoundsException"
def F_IOE : u_T := fun k => match k with
  | 0 => ("java/lang/Throwable", "cause", "Ljava/lang/Throwable;", false)
  | 1 => ("java/lang/Throwable", "stackTrace", "[Ljava/lang/StackTraceElement;", false)
  | 2 => ("java/lang/Throwable", "suppressedExceptions", "Ljava/util/List;", false)
  | 3 => ("java/lang/Throwable", "detailMessage", "Ljava/lang/String;", false)
  | 4 => ("java/lang/Throwable", "backtrace", "Ljava/lang/Object;", false)
  | _ => ("java/lang/Throwable", "depth", "I", false)
def t_IOE : Nat → FieldType := fun k => match k with
  | 0 => .object "java/lang/Throwable"
  | 1 => .array (.object "java/lang/StackTraceElement")
  | 2 => .object "java/util/List"
  | 3 => .object "java/lang/String"
  | 4 => .object "java/lang/Object"
  | _ => .int
theorem nm_IOE : ∀ a, a < 6 → ∀ b, b < 6 → a ≠ b → (F_IOE a).2.1 ≠ (F_IOE b).2.1 := by decide +kernel
theorem ty_IOE : ∀ k, k < 6 → parseFieldDescriptor (F_IOE k).2.2.1 = some (t_IOE k) := by decide +kernel
theorem in_IOE : ∀ w ∈ u_ws R_IOE F_IOE 6, w ∈ gTbl := by
  intro w hw
  obtain ⟨k, hk, rfl⟩ := List.mem_map.mp hw
  have hk : k < 6 := List.mem_range.mp hk
  rcases (show k = 0 ∨ k = 1 ∨ k = 2 ∨ k = 3 ∨ k = 4 ∨ k = 5 by omega) with rfl | rfl | rfl | rfl | rfl | rfl
  · exact gt_in (i := 478) (by decide +kernel) (by decide +kernel)
  · exact gt_in (i := 480) (by decide +kernel) (by decide +kernel)
  · exact gt_in (i := 482) (by decide +kernel) (by decide +kernel)
  · exact gt_in (i := 484) (by decide +kernel) (by decide +kernel)
  · exact gt_in (i := 486) (by decide +kernel) (by decide +kernel)
  · exact gt_in (i := 745) (by decide +kernel) (by decide +kernel)
theorem wi_SD : Cond.instantiable R_SD 8 ∈ gTbl := gt_in (i := 33) (by decide +kernel) rfl
theorem wn_SD : Cond.initialized R_SD ∈ gTbl := gt_in (i := 1) (by decide +kernel) rfl
theorem df_SD : ∀ j, j < 8 → defaultValue (t_SD j) = vp_V [.null, .null, .null, .null, .null, .null, .null, .null] j := fun j hj => by rcases (show j = 0 ∨ j = 1 ∨ j = 2 ∨ j = 3 ∨ j = 4 ∨ j = 5 ∨ j = 6 ∨ j = 7 by omega) with rfl | rfl | rfl | rfl | rfl | rfl | rfl | rfl <;> rfl
theorem wi_Dc : Cond.instantiable R_Dc 1 ∈ gTbl := gt_in (i := 104) (by decide +kernel) rfl
theorem wn_Dc : Cond.initialized R_Dc ∈ gTbl := gt_in (i := 6) (by decide +kernel) rfl
theorem df_Dc : ∀ j, j < 1 → defaultValue (t_Dc j) = vp_V [.null] j := fun j hj => by rcases (show j = 0 by omega) with rfl <;> rfl
theorem wi_En : Cond.instantiable R_En 2 ∈ gTbl := gt_in (i := 428) (by decide +kernel) rfl
theorem wn_En : Cond.initialized R_En ∈ gTbl := gt_in (i := 24) (by decide +kernel) rfl
theorem df_En : ∀ j, j < 2 → defaultValue (t_En j) = vp_V [.null, .int 0] j := fun j hj => by rcases (show j = 0 ∨ j = 1 by omega) with rfl | rfl <;> rfl
theorem wi_Lt : Cond.instantiable R_Lt 2 ∈ gTbl := gt_in (i := 41) (by decide +kernel) rfl
theorem wn_Lt : Cond.initialized R_Lt ∈ gTbl := gt_in (i := 2) (by decide +kernel) rfl
theorem df_Lt : ∀ j, j < 2 → defaultValue (t_Lt j) = vp_V [.null, .int 0] j := fun j hj => by rcases (show j = 0 ∨ j = 1 by omega) with rfl | rfl <;> rfl
theorem wi_Ln : Cond.instantiable R_Ln 7 ∈ gTbl := gt_in (i := 58) (by decide +kernel) rfl
theorem wn_Ln : Cond.initialized R_Ln ∈ gTbl := gt_in (i := 4) (by decide +kernel) rfl
theorem df_Ln : ∀ j, j < 7 → defaultValue (t_Ln j) = vp_V [.null, .int 0, .int 0, .int 0, .int 0, .int 0, .int 0] j := fun j hj => by rcases (show j = 0 ∨ j = 1 ∨ j = 2 ∨ j = 3 ∨ j = 4 ∨ j = 5 ∨ j = 6 by omega) with rfl | rfl | rfl | rfl | rfl | rfl | rfl <;> rfl
theorem wi_Pr : Cond.instantiable R_Pr 3 ∈ gTbl := gt_in (i := 86) (by decide +kernel) rfl
theorem wn_Pr : Cond.initialized R_Pr ∈ gTbl := gt_in (i := 5) (by decide +kernel) rfl
theorem df_Pr : ∀ j, j < 3 → defaultValue (t_Pr j) = vp_V [.null, .int 0, .int 0] j := fun j hj => by rcases (show j = 0 ∨ j = 1 ∨ j = 2 by omega) with rfl | rfl | rfl <;> rfl
theorem wi_Ru : Cond.instantiable R_Ru 5 ∈ gTbl := gt_in (i := 150) (by decide +kernel) rfl
theorem wn_Ru : Cond.initialized R_Ru ∈ gTbl := gt_in (i := 11) (by decide +kernel) rfl
theorem df_Ru : ∀ j, j < 5 → defaultValue (t_Ru j) = vp_V [.int 0, .int 0, .null, .null, .null] j := fun j hj => by rcases (show j = 0 ∨ j = 1 ∨ j = 2 ∨ j = 3 ∨ j = 4 by omega) with rfl | rfl | rfl | rfl | rfl <;> rfl
theorem wi_Rs : Cond.instantiable R_Rs 3 ∈ gTbl := gt_in (i := 140) (by decide +kernel) rfl
theorem wn_Rs : Cond.initialized R_Rs ∈ gTbl := gt_in (i := 10) (by decide +kernel) rfl
theorem df_Rs : ∀ j, j < 3 → defaultValue (t_Rs j) = vp_V [.int 0, .null, .null] j := fun j hj => by rcases (show j = 0 ∨ j = 1 ∨ j = 2 by omega) with rfl | rfl | rfl <;> rfl
theorem wi_Sp : Cond.instantiable R_Sp 8 ∈ gTbl := gt_in (i := 184) (by decide +kernel) rfl
theorem wn_Sp : Cond.initialized R_Sp ∈ gTbl := gt_in (i := 12) (by decide +kernel) rfl
theorem df_Sp : ∀ j, j < 8 → defaultValue (t_Sp j) = vp_V [.null, .null, .null, .null, .null, .null, .null, .int 0] j := fun j hj => by rcases (show j = 0 ∨ j = 1 ∨ j = 2 ∨ j = 3 ∨ j = 4 ∨ j = 5 ∨ j = 6 ∨ j = 7 by omega) with rfl | rfl | rfl | rfl | rfl | rfl | rfl | rfl <;> rfl
theorem wi_Wl : Cond.instantiable R_Wl 4 ∈ gTbl := gt_in (i := 192) (by decide +kernel) rfl
theorem wn_Wl : Cond.initialized R_Wl ∈ gTbl := gt_in (i := 13) (by decide +kernel) rfl
theorem df_Wl : ∀ j, j < 4 → defaultValue (t_Wl j) = vp_V [.null, .null, .null, .int 0] j := fun j hj => by rcases (show j = 0 ∨ j = 1 ∨ j = 2 ∨ j = 3 by omega) with rfl | rfl | rfl | rfl <;> rfl
theorem wi_Md : Cond.instantiable R_Md 26 ∈ gTbl := gt_in (i := 1148) (by decide +kernel) rfl
theorem wn_Md : Cond.initialized R_Md ∈ gTbl := gt_in (i := 14) (by decide +kernel) rfl
theorem df_Md : ∀ j, j < 26 → defaultValue (t_Md j) = vp_V [.int 0, .int 0, .null, .int 0, .null, .int 0, .int 0, .null, .null, .null, .null, .null, .null, .null, .int 0, .int 0, .int 0, .int 0, .int 0, .int 0, .int 0, .null, .int 0, .null, .null, .null] j := fun j hj => by rcases (show j = 0 ∨ j = 1 ∨ j = 2 ∨ j = 3 ∨ j = 4 ∨ j = 5 ∨ j = 6 ∨ j = 7 ∨ j = 8 ∨ j = 9 ∨ j = 10 ∨ j = 11 ∨ j = 12 ∨ j = 13 ∨ j = 14 ∨ j = 15 ∨ j = 16 ∨ j = 17 ∨ j = 18 ∨ j = 19 ∨ j = 20 ∨ j = 21 ∨ j = 22 ∨ j = 23 ∨ j = 24 ∨ j = 25 by omega) with rfl | rfl | rfl | rfl | rfl | rfl | rfl | rfl | rfl | rfl | rfl | rfl | rfl | rfl | rfl | rfl | rfl | rfl | rfl | rfl | rfl | rfl | rfl | rfl | rfl | rfl <;> rfl
theorem wi_AL : Cond.instantiable R_AL 3 ∈ gTbl := gt_in (i := 110) (by decide +kernel) rfl
theorem wn_AL : Cond.initialized R_AL ∈ gTbl := gt_in (i := 9) (by decide +kernel) rfl
theorem df_AL : ∀ j, j < 3 → defaultValue (t_AL j) = vp_V [.int 0, .null, .int 0] j := fun j hj => by rcases (show j = 0 ∨ j = 1 ∨ j = 2 by omega) with rfl | rfl | rfl <;> rfl
theorem wi_ISE : Cond.instantiable R_ISE 6 ∈ gTbl := gt_in (i := 1112) (by decide +kernel) rfl
theorem wn_ISE : Cond.initialized R_ISE ∈ gTbl := gt_in (i := 18) (by decide +kernel) rfl
theorem df_ISE : ∀ j, j < 6 → defaultValue (t_ISE j) = vp_V [.null, .null, .null, .null, .null, .int 0] j := fun j hj => by rcases (show j = 0 ∨ j = 1 ∨ j = 2 ∨ j = 3 ∨ j = 4 ∨ j = 5 by omega) with rfl | rfl | rfl | rfl | rfl | rfl <;> rfl
theorem wi_IOE : Cond.instantiable R_IOE 6 ∈ gTbl := gt_in (i := 468) (by decide +kernel) rfl
theorem wn_IOE : Cond.initialized R_IOE ∈ gTbl := gt_in (i := 25) (by decide +kernel) rfl
theorem df_IOE : ∀ j, j < 6 → defaultValue (t_IOE j) = vp_V [.null, .null, .null, .null, .null, .int 0] j := fun j hj => by rcases (show j = 0 ∨ j = 1 ∨ j = 2 ∨ j = 3 ∨ j = 4 ∨ j = 5 by omega) with rfl | rfl | rfl | rfl | rfl | rfl <;> rfl
abbrev vwCl : List vw_C := [(R_SD, F_SD, 8), (R_Dc, F_Dc, 1), (R_En, F_En, 2), (R_Lt, F_Lt, 2), (R_Ln, F_Ln, 7), (R_Pr, F_Pr, 3), (R_Ru, F_Ru, 5), (R_Rs, F_Rs, 3), (R_Sp, F_Sp, 8), (R_Wl, F_Wl, 4), (R_Md, F_Md, 26), (R_AL, F_AL, 3), (R_ISE, F_ISE, 6), (R_IOE, F_IOE, 6)]
/-! the launch's own numbers: classes and slots; array classes (0 char, 1 int, 2 Object, 3 byte, 4 long); String constants; the empty list's array -/
abbrev GG : Type := va_G × (Nat → ClassId) × (Nat → Nat) × (Nat → Nat) × Nat × Nat
def gh_tys (G : GG) : List (ClassId × FieldType) := [(G.2.1 0, .char), (G.2.1 1, .int), (G.2.1 2, .object "java/lang/Object"), (G.2.1 3, .byte), (G.2.1 4, .long)]
theorem w_oi : Cond.instanceMethod objectInit ∈ gTbl := gt_in (i := 38) (by decide +kernel) rfl
theorem w_oc : Cond.code objectInit ⟨#[0xb1]⟩ 1 none ∈ gTbl := gt_in (i := 39) (by decide +kernel) rfl
theorem w_ac : Cond.arrayClass .char ∈ gTbl := gt_in (i := 56) (by decide +kernel) rfl
theorem w_ai : Cond.arrayClass .int ∈ gTbl := gt_in (i := 211) (by decide +kernel) rfl
theorem w_al : Cond.arrayClass .long ∈ gTbl := gt_in (i := 1408) (by decide +kernel) rfl
theorem w_ab : Cond.arrayClass .byte ∈ gTbl := gt_in (i := 454) (by decide +kernel) rfl
def st_N : Nat := 21
def st_len : List Nat := [3, 5, 4, 2, 4, 4, 6, 1, 6, 5, 4, 3, 1, 1, 2, 5, 5, 5, 2, 45, 32]
def st_byt : List (List Int32) := [[97, 100, 100], [97, 103, 97, 105, 110], [102, 117, 108, 108], [111, 107], [100, 114, 111, 112], [110, 111, 110, 101], [112, 114, 101, 102, 105, 120], [48], [115, 117, 102, 102, 105, 120], [99, 104, 101, 99, 107], [108, 111, 111, 107], [119, 104, 121], [112], [43], [43, 115], [102, 111, 114, 109, 115], [99, 111, 117, 110, 116], [99, 108, 101, 97, 114], [63, 32], [116, 104, 101, 32, 116, 101, 120, 116, 32, 119, 111, 117, 108, 100, 32, 104, 97, 118, 101, 32, 109, 111, 114, 101, 32, 116, 104, 97, 110, 32, 50, 48, 52, 56, 32, 99, 104, 97, 114, 97, 99, 116, 101, 114, 115], [116, 104, 101, 32, 111, 117, 116, 112, 117, 116, 32, 104, 97, 115, 32, 110, 111, 32, 115, 117, 99, 104, 32, 99, 104, 97, 114, 97, 99, 116, 101, 114]]
def st_txt : List (List Nat) := [[97, 100, 100], [97, 103, 97, 105, 110], [102, 117, 108, 108], [111, 107], [100, 114, 111, 112], [110, 111, 110, 101], [112, 114, 101, 102, 105, 120], [48], [115, 117, 102, 102, 105, 120], [99, 104, 101, 99, 107], [108, 111, 111, 107], [119, 104, 121], [112], [43], [43, 115], [102, 111, 114, 109, 115], [99, 111, 117, 110, 116], [99, 108, 101, 97, 114], [63, 32], [116, 104, 101, 32, 116, 101, 120, 116, 32, 119, 111, 117, 108, 100, 32, 104, 97, 118, 101, 32, 109, 111, 114, 101, 32, 116, 104, 97, 110, 32, 50, 48, 52, 56, 32, 99, 104, 97, 114, 97, 99, 116, 101, 114, 115], [116, 104, 101, 32, 111, 117, 116, 112, 117, 116, 32, 104, 97, 115, 32, 110, 111, 32, 115, 117, 99, 104, 32, 99, 104, 97, 114, 97, 99, 116, 101, 114]]
def st_own : List (String × Nat × String) := [("SpellDesk", 124, "add"), ("SpellDesk", 213, "again"), ("SpellDesk", 215, "full"), ("SpellDesk", 226, "ok"), ("SpellDesk", 133, "drop"), ("SpellDesk", 238, "none"), ("SpellDesk", 138, "prefix"), ("SpellDesk$Line", 71, "0"), ("SpellDesk", 144, "suffix"), ("SpellDesk", 146, "check"), ("SpellDesk", 151, "look"), ("SpellDesk", 156, "why"), ("SpellDesk", 323, "p"), ("SpellDesk", 325, "+"), ("SpellDesk", 330, "+s"), ("SpellDesk", 161, "forms"), ("SpellDesk", 166, "count"), ("SpellDesk", 170, "clear"), ("SpellDesk", 174, "? "), ("SpellDesk", 81, "the text would have more than 2048 characters"), ("SpellDesk", 103, "the output has no such character")]
def gh_X (G : GG) (U : State) : Prop := va_AO "java/lang/Object" U ∧ va_Nw (.castable "SpellDesk$Entry" "java/lang/Object") U ∧ va_Nw (.castable "SpellDesk$Rule" "java/lang/Object") U ∧ va_Nw (.castable "java/lang/IllegalStateException" "java/lang/IllegalStateException") U ∧ va_Nw (.castable "java/lang/IndexOutOfBoundsException" "java/lang/IndexOutOfBoundsException") U ∧ va_Dc U ∧ va_Mi "[Ljava/lang/Object;" G.2.2.2.2.2 U
/-- what holds of the start and stays: the tables; the String constants; ArrayList's empty array -/
def gh_S (G : GG) (A : Nat → Prop) (U : State) (H : Heap) : Prop := vk_S st_N st_len st_byt G.2.2.1 G.2.2.2.1 A U H ∧ va_Z "java/util/ArrayList" "DEFAULTCAPACITY_EMPTY_ELEMENTDATA" "[Ljava/lang/Object;" (.ref G.2.2.2.2.1) A U H ∧ va_T (.object "java/lang/Object") G.2.2.2.2.1 0 (fun _ => .null) A U H ∧ va_Z "java/lang/String" "COMPACT_STRINGS" "Z" (.int 1) A U H ∧ va_Zq "jdk/internal/util/Preconditions" "SIOOBE_FORMATTER" "Ljava/util/function/BiFunction;" A U H ∧ va_Zq "java/lang/Throwable" "UNASSIGNED_STACK" "[Ljava/lang/StackTraceElement;" A U H ∧ va_Zq "java/lang/Throwable" "SUPPRESSED_SENTINEL" "Ljava/util/List;" A U H ∧ gh_X G U
def gh_C (G : GG) (A : Nat → Prop) (U : State) (H : Heap) : Prop := va_K G.1 vwCl (gh_tys G) U ∧ gh_S G A U H ∧ ∀ i : Nat, i < st_N → ∀ q, st_own[i]? = some q → vk_R q.1 q.2.1 q.2.2 (G.2.2.1 i) U
section GHC
variable {G : GG} {A B : Nat → Prop} {u U : State} {H H1 : Heap}
theorem gh_X.warm (hW : u.WarmedH U.vm) (h : gh_X G u) : gh_X G U := ⟨h.1.moved hW.alike, va_Nw.warmC hW h.2.1, va_Nw.warmC hW h.2.2.1, va_Nw.warmC hW h.2.2.2.1, va_Nw.warmC hW h.2.2.2.2.1, h.2.2.2.2.2.1.moved hW.alike, h.2.2.2.2.2.2.moved hW.alike⟩
theorem gh_X.same (hv : U.vm = u.vm) (h : gh_X G u) : gh_X G U := by
  have ha : u.vm.Alike U.vm := by rw [hv]; exact Vm.Alike.refl _
  exact ⟨h.1.moved ha, va_Nw.same rfl hv.symm h.2.1, va_Nw.same rfl hv.symm h.2.2.1, va_Nw.same rfl hv.symm h.2.2.2.1, va_Nw.same rfl hv.symm h.2.2.2.2.1, h.2.2.2.2.2.1.moved ha, h.2.2.2.2.2.2.moved ha⟩
theorem gh_C.warm (hW : u.WarmedH U.vm) (h : gh_C G A u H) : gh_C G A U H := by
  obtain ⟨h1, ⟨s1, s2, s3, s4, s5, s6, s7, s8⟩, h3⟩ := h
  have ha := hW.alike
  exact ⟨va_K.moved ha h1, ⟨s1.moved ha, s2.moved ha, s3.moved ha, s4.moved ha, s5.moved ha, s6.moved ha, s7.moved ha, s8.warm hW⟩, fun i hi q hq => (h3 i hi q hq).warm hW⟩
theorem gh_C.same (hv : U.vm = u.vm) (h : gh_C G A u H) : gh_C G A U H := by
  have ha : u.vm.Alike U.vm := by rw [hv]; exact Vm.Alike.refl _
  obtain ⟨h1, ⟨s1, s2, s3, s4, s5, s6, s7, s8⟩, h3⟩ := h
  exact ⟨va_K.moved ha h1, ⟨s1.moved ha, s2.moved ha, s3.moved ha, s4.moved ha, s5.moved ha, s6.moved ha, s7.moved ha, s8.same hv⟩, fun i hi q hq => (h3 i hi q hq).same hv⟩
theorem gh_C.kept (hq : ∀ a : Nat, a < H.size → ¬ A a → H1[a]? = H[a]?) (h : gh_C G A U H) : gh_C G A U H1 := by
  obtain ⟨h1, ⟨s1, s2, s3, s4, s5, s6, s7, s8⟩, h3⟩ := h
  exact ⟨h1, ⟨s1.kept hq, s2.kept hq, s3.kept hq, s4.kept hq, s5.kept hq, s6.kept hq, s7.kept hq, s8⟩, h3⟩
theorem gh_C.narrow (hAB : ∀ q, B q → A q) (h : gh_C G A U H) : gh_C G B U H := by
  obtain ⟨h1, ⟨s1, s2, s3, s4, s5, s6, s7, s8⟩, h3⟩ := h
  exact ⟨h1, ⟨s1.narrow hAB, s2.narrow hAB, s3.narrow hAB, s4.narrow hAB, s5.narrow hAB, s6.narrow hAB, s7.narrow hAB, s8⟩, h3⟩
end GHC
