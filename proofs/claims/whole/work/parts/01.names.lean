theorem tb0 : ∀ w ∈ tables_1_1, w ∈ lw_tbl := fun _ h => List.mem_append_right _ (List.mem_append_left _ h)
theorem tb1 : ∀ w ∈ tables_1_2, w ∈ lw_tbl := fun _ h => List.mem_append_right _ (List.mem_append_right _ (List.mem_append_left _ h))
theorem tb2 : ∀ w ∈ tables_1_3, w ∈ lw_tbl := fun _ h => List.mem_append_right _ (List.mem_append_right _ (List.mem_append_right _ (List.mem_append_left _ h)))
theorem tb3 : ∀ w ∈ tables_1_4, w ∈ lw_tbl := fun _ h => List.mem_append_right _ (List.mem_append_right _ (List.mem_append_right _ (List.mem_append_right _ (List.mem_append_left _ h))))
theorem tb4 : ∀ w ∈ tables_1_5, w ∈ lw_tbl := fun _ h => List.mem_append_right _ (List.mem_append_right _ (List.mem_append_right _ (List.mem_append_right _ (List.mem_append_right _ (h)))))
def lw_gd : List Cond := lw_tbl.filter goodWord
theorem gd : ∀ w, w ∈ lw_tbl → goodWord w = true → w ∈ lw_gd := fun _ h g => List.mem_filter.mpr ⟨h, g⟩
theorem lw_allgood : ∀ w ∈ lw_gd, (w.onTables && w.keeps) = true ∨ ∃ ty, w = .arrayClass ty := fun w h => good_of_word (List.mem_filter.mp h).2
def R_PL : String := "PackLists"
def R_Kd : String := "PackLists$Kind"
def R_Rl : String := "PackLists$Rules"
def R_Tx : String := "PackLists$Text"
def R_St : String := "PackLists$Stock"
def R_Pk : String := "PackLists$Packer"
def R_Ld : String := "PackLists$Load"
def R_Md : String := "PackListsModel"
def R_Lw : String := "PackListsLaw"
def R_Ar : String := "java/util/Arrays"
def R_Sg : String := "java/lang/String"
def R_S1 : String := "java/lang/StringLatin1"
def R_En : String := "java/lang/Enum"
def R_Ma : String := "java/lang/Math"
def R_Sy : String := "java/lang/System"
def R_Ob : String := "java/lang/Object"
def R_S2 : String := "java/lang/StringUTF16"
def R_Pc : String := "jdk/internal/util/Preconditions"
def R_Sw : String := "PackLists$1"
def F_PL : u_T := fun k => match k with
  | 0 => ("PackLists", "text", "LPackLists$Text;", true)
  | 1 => ("PackLists", "stock", "LPackLists$Stock;", true)
  | 2 => ("PackLists", "packer", "LPackLists$Packer;", true)
  | 3 => ("PackLists", "load", "LPackLists$Load;", true)
  | 4 => ("PackLists", "now", "LPackLists$Rules;", false)
  | 5 => ("PackLists", "draft", "LPackLists$Rules;", false)
  | _ => ("PackLists", "untouched", "Z", false)
def t_PL : Nat → FieldType := fun k => match k with
  | 0 => .object "PackLists$Text"
  | 1 => .object "PackLists$Stock"
  | 2 => .object "PackLists$Packer"
  | 3 => .object "PackLists$Load"
  | 4 => .object "PackLists$Rules"
  | 5 => .object "PackLists$Rules"
  | _ => .boolean
theorem n_PL : ∀ a, a < 7 → ∀ b, b < 7 → a ≠ b → (F_PL a).2.1 ≠ (F_PL b).2.1 := by decide +kernel
theorem t_PL_ok : ∀ k, k < 7 → parseFieldDescriptor (F_PL k).2.2.1 = some (t_PL k) := by decide +kernel
theorem i0_PL : (u_ws R_PL F_PL 7).all (fun w => decide (w ∈ lw_tbl) && goodWord w) = true := by decide +kernel
theorem in_PL : ∀ w ∈ u_ws R_PL F_PL 7, w ∈ lw_gd := fun w h => by have h1 := List.all_eq_true.mp i0_PL w h; simp only [Bool.and_eq_true, decide_eq_true_eq] at h1; exact gd w h1.1 h1.2
def F_Tx : u_T := fun k => match k with
  | 0 => ("PackLists$Text", "bytes", "[I", true)
  | 1 => ("PackLists$Text", "length", "I", false)
  | 2 => ("PackLists$Text", "numbers", "[I", true)
  | 3 => ("PackLists$Text", "got", "I", false)
  | 4 => ("PackLists$Text", "open", "LPackLists$Kind;", false)
  | _ => ("PackLists$Text", "sentences", "I", false)
def t_Tx : Nat → FieldType := fun k => match k with
  | 0 => .array .int
  | 1 => .int
  | 2 => .array .int
  | 3 => .int
  | 4 => .object "PackLists$Kind"
  | _ => .int
theorem n_Tx : ∀ a, a < 6 → ∀ b, b < 6 → a ≠ b → (F_Tx a).2.1 ≠ (F_Tx b).2.1 := by decide +kernel
theorem t_Tx_ok : ∀ k, k < 6 → parseFieldDescriptor (F_Tx k).2.2.1 = some (t_Tx k) := by decide +kernel
theorem i0_Tx : (u_ws R_Tx F_Tx 6).all (fun w => decide (w ∈ lw_tbl) && goodWord w) = true := by decide +kernel
theorem in_Tx : ∀ w ∈ u_ws R_Tx F_Tx 6, w ∈ lw_gd := fun w h => by have h1 := List.all_eq_true.mp i0_Tx w h; simp only [Bool.and_eq_true, decide_eq_true_eq] at h1; exact gd w h1.1 h1.2
def F_St : u_T := fun k => match k with
  | 0 => ("PackLists$Stock", "classes", "[I", true)
  | 1 => ("PackLists$Stock", "grams", "[I", true)
  | 2 => ("PackLists$Stock", "steps", "[I", true)
  | 3 => ("PackLists$Stock", "reasons", "[I", true)
  | 4 => ("PackLists$Stock", "awayInOrder", "[I", true)
  | 5 => ("PackLists$Stock", "bottles", "I", false)
  | 6 => ("PackLists$Stock", "turnedAway", "I", false)
  | 7 => ("PackLists$Stock", "boxGrams", "[I", true)
  | 8 => ("PackLists$Stock", "boxBottles", "[I", true)
  | 9 => ("PackLists$Stock", "absorbers", "[I", true)
  | _ => ("PackLists$Stock", "boxes", "I", false)
def t_St : Nat → FieldType := fun k => match k with
  | 0 => .array .int
  | 1 => .array .int
  | 2 => .array .int
  | 3 => .array .int
  | 4 => .array .int
  | 5 => .int
  | 6 => .int
  | 7 => .array .int
  | 8 => .array .int
  | 9 => .array .int
  | _ => .int
theorem n_St : ∀ a, a < 11 → ∀ b, b < 11 → a ≠ b → (F_St a).2.1 ≠ (F_St b).2.1 := by decide +kernel
theorem t_St_ok : ∀ k, k < 11 → parseFieldDescriptor (F_St k).2.2.1 = some (t_St k) := by decide +kernel
theorem i0_St : (u_ws R_St F_St 11).all (fun w => decide (w ∈ lw_tbl) && goodWord w) = true := by decide +kernel
theorem in_St : ∀ w ∈ u_ws R_St F_St 11, w ∈ lw_gd := fun w h => by have h1 := List.all_eq_true.mp i0_St w h; simp only [Bool.and_eq_true, decide_eq_true_eq] at h1; exact gd w h1.1 h1.2
def F_Pk : u_T := fun k => match k with
  | 0 => ("PackLists$Packer", "gramsIn", "[I", true)
  | 1 => ("PackLists$Packer", "bottlesIn", "[I", true)
  | 2 => ("PackLists$Packer", "classesIn", "[I", true)
  | 3 => ("PackLists$Packer", "queue", "[I", true)
  | 4 => ("PackLists$Packer", "waiting", "I", false)
  | 5 => ("PackLists$Packer", "tried", "[I", true)
  | 6 => ("PackLists$Packer", "best", "[I", true)
  | 7 => ("PackLists$Packer", "fewest", "I", false)
  | 8 => ("PackLists$Packer", "boxes", "[I", true)
  | _ => ("PackLists$Packer", "found", "Z", false)
def t_Pk : Nat → FieldType := fun k => match k with
  | 0 => .array .int
  | 1 => .array .int
  | 2 => .array .int
  | 3 => .array .int
  | 4 => .int
  | 5 => .array .int
  | 6 => .array .int
  | 7 => .int
  | 8 => .array .int
  | _ => .boolean
theorem n_Pk : ∀ a, a < 10 → ∀ b, b < 10 → a ≠ b → (F_Pk a).2.1 ≠ (F_Pk b).2.1 := by decide +kernel
theorem t_Pk_ok : ∀ k, k < 10 → parseFieldDescriptor (F_Pk k).2.2.1 = some (t_Pk k) := by decide +kernel
theorem i0_Pk : (u_ws R_Pk F_Pk 10).all (fun w => decide (w ∈ lw_tbl) && goodWord w) = true := by decide +kernel
theorem in_Pk : ∀ w ∈ u_ws R_Pk F_Pk 10, w ∈ lw_gd := fun w h => by have h1 := List.all_eq_true.mp i0_Pk w h; simp only [Bool.and_eq_true, decide_eq_true_eq] at h1; exact gd w h1.1 h1.2
def F_Ld : u_T := fun k => match k with
  | 0 => ("PackLists$Load", "gramsOf", "[I", true)
  | 1 => ("PackLists$Load", "inOrder", "[I", true)
  | 2 => ("PackLists$Load", "count", "I", false)
  | 3 => ("PackLists$Load", "sheet", "[I", true)
  | _ => ("PackLists$Load", "written", "I", false)
def t_Ld : Nat → FieldType := fun k => match k with
  | 0 => .array .int
  | 1 => .array .int
  | 2 => .int
  | 3 => .array .int
  | _ => .int
theorem n_Ld : ∀ a, a < 5 → ∀ b, b < 5 → a ≠ b → (F_Ld a).2.1 ≠ (F_Ld b).2.1 := by decide +kernel
theorem t_Ld_ok : ∀ k, k < 5 → parseFieldDescriptor (F_Ld k).2.2.1 = some (t_Ld k) := by decide +kernel
theorem i0_Ld : (u_ws R_Ld F_Ld 5).all (fun w => decide (w ∈ lw_tbl) && goodWord w) = true := by decide +kernel
theorem in_Ld : ∀ w ∈ u_ws R_Ld F_Ld 5, w ∈ lw_gd := fun w h => by have h1 := List.all_eq_true.mp i0_Ld w h; simp only [Bool.and_eq_true, decide_eq_true_eq] at h1; exact gd w h1.1 h1.2
def F_Rl : u_T := fun k => match k with
  | 0 => ("PackLists$Rules", "apart", "[I", true)
  | 1 => ("PackLists$Rules", "perThousand", "[I", true)
  | 2 => ("PackLists$Rules", "ranks", "[I", true)
  | 3 => ("PackLists$Rules", "codes", "[I", true)
  | 4 => ("PackLists$Rules", "markCounts", "[I", true)
  | 5 => ("PackLists$Rules", "markGrams", "[I", true)
  | 6 => ("PackLists$Rules", "markSizes", "[I", true)
  | 7 => ("PackLists$Rules", "noteCounts", "[I", true)
  | 8 => ("PackLists$Rules", "notes", "[I", true)
  | 9 => ("PackLists$Rules", "outcomes", "[I", true)
  | _ => ("PackLists$Rules", "free", "I", false)
def t_Rl : Nat → FieldType := fun k => match k with
  | 0 => .array .int
  | 1 => .array .int
  | 2 => .array .int
  | 3 => .array .int
  | 4 => .array .int
  | 5 => .array .int
  | 6 => .array .int
  | 7 => .array .int
  | 8 => .array .int
  | 9 => .array .int
  | _ => .int
theorem n_Rl : ∀ a, a < 11 → ∀ b, b < 11 → a ≠ b → (F_Rl a).2.1 ≠ (F_Rl b).2.1 := by decide +kernel
theorem t_Rl_ok : ∀ k, k < 11 → parseFieldDescriptor (F_Rl k).2.2.1 = some (t_Rl k) := by decide +kernel
theorem i0_Rl : (u_ws R_Rl F_Rl 11).all (fun w => decide (w ∈ lw_tbl) && goodWord w) = true := by decide +kernel
theorem in_Rl : ∀ w ∈ u_ws R_Rl F_Rl 11, w ∈ lw_gd := fun w h => by have h1 := List.all_eq_true.mp i0_Rl w h; simp only [Bool.and_eq_true, decide_eq_true_eq] at h1; exact gd w h1.1 h1.2
def F_Md : u_T := fun k => match k with
  | 0 => ("PackListsModel", "text", "[I", true)
  | 1 => ("PackListsModel", "size", "I", false)
  | 2 => ("PackListsModel", "apart", "[Z", true)
  | 3 => ("PackListsModel", "points", "[I", true)
  | 4 => ("PackListsModel", "ranks", "[I", true)
  | 5 => ("PackListsModel", "codes", "[I", true)
  | 6 => ("PackListsModel", "free", "I", false)
  | 7 => ("PackListsModel", "markCounts", "[I", true)
  | 8 => ("PackListsModel", "markGrams", "[I", true)
  | 9 => ("PackListsModel", "markSizes", "[I", true)
  | 10 => ("PackListsModel", "noteCounts", "[I", true)
  | 11 => ("PackListsModel", "notes", "[I", true)
  | 12 => ("PackListsModel", "leads", "[I", true)
  | 13 => ("PackListsModel", "newApart", "[Z", true)
  | 14 => ("PackListsModel", "newPoints", "[I", true)
  | 15 => ("PackListsModel", "newRanks", "[I", true)
  | 16 => ("PackListsModel", "newCodes", "[I", true)
  | 17 => ("PackListsModel", "newFree", "I", false)
  | 18 => ("PackListsModel", "newMarkCounts", "[I", true)
  | 19 => ("PackListsModel", "newMarkGrams", "[I", true)
  | 20 => ("PackListsModel", "newMarkSizes", "[I", true)
  | 21 => ("PackListsModel", "newNoteCounts", "[I", true)
  | 22 => ("PackListsModel", "newNotes", "[I", true)
  | 23 => ("PackListsModel", "newLeads", "[I", true)
  | 24 => ("PackListsModel", "bottles", "I", false)
  | 25 => ("PackListsModel", "classes", "[I", true)
  | 26 => ("PackListsModel", "grams", "[J", true)
  | 27 => ("PackListsModel", "steps", "[I", true)
  | 28 => ("PackListsModel", "out", "[Z", true)
  | 29 => ("PackListsModel", "outs", "I", false)
  | 30 => ("PackListsModel", "outRows", "[I", true)
  | 31 => ("PackListsModel", "boxes", "I", false)
  | 32 => ("PackListsModel", "mosts", "[J", true)
  | 33 => ("PackListsModel", "counts", "[I", true)
  | 34 => ("PackListsModel", "absorbers", "[J", true)
  | 35 => ("PackListsModel", "isFound", "Z", false)
  | 36 => ("PackListsModel", "isProved", "Z", false)
  | 37 => ("PackListsModel", "found", "[I", true)
  | 38 => ("PackListsModel", "way", "[I", true)
  | 39 => ("PackListsModel", "list", "[I", true)
  | 40 => ("PackListsModel", "from", "I", false)
  | 41 => ("PackListsModel", "end", "I", false)
  | 42 => ("PackListsModel", "number", "I", false)
  | 43 => ("PackListsModel", "told", "[I", true)
  | 44 => ("PackListsModel", "left", "I", false)
  | _ => ("PackListsModel", "looked", "I", false)
def t_Md : Nat → FieldType := fun k => match k with
  | 0 => .array .int
  | 1 => .int
  | 2 => .array .boolean
  | 3 => .array .int
  | 4 => .array .int
  | 5 => .array .int
  | 6 => .int
  | 7 => .array .int
  | 8 => .array .int
  | 9 => .array .int
  | 10 => .array .int
  | 11 => .array .int
  | 12 => .array .int
  | 13 => .array .boolean
  | 14 => .array .int
  | 15 => .array .int
  | 16 => .array .int
  | 17 => .int
  | 18 => .array .int
  | 19 => .array .int
  | 20 => .array .int
  | 21 => .array .int
  | 22 => .array .int
  | 23 => .array .int
  | 24 => .int
  | 25 => .array .int
  | 26 => .array .long
  | 27 => .array .int
  | 28 => .array .boolean
  | 29 => .int
  | 30 => .array .int
  | 31 => .int
  | 32 => .array .long
  | 33 => .array .int
  | 34 => .array .long
  | 35 => .boolean
  | 36 => .boolean
  | 37 => .array .int
  | 38 => .array .int
  | 39 => .array .int
  | 40 => .int
  | 41 => .int
  | 42 => .int
  | 43 => .array .int
  | 44 => .int
  | _ => .int
theorem n_Md : ∀ a, a < 46 → ∀ b, b < 46 → a ≠ b → (F_Md a).2.1 ≠ (F_Md b).2.1 := by decide +kernel
theorem t_Md_ok : ∀ k, k < 46 → parseFieldDescriptor (F_Md k).2.2.1 = some (t_Md k) := by decide +kernel
theorem i0_Md : (u_ws R_Md F_Md 46).all (fun w => decide (w ∈ lw_tbl) && goodWord w) = true := by decide +kernel
theorem in_Md : ∀ w ∈ u_ws R_Md F_Md 46, w ∈ lw_gd := fun w h => by have h1 := List.all_eq_true.mp i0_Md w h; simp only [Bool.and_eq_true, decide_eq_true_eq] at h1; exact gd w h1.1 h1.2
abbrev vwCl : List vw_C := [(R_PL, F_PL, 7), (R_Tx, F_Tx, 6), (R_St, F_St, 11), (R_Pk, F_Pk, 10), (R_Ld, F_Ld, 5), (R_Rl, F_Rl, 11), (R_Md, F_Md, 46)]
abbrev b_PL_init : ByteArray := prog_1_method_1_code
def y_PL_init : MethodName := ⟨R_PL, "<init>", "()V"⟩
abbrev b_Tx_init : ByteArray := prog_8_method_1_code
def y_Tx_init : MethodName := ⟨R_Tx, "<init>", "()V"⟩
abbrev b_St_init : ByteArray := prog_7_method_1_code
def y_St_init : MethodName := ⟨R_St, "<init>", "()V"⟩
abbrev b_Pk_init : ByteArray := prog_5_method_1_code
def y_Pk_init : MethodName := ⟨R_Pk, "<init>", "()V"⟩
abbrev b_Ar_fill : ByteArray := prog_17_method_103_code
def y_Ar_fill : MethodName := ⟨R_Ar, "fill", "([II)V"⟩
abbrev b_Ld_init : ByteArray := prog_4_method_1_code
def y_Ld_init : MethodName := ⟨R_Ld, "<init>", "()V"⟩
abbrev b_Rl_init : ByteArray := prog_6_method_1_code
def y_Rl_init : MethodName := ⟨R_Rl, "<init>", "()V"⟩
abbrev b_PL_unit : ByteArray := prog_1_method_2_code
def y_PL_unit : MethodName := ⟨R_PL, "unit", "(I)Z"⟩
abbrev b_Tx_takeByte : ByteArray := prog_8_method_2_code
def y_Tx_takeByte : MethodName := ⟨R_Tx, "takeByte", "(I)Z"⟩
abbrev b_PL_rules : ByteArray := prog_1_method_3_code
def y_PL_rules : MethodName := ⟨R_PL, "rules", "()I"⟩
abbrev b_Rl_forget : ByteArray := prog_6_method_2_code
def y_Rl_forget : MethodName := ⟨R_Rl, "forget", "()V"⟩
abbrev b_Tx_read : ByteArray := prog_8_method_4_code
def y_Tx_read : MethodName := ⟨R_Tx, "read", "(LPackLists$Rules;)I"⟩
abbrev b_Tx_takeWord : ByteArray := prog_8_method_5_code
def y_Tx_takeWord : MethodName := ⟨R_Tx, "takeWord", "(IILPackLists$Rules;)Z"⟩
abbrev b_Tx_kindOf : ByteArray := prog_8_method_9_code
def y_Tx_kindOf : MethodName := ⟨R_Tx, "kindOf", "(II)LPackLists$Kind;"⟩
abbrev b_Tx_isWord : ByteArray := prog_8_method_10_code
def y_Tx_isWord : MethodName := ⟨R_Tx, "isWord", "(Ljava/lang/String;II)Z"⟩
abbrev b_Sg_length : ByteArray := prog_13_method_54_code
def y_Sg_length : MethodName := ⟨R_Sg, "length", "()I"⟩
abbrev b_Sg_coder : ByteArray := prog_13_method_152_code
def y_Sg_coder : MethodName := ⟨R_Sg, "coder", "()B"⟩
abbrev b_Sg_charAt : ByteArray := prog_13_method_56_code
def y_Sg_charAt : MethodName := ⟨R_Sg, "charAt", "(I)C"⟩
abbrev b_Sg_isLatin1 : ByteArray := prog_13_method_154_code
def y_Sg_isLatin1 : MethodName := ⟨R_Sg, "isLatin1", "()Z"⟩
abbrev b_S1_charAt : ByteArray := prog_14_method_2_code
def y_S1_charAt : MethodName := ⟨R_S1, "charAt", "([BI)C"⟩
abbrev b_Sg_checkIndex : ByteArray := prog_13_method_155_code
def y_Sg_checkIndex : MethodName := ⟨R_Sg, "checkIndex", "(II)V"⟩
abbrev b_Pc_checkIndex : ByteArray := prog_18_method_11_code
def y_Pc_checkIndex : MethodName := ⟨R_Pc, "checkIndex", "(IILjava/util/function/BiFunction;)I"⟩
abbrev b_S2_charAt : ByteArray := prog_15_method_83_code
def y_S2_charAt : MethodName := ⟨R_S2, "charAt", "([BI)C"⟩
abbrev b_S2_checkIndex : ByteArray := prog_15_method_91_code
def y_S2_checkIndex : MethodName := ⟨R_S2, "checkIndex", "(I[B)V"⟩
abbrev b_S2_length : ByteArray := prog_15_method_6_code
def y_S2_length : MethodName := ⟨R_S2, "length", "([B)I"⟩
abbrev b_S2_getChar : ByteArray := prog_15_method_5_code
def y_S2_getChar : MethodName := ⟨R_S2, "getChar", "([BI)C"⟩
abbrev b_Tx_canBegin : ByteArray := prog_8_method_6_code
def y_Tx_canBegin : MethodName := ⟨R_Tx, "canBegin", "(LPackLists$Rules;)Z"⟩
abbrev b_Rl_hasRoomForNotes : ByteArray := prog_6_method_5_code
def y_Rl_hasRoomForNotes : MethodName := ⟨R_Rl, "hasRoomForNotes", "()Z"⟩
abbrev b_Rl_hasRoomForNote : ByteArray := prog_6_method_4_code
def y_Rl_hasRoomForNote : MethodName := ⟨R_Rl, "hasRoomForNote", "(I)Z"⟩
abbrev b_Tx_numberOf : ByteArray := prog_8_method_11_code
def y_Tx_numberOf : MethodName := ⟨R_Tx, "numberOf", "(II)I"⟩
abbrev b_Tx_takeNumber : ByteArray := prog_8_method_7_code
def y_Tx_takeNumber : MethodName := ⟨R_Tx, "takeNumber", "(ILPackLists$Rules;)Z"⟩
abbrev b_Tx_canStand : ByteArray := prog_8_method_8_code
def y_Tx_canStand : MethodName := ⟨R_Tx, "canStand", "(ILPackLists$Rules;)Z"⟩
abbrev b_Kd_least : ByteArray := prog_3_method_5_code
def y_Kd_least : MethodName := ⟨R_Kd, "least", "(I)I"⟩
abbrev b_Kd_most : ByteArray := prog_3_method_4_code
def y_Kd_most : MethodName := ⟨R_Kd, "most", "(I)I"⟩
abbrev b_Rl_hasRoomForMark : ByteArray := prog_6_method_6_code
def y_Rl_hasRoomForMark : MethodName := ⟨R_Rl, "hasRoomForMark", "(II)Z"⟩
abbrev b_Rl_placeOfMark : ByteArray := prog_6_method_7_code
def y_Rl_placeOfMark : MethodName := ⟨R_Rl, "placeOfMark", "(II)I"⟩
abbrev b_Rl_learn : ByteArray := prog_6_method_3_code
def y_Rl_learn : MethodName := ⟨R_Rl, "learn", "(LPackLists$Kind;III)V"⟩
abbrev b_En_ordinal : ByteArray := prog_11_method_2_code
def y_En_ordinal : MethodName := ⟨R_En, "ordinal", "()I"⟩
abbrev b_Rl_setMark : ByteArray := prog_6_method_8_code
def y_Rl_setMark : MethodName := ⟨R_Rl, "setMark", "(III)V"⟩
abbrev b_Ma_max : ByteArray := prog_12_method_65_code
def y_Ma_max : MethodName := ⟨R_Ma, "max", "(II)I"⟩
abbrev b_Rl_addNote : ByteArray := prog_6_method_9_code
def y_Rl_addNote : MethodName := ⟨R_Rl, "addNote", "(II)V"⟩
abbrev b_Tx_clear : ByteArray := prog_8_method_3_code
def y_Tx_clear : MethodName := ⟨R_Tx, "clear", "()V"⟩
abbrev b_PL_bottle : ByteArray := prog_1_method_4_code
def y_PL_bottle : MethodName := ⟨R_PL, "bottle", "(IJ)I"⟩
abbrev b_PL_isClass : ByteArray := prog_1_method_22_code
def y_PL_isClass : MethodName := ⟨R_PL, "isClass", "(I)Z"⟩
abbrev b_St_addBottle : ByteArray := prog_7_method_6_code
def y_St_addBottle : MethodName := ⟨R_St, "addBottle", "(II)I"⟩
abbrev b_PL_box : ByteArray := prog_1_method_5_code
def y_PL_box : MethodName := ⟨R_PL, "box", "(IJI)I"⟩
abbrev b_PL_isBoxGrams : ByteArray := prog_1_method_23_code
def y_PL_isBoxGrams : MethodName := ⟨R_PL, "isBoxGrams", "(J)Z"⟩
abbrev b_St_addBox : ByteArray := prog_7_method_7_code
def y_St_addBox : MethodName := ⟨R_St, "addBox", "(II)I"⟩
abbrev b_PL_absorber : ByteArray := prog_1_method_6_code
def y_PL_absorber : MethodName := ⟨R_PL, "absorber", "(IJ)Z"⟩
abbrev b_St_hasBox : ByteArray := prog_7_method_3_code
def y_St_hasBox : MethodName := ⟨R_St, "hasBox", "(I)Z"⟩
abbrev b_PL_pack : ByteArray := prog_1_method_7_code
def y_PL_pack : MethodName := ⟨R_PL, "pack", "(J)I"⟩
abbrev b_Pk_search : ByteArray := prog_5_method_2_code
def y_Pk_search : MethodName := ⟨R_Pk, "search", "(LPackLists$Stock;LPackLists$Rules;J)I"⟩
abbrev b_Pk_lineUp : ByteArray := prog_5_method_4_code
def y_Pk_lineUp : MethodName := ⟨R_Pk, "lineUp", "(LPackLists$Stock;)V"⟩
abbrev b_St_isToBePacked : ByteArray := prog_7_method_5_code
def y_St_isToBePacked : MethodName := ⟨R_St, "isToBePacked", "(I)Z"⟩
abbrev b_St_isRefused : ByteArray := prog_7_method_4_code
def y_St_isRefused : MethodName := ⟨R_St, "isRefused", "(I)Z"⟩
abbrev b_Pk_countWays : ByteArray := prog_5_method_5_code
def y_Pk_countWays : MethodName := ⟨R_Pk, "countWays", "(I)J"⟩
abbrev b_Pk_emptyBoxes : ByteArray := prog_5_method_6_code
def y_Pk_emptyBoxes : MethodName := ⟨R_Pk, "emptyBoxes", "()V"⟩
abbrev b_Pk_eachFitsAlone : ByteArray := prog_5_method_7_code
def y_Pk_eachFitsAlone : MethodName := ⟨R_Pk, "eachFitsAlone", "(LPackLists$Stock;LPackLists$Rules;)Z"⟩
abbrev b_Pk_fits : ByteArray := prog_5_method_9_code
def y_Pk_fits : MethodName := ⟨R_Pk, "fits", "(LPackLists$Stock;LPackLists$Rules;II)Z"⟩
abbrev b_Pk_place : ByteArray := prog_5_method_8_code
def y_Pk_place : MethodName := ⟨R_Pk, "place", "(LPackLists$Packer;LPackLists$Stock;LPackLists$Rules;II)V"⟩
abbrev b_Pk_putIn : ByteArray := prog_5_method_10_code
def y_Pk_putIn : MethodName := ⟨R_Pk, "putIn", "(LPackLists$Stock;II)V"⟩
abbrev b_Pk_takeOut : ByteArray := prog_5_method_11_code
def y_Pk_takeOut : MethodName := ⟨R_Pk, "takeOut", "(LPackLists$Stock;III)V"⟩
abbrev b_PL_boxOf : ByteArray := prog_1_method_8_code
def y_PL_boxOf : MethodName := ⟨R_PL, "boxOf", "(I)I"⟩
abbrev b_St_hasBottle : ByteArray := prog_7_method_2_code
def y_St_hasBottle : MethodName := ⟨R_St, "hasBottle", "(I)Z"⟩
abbrev b_PL_proved : ByteArray := prog_1_method_9_code
def y_PL_proved : MethodName := ⟨R_PL, "proved", "()Z"⟩
abbrev b_PL_kept : ByteArray := prog_1_method_10_code
def y_PL_kept : MethodName := ⟨R_PL, "kept", "()Z"⟩
abbrev b_Pk_stillHolds : ByteArray := prog_5_method_3_code
def y_Pk_stillHolds : MethodName := ⟨R_Pk, "stillHolds", "(LPackLists$Stock;LPackLists$Rules;)Z"⟩
abbrev b_PL_points : ByteArray := prog_1_method_11_code
def y_PL_points : MethodName := ⟨R_PL, "points", "()J"⟩
abbrev b_Ld_gather : ByteArray := prog_4_method_2_code
def y_Ld_gather : MethodName := ⟨R_Ld, "gather", "(LPackLists$Stock;[I)V"⟩
abbrev b_Ld_pointsOfAll : ByteArray := prog_4_method_6_code
def y_Ld_pointsOfAll : MethodName := ⟨R_Ld, "pointsOfAll", "(LPackLists$Rules;)J"⟩
abbrev b_Ld_pointsOfClass : ByteArray := prog_4_method_5_code
def y_Ld_pointsOfClass : MethodName := ⟨R_Ld, "pointsOfClass", "(LPackLists$Rules;I)I"⟩
abbrev b_PL_exempt : ByteArray := prog_1_method_12_code
def y_PL_exempt : MethodName := ⟨R_PL, "exempt", "()Z"⟩
abbrev b_Ld_isFree : ByteArray := prog_4_method_7_code
def y_Ld_isFree : MethodName := ⟨R_Ld, "isFree", "(LPackLists$Rules;)Z"⟩
abbrev b_PL_name : ByteArray := prog_1_method_13_code
def y_PL_name : MethodName := ⟨R_PL, "name", "(I)I"⟩
abbrev b_Ld_sort : ByteArray := prog_4_method_3_code
def y_Ld_sort : MethodName := ⟨R_Ld, "sort", "(LPackLists$Rules;)V"⟩
abbrev b_Ld_insert : ByteArray := prog_4_method_4_code
def y_Ld_insert : MethodName := ⟨R_Ld, "insert", "(LPackLists$Rules;I)V"⟩
abbrev b_PL_order : ByteArray := prog_1_method_14_code
def y_PL_order : MethodName := ⟨R_PL, "order", "(I)I"⟩
abbrev b_Ld_bottleAt : ByteArray := prog_4_method_9_code
def y_Ld_bottleAt : MethodName := ⟨R_Ld, "bottleAt", "(LPackLists$Stock;[II)I"⟩
abbrev b_PL_paper : ByteArray := prog_1_method_15_code
def y_PL_paper : MethodName := ⟨R_PL, "paper", "(I)I"⟩
abbrev b_Ld_write : ByteArray := prog_4_method_10_code
def y_Ld_write : MethodName := ⟨R_Ld, "write", "(LPackLists$Rules;)V"⟩
abbrev b_Ld_writeDecimals : ByteArray := prog_4_method_11_code
def y_Ld_writeDecimals : MethodName := ⟨R_Ld, "writeDecimals", "(I)V"⟩
abbrev b_Ld_writeByte : ByteArray := prog_4_method_12_code
def y_Ld_writeByte : MethodName := ⟨R_Ld, "writeByte", "(I)V"⟩
abbrev b_PL_mark : ByteArray := prog_1_method_16_code
def y_PL_mark : MethodName := ⟨R_PL, "mark", "(I)I"⟩
abbrev b_Rl_markSize : ByteArray := prog_6_method_10_code
def y_Rl_markSize : MethodName := ⟨R_Rl, "markSize", "(II)I"⟩
abbrev b_PL_tunnel : ByteArray := prog_1_method_17_code
def y_PL_tunnel : MethodName := ⟨R_PL, "tunnel", "()I"⟩
abbrev b_Ld_greatestCode : ByteArray := prog_4_method_8_code
def y_Ld_greatestCode : MethodName := ⟨R_Ld, "greatestCode", "(LPackLists$Rules;)I"⟩
abbrev b_PL_note : ByteArray := prog_1_method_18_code
def y_PL_note : MethodName := ⟨R_PL, "note", "(II)I"⟩
abbrev b_Rl_noteAt : ByteArray := prog_6_method_11_code
def y_Rl_noteAt : MethodName := ⟨R_Rl, "noteAt", "(II)I"⟩
abbrev b_PL_refuse : ByteArray := prog_1_method_19_code
def y_PL_refuse : MethodName := ⟨R_PL, "refuse", "(II)I"⟩
abbrev b_St_turnAway : ByteArray := prog_7_method_8_code
def y_St_turnAway : MethodName := ⟨R_St, "turnAway", "(II)I"⟩
abbrev b_PL_refused : ByteArray := prog_1_method_20_code
def y_PL_refused : MethodName := ⟨R_PL, "refused", "(I)I"⟩
abbrev b_PL_test : ByteArray := prog_1_method_21_code
def y_PL_test : MethodName := ⟨R_PL, "test", "(III)I"⟩
abbrev b_Rl_outcomeOf : ByteArray := prog_6_method_12_code
def y_Rl_outcomeOf : MethodName := ⟨R_Rl, "outcomeOf", "(II)I"⟩
abbrev b_St_learn : ByteArray := prog_7_method_9_code
def y_St_learn : MethodName := ⟨R_St, "learn", "(II)I"⟩
abbrev b_Md_init : ByteArray := prog_10_method_1_code
def y_Md_init : MethodName := ⟨R_Md, "<init>", "()V"⟩
abbrev b_Md_clearNew : ByteArray := prog_10_method_7_code
def y_Md_clearNew : MethodName := ⟨R_Md, "clearNew", "()V"⟩
abbrev b_Md_take : ByteArray := prog_10_method_8_code
def y_Md_take : MethodName := ⟨R_Md, "take", "()V"⟩
abbrev b_Md_unit : ByteArray := prog_10_method_5_code
def y_Md_unit : MethodName := ⟨R_Md, "unit", "(I)Z"⟩
abbrev b_Md_isIn : ByteArray := prog_10_method_3_code
def y_Md_isIn : MethodName := ⟨R_Md, "isIn", "(JJJ)Z"⟩
abbrev b_Md_rules : ByteArray := prog_10_method_19_code
def y_Md_rules : MethodName := ⟨R_Md, "rules", "()I"⟩
abbrev b_Md_next : ByteArray := prog_10_method_9_code
def y_Md_next : MethodName := ⟨R_Md, "next", "()Z"⟩
abbrev b_Md_isBlank : ByteArray := prog_10_method_6_code
def y_Md_isBlank : MethodName := ⟨R_Md, "isBlank", "(I)Z"⟩
abbrev b_Md_sentence : ByteArray := prog_10_method_12_code
def y_Md_sentence : MethodName := ⟨R_Md, "sentence", "()I"⟩
abbrev b_Md_is : ByteArray := prog_10_method_10_code
def y_Md_is : MethodName := ⟨R_Md, "is", "(J)Z"⟩
abbrev b_Md_hasRoom : ByteArray := prog_10_method_17_code
def y_Md_hasRoom : MethodName := ⟨R_Md, "hasRoom", "()Z"⟩
abbrev b_Md_parts : ByteArray := prog_10_method_13_code
def y_Md_parts : MethodName := ⟨R_Md, "parts", "(I)I"⟩
abbrev b_Md_numberAt : ByteArray := prog_10_method_11_code
def y_Md_numberAt : MethodName := ⟨R_Md, "numberAt", "()I"⟩
abbrev b_Md_least : ByteArray := prog_10_method_14_code
def y_Md_least : MethodName := ⟨R_Md, "least", "(II)I"⟩
abbrev b_Md_greatest : ByteArray := prog_10_method_15_code
def y_Md_greatest : MethodName := ⟨R_Md, "greatest", "(II)I"⟩
abbrev b_Md_markOf : ByteArray := prog_10_method_16_code
def y_Md_markOf : MethodName := ⟨R_Md, "markOf", "(II)I"⟩
abbrev b_Md_tell : ByteArray := prog_10_method_18_code
def y_Md_tell : MethodName := ⟨R_Md, "tell", "(IIII)V"⟩
abbrev b_Md_bottle : ByteArray := prog_10_method_20_code
def y_Md_bottle : MethodName := ⟨R_Md, "bottle", "(IJ)I"⟩
abbrev b_Md_box : ByteArray := prog_10_method_21_code
def y_Md_box : MethodName := ⟨R_Md, "box", "(IJI)I"⟩
abbrev b_Md_absorber : ByteArray := prog_10_method_22_code
def y_Md_absorber : MethodName := ⟨R_Md, "absorber", "(IJ)Z"⟩
abbrev b_Md_refuse : ByteArray := prog_10_method_23_code
def y_Md_refuse : MethodName := ⟨R_Md, "refuse", "(II)I"⟩
abbrev b_Md_isBottle : ByteArray := prog_10_method_4_code
def y_Md_isBottle : MethodName := ⟨R_Md, "isBottle", "(I)Z"⟩
abbrev b_Md_refused : ByteArray := prog_10_method_24_code
def y_Md_refused : MethodName := ⟨R_Md, "refused", "(I)I"⟩
abbrev b_Md_test : ByteArray := prog_10_method_25_code
def y_Md_test : MethodName := ⟨R_Md, "test", "(III)I"⟩
abbrev b_Md_pack : ByteArray := prog_10_method_30_code
def y_Md_pack : MethodName := ⟨R_Md, "pack", "(J)I"⟩
abbrev b_Md_isToBePacked : ByteArray := prog_10_method_26_code
def y_Md_isToBePacked : MethodName := ⟨R_Md, "isToBePacked", "(I)Z"⟩
abbrev b_Md_used : ByteArray := prog_10_method_28_code
def y_Md_used : MethodName := ⟨R_Md, "used", "([I)I"⟩
abbrev b_Md_keeps : ByteArray := prog_10_method_27_code
def y_Md_keeps : MethodName := ⟨R_Md, "keeps", "([I)Z"⟩
abbrev b_Md_turn : ByteArray := prog_10_method_29_code
def y_Md_turn : MethodName := ⟨R_Md, "turn", "(I)Z"⟩
abbrev b_Md_boxOf : ByteArray := prog_10_method_31_code
def y_Md_boxOf : MethodName := ⟨R_Md, "boxOf", "(I)I"⟩
abbrev b_Md_proved : ByteArray := prog_10_method_32_code
def y_Md_proved : MethodName := ⟨R_Md, "proved", "()Z"⟩
abbrev b_Md_kept : ByteArray := prog_10_method_33_code
def y_Md_kept : MethodName := ⟨R_Md, "kept", "()Z"⟩
abbrev b_Md_points : ByteArray := prog_10_method_37_code
def y_Md_points : MethodName := ⟨R_Md, "points", "()J"⟩
abbrev b_Md_pointsOf : ByteArray := prog_10_method_36_code
def y_Md_pointsOf : MethodName := ⟨R_Md, "pointsOf", "(I)J"⟩
abbrev b_Md_gramsOf : ByteArray := prog_10_method_35_code
def y_Md_gramsOf : MethodName := ⟨R_Md, "gramsOf", "(I)J"⟩
abbrev b_Md_isLoaded : ByteArray := prog_10_method_34_code
def y_Md_isLoaded : MethodName := ⟨R_Md, "isLoaded", "(I)Z"⟩
abbrev b_Md_exempt : ByteArray := prog_10_method_38_code
def y_Md_exempt : MethodName := ⟨R_Md, "exempt", "()Z"⟩
abbrev b_Md_name : ByteArray := prog_10_method_40_code
def y_Md_name : MethodName := ⟨R_Md, "name", "(I)I"⟩
abbrev b_Md_placeOf : ByteArray := prog_10_method_39_code
def y_Md_placeOf : MethodName := ⟨R_Md, "placeOf", "(I)I"⟩
abbrev b_Md_order : ByteArray := prog_10_method_41_code
def y_Md_order : MethodName := ⟨R_Md, "order", "(I)I"⟩
abbrev b_Md_paper : ByteArray := prog_10_method_44_code
def y_Md_paper : MethodName := ⟨R_Md, "paper", "(I)I"⟩
abbrev b_Md_putNumber : ByteArray := prog_10_method_43_code
def y_Md_putNumber : MethodName := ⟨R_Md, "putNumber", "(J)V"⟩
abbrev b_Md_put : ByteArray := prog_10_method_42_code
def y_Md_put : MethodName := ⟨R_Md, "put", "(I)V"⟩
abbrev b_Md_mark : ByteArray := prog_10_method_45_code
def y_Md_mark : MethodName := ⟨R_Md, "mark", "(I)I"⟩
abbrev b_Md_tunnel : ByteArray := prog_10_method_46_code
def y_Md_tunnel : MethodName := ⟨R_Md, "tunnel", "()I"⟩
abbrev b_Md_note : ByteArray := prog_10_method_47_code
def y_Md_note : MethodName := ⟨R_Md, "note", "(II)I"⟩
theorem in_objI : Cond.instanceMethod Lib.objectInit ∈ lw_gd := (gd _ (tb0 _ (List.mem_of_getElem? (i := 24) rfl)) rfl)
theorem in_objC : Cond.code Lib.objectInit ⟨#[0xb1]⟩ 1 none ∈ lw_gd := (gd _ (tb0 _ (List.mem_of_getElem? (i := 25) rfl)) rfl)
theorem in_mmaxS : Cond.static Lib.Math.max.name ∈ lw_gd := (gd _ (tb1 _ (List.mem_of_getElem? (i := 154) rfl)) rfl)
theorem in_mI : Cond.initialized "java/lang/Math" ∈ lw_gd := (gd _ (tb0 _ (List.mem_of_getElem? (i := 16) rfl)) rfl)
theorem in_mmaxC : Cond.code Lib.Math.max.name Lib.Math.max.code 2 (some .int) ∈ lw_gd := (gd _ (tb1 _ (List.mem_of_getElem? (i := 155) rfl)) rfl)
theorem in_cpN : Cond.native arraycopyName ∈ lw_gd := (gd _ (tb1 _ (List.mem_of_getElem? (i := 237) rfl)) rfl)
theorem in_cpS : Cond.static arraycopyName ∈ lw_gd := (gd _ (tb1 _ (List.mem_of_getElem? (i := 236) rfl)) rfl)
theorem in_cpI : Cond.initialized "java/lang/System" ∈ lw_gd := (gd _ (tb0 _ (List.mem_of_getElem? (i := 17) rfl)) rfl)
theorem is_PL : Cond.instantiable R_PL 7 ∈ lw_gd := (gd _ (tb0 _ (List.mem_of_getElem? (i := 19) rfl)) rfl)
theorem ii_PL : Cond.initialized R_PL ∈ lw_gd := (gd _ (tb0 _ (List.mem_of_getElem? (i := 1) rfl)) rfl)
theorem is_Tx : Cond.instantiable R_Tx 6 ∈ lw_gd := (gd _ (tb0 _ (List.mem_of_getElem? (i := 27) rfl)) rfl)
theorem ii_Tx : Cond.initialized R_Tx ∈ lw_gd := (gd _ (tb0 _ (List.mem_of_getElem? (i := 2) rfl)) rfl)
theorem is_St : Cond.instantiable R_St 11 ∈ lw_gd := (gd _ (tb0 _ (List.mem_of_getElem? (i := 53) rfl)) rfl)
theorem ii_St : Cond.initialized R_St ∈ lw_gd := (gd _ (tb0 _ (List.mem_of_getElem? (i := 3) rfl)) rfl)
theorem is_Pk : Cond.instantiable R_Pk 10 ∈ lw_gd := (gd _ (tb0 _ (List.mem_of_getElem? (i := 111) rfl)) rfl)
theorem ii_Pk : Cond.initialized R_Pk ∈ lw_gd := (gd _ (tb0 _ (List.mem_of_getElem? (i := 4) rfl)) rfl)
theorem is_Ld : Cond.instantiable R_Ld 5 ∈ lw_gd := (gd _ (tb0 _ (List.mem_of_getElem? (i := 153) rfl)) rfl)
theorem ii_Ld : Cond.initialized R_Ld ∈ lw_gd := (gd _ (tb0 _ (List.mem_of_getElem? (i := 6) rfl)) rfl)
theorem is_Rl : Cond.instantiable R_Rl 11 ∈ lw_gd := (gd _ (tb0 _ (List.mem_of_getElem? (i := 180) rfl)) rfl)
theorem ii_Rl : Cond.initialized R_Rl ∈ lw_gd := (gd _ (tb0 _ (List.mem_of_getElem? (i := 7) rfl)) rfl)
theorem is_Md : Cond.instantiable R_Md 46 ∈ lw_gd := (gd _ (tb2 _ (List.mem_of_getElem? (i := 139) rfl)) rfl)
theorem ii_Md : Cond.initialized R_Md ∈ lw_gd := (gd _ (tb0 _ (List.mem_of_getElem? (i := 8) rfl)) rfl)
theorem in_aint : Cond.arrayClass .int ∈ lw_gd := (gd _ (tb0 _ (List.mem_of_getElem? (i := 51) rfl)) rfl)
theorem in_aboolean : Cond.arrayClass .boolean ∈ lw_gd := (gd _ (tb3 _ (List.mem_of_getElem? (i := 50) rfl)) rfl)
theorem in_along : Cond.arrayClass .long ∈ lw_gd := (gd _ (tb3 _ (List.mem_of_getElem? (i := 51) rfl)) rfl)
