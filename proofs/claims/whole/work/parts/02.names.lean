def R_MG : String := "MotionGroups"
def F_MG : u_T := fun k => match k with
  | 0 => ("MotionGroups", "symmetry", "LMotionGroups$Symmetry;", true)
  | 1 => ("MotionGroups", "typed", "LMotionGroups$CycleText;", true)
  | 2 => ("MotionGroups", "ranks", "[I", true)
  | 3 => ("MotionGroups", "permutationCount", "I", false)
  | 4 => ("MotionGroups", "groups", "[LMotionGroups$Subgroup;", true)
  | 5 => ("MotionGroups", "groupCount", "I", false)
  | 6 => ("MotionGroups", "evenSpare", "LMotionGroups$Subgroup;", true)
  | _ => ("MotionGroups", "oddSpare", "LMotionGroups$Subgroup;", true)
def t_MG : Nat → FieldType := fun k => match k with
  | 0 => .object "MotionGroups$Symmetry"
  | 1 => .object "MotionGroups$CycleText"
  | 2 => .array (.int)
  | 3 => .int
  | 4 => .array (.object "MotionGroups$Subgroup")
  | 5 => .int
  | 6 => .object "MotionGroups$Subgroup"
  | _ => .object "MotionGroups$Subgroup"
theorem n_MG : ∀ a, a < 8 → ∀ b, b < 8 → a ≠ b → (F_MG a).2.1 ≠ (F_MG b).2.1 := by decide +kernel
theorem t_MG_ok : ∀ k, k < 8 → parseFieldDescriptor (F_MG k).2.2.1 = some (t_MG k) := by decide +kernel
theorem in_MG : ∀ w ∈ u_ws R_MG F_MG 8, w ∈ gw_ := fun w h => by
  obtain ⟨k, hk, rfl⟩ := List.mem_map.mp h
  have hk := List.mem_range.mp hk
  rcases (show k = 0 ∨ k = 1 ∨ k = 2 ∨ k = 3 ∨ k = 4 ∨ k = 5 ∨ k = 6 ∨ k = 7 by omega) with rfl | rfl | rfl | rfl | rfl | rfl | rfl | rfl
  · exact gw_t1 129 rfl rfl
  · exact gw_t1 131 rfl rfl
  · exact gw_t1 133 rfl rfl
  · exact gw_t1 135 rfl rfl
  · exact gw_t1 137 rfl rfl
  · exact gw_t1 139 rfl rfl
  · exact gw_t1 141 rfl rfl
  · exact gw_t1 143 rfl rfl
def R_SY : String := "MotionGroups$Symmetry"
def F_SY : u_T := fun k => match k with
  | 0 => ("MotionGroups$Symmetry", "points", "I", true)
  | 1 => ("MotionGroups$Symmetry", "size", "I", true)
  | 2 => ("MotionGroups$Symmetry", "table", "[B", true)
  | _ => ("MotionGroups$Symmetry", "row", "[I", true)
def t_SY : Nat → FieldType := fun k => match k with
  | 0 => .int
  | 1 => .int
  | 2 => .array (.byte)
  | _ => .array (.int)
theorem n_SY : ∀ a, a < 4 → ∀ b, b < 4 → a ≠ b → (F_SY a).2.1 ≠ (F_SY b).2.1 := by decide +kernel
theorem t_SY_ok : ∀ k, k < 4 → parseFieldDescriptor (F_SY k).2.2.1 = some (t_SY k) := by decide +kernel
theorem in_SY : ∀ w ∈ u_ws R_SY F_SY 4, w ∈ gw_ := fun w h => by
  obtain ⟨k, hk, rfl⟩ := List.mem_map.mp h
  have hk := List.mem_range.mp hk
  rcases (show k = 0 ∨ k = 1 ∨ k = 2 ∨ k = 3 by omega) with rfl | rfl | rfl | rfl
  · exact gw_t1 41 rfl rfl
  · exact gw_t1 43 rfl rfl
  · exact gw_t1 45 rfl rfl
  · exact gw_t1 47 rfl rfl
def R_SU : String := "MotionGroups$Subgroup"
def F_SU : u_T := fun k => match k with
  | 0 => ("MotionGroups$Subgroup", "size", "I", false)
  | 1 => ("MotionGroups$Subgroup", "symmetry", "LMotionGroups$Symmetry;", true)
  | 2 => ("MotionGroups$Subgroup", "members", "[J", true)
  | 3 => ("MotionGroups$Subgroup", "generators", "[I", true)
  | 4 => ("MotionGroups$Subgroup", "generatorCount", "I", false)
  | _ => ("MotionGroups$Subgroup", "listed", "[I", true)
def t_SU : Nat → FieldType := fun k => match k with
  | 0 => .int
  | 1 => .object "MotionGroups$Symmetry"
  | 2 => .array (.long)
  | 3 => .array (.int)
  | 4 => .int
  | _ => .array (.int)
theorem n_SU : ∀ a, a < 6 → ∀ b, b < 6 → a ≠ b → (F_SU a).2.1 ≠ (F_SU b).2.1 := by decide +kernel
theorem t_SU_ok : ∀ k, k < 6 → parseFieldDescriptor (F_SU k).2.2.1 = some (t_SU k) := by decide +kernel
theorem in_SU : ∀ w ∈ u_ws R_SU F_SU 6, w ∈ gw_ := fun w h => by
  obtain ⟨k, hk, rfl⟩ := List.mem_map.mp h
  have hk := List.mem_range.mp hk
  rcases (show k = 0 ∨ k = 1 ∨ k = 2 ∨ k = 3 ∨ k = 4 ∨ k = 5 by omega) with rfl | rfl | rfl | rfl | rfl | rfl
  · exact gw_t1 107 rfl rfl
  · exact gw_t1 109 rfl rfl
  · exact gw_t1 111 rfl rfl
  · exact gw_t1 113 rfl rfl
  · exact gw_t1 115 rfl rfl
  · exact gw_t1 117 rfl rfl
def R_CT : String := "MotionGroups$CycleText"
def F_CT : u_T := fun k => match k with
  | 0 => ("MotionGroups$CycleText", "parsed", "[I", true)
  | 1 => ("MotionGroups$CycleText", "points", "I", true)
  | 2 => ("MotionGroups$CycleText", "text", "[C", true)
  | 3 => ("MotionGroups$CycleText", "end", "I", false)
  | 4 => ("MotionGroups$CycleText", "open", "Z", false)
  | 5 => ("MotionGroups$CycleText", "first", "I", false)
  | 6 => ("MotionGroups$CycleText", "last", "I", false)
  | _ => ("MotionGroups$CycleText", "seen", "I", false)
def t_CT : Nat → FieldType := fun k => match k with
  | 0 => .array (.int)
  | 1 => .int
  | 2 => .array (.char)
  | 3 => .int
  | 4 => .boolean
  | 5 => .int
  | 6 => .int
  | _ => .int
theorem n_CT : ∀ a, a < 8 → ∀ b, b < 8 → a ≠ b → (F_CT a).2.1 ≠ (F_CT b).2.1 := by decide +kernel
theorem t_CT_ok : ∀ k, k < 8 → parseFieldDescriptor (F_CT k).2.2.1 = some (t_CT k) := by decide +kernel
theorem in_CT : ∀ w ∈ u_ws R_CT F_CT 8, w ∈ gw_ := fun w h => by
  obtain ⟨k, hk, rfl⟩ := List.mem_map.mp h
  have hk := List.mem_range.mp hk
  rcases (show k = 0 ∨ k = 1 ∨ k = 2 ∨ k = 3 ∨ k = 4 ∨ k = 5 ∨ k = 6 ∨ k = 7 by omega) with rfl | rfl | rfl | rfl | rfl | rfl | rfl | rfl
  · exact gw_t1 67 rfl rfl
  · exact gw_t1 69 rfl rfl
  · exact gw_t1 71 rfl rfl
  · exact gw_t1 73 rfl rfl
  · exact gw_t1 75 rfl rfl
  · exact gw_t1 77 rfl rfl
  · exact gw_t1 79 rfl rfl
  · exact gw_t1 81 rfl rfl
def R_MO : String := "MotionGroupsModel"
def F_MO : u_T := fun k => match k with
  | 0 => ("MotionGroupsModel", "n", "I", true)
  | 1 => ("MotionGroupsModel", "all", "I", true)
  | 2 => ("MotionGroupsModel", "images", "[I", true)
  | 3 => ("MotionGroupsModel", "permutations", "I", false)
  | 4 => ("MotionGroupsModel", "permutation", "[I", true)
  | 5 => ("MotionGroupsModel", "groups", "I", false)
  | 6 => ("MotionGroupsModel", "set", "[J", true)
  | 7 => ("MotionGroupsModel", "many", "[I", true)
  | 8 => ("MotionGroupsModel", "generator", "[I", true)
  | 9 => ("MotionGroupsModel", "found", "[I", true)
  | 10 => ("MotionGroupsModel", "chars", "[I", true)
  | _ => ("MotionGroupsModel", "typed", "I", false)
def t_MO : Nat → FieldType := fun k => match k with
  | 0 => .int
  | 1 => .int
  | 2 => .array (.int)
  | 3 => .int
  | 4 => .array (.int)
  | 5 => .int
  | 6 => .array (.long)
  | 7 => .array (.int)
  | 8 => .array (.int)
  | 9 => .array (.int)
  | 10 => .array (.int)
  | _ => .int
theorem n_MO : ∀ a, a < 12 → ∀ b, b < 12 → a ≠ b → (F_MO a).2.1 ≠ (F_MO b).2.1 := by decide +kernel
theorem t_MO_ok : ∀ k, k < 12 → parseFieldDescriptor (F_MO k).2.2.1 = some (t_MO k) := by decide +kernel
theorem in_MO : ∀ w ∈ u_ws R_MO F_MO 12, w ∈ gw_ := fun w h => by
  obtain ⟨k, hk, rfl⟩ := List.mem_map.mp h
  have hk := List.mem_range.mp hk
  rcases (show k = 0 ∨ k = 1 ∨ k = 2 ∨ k = 3 ∨ k = 4 ∨ k = 5 ∨ k = 6 ∨ k = 7 ∨ k = 8 ∨ k = 9 ∨ k = 10 ∨ k = 11 by omega) with rfl | rfl | rfl | rfl | rfl | rfl | rfl | rfl | rfl | rfl | rfl | rfl
  · exact gw_t2 157 rfl rfl
  · exact gw_t2 159 rfl rfl
  · exact gw_t2 161 rfl rfl
  · exact gw_t2 163 rfl rfl
  · exact gw_t2 165 rfl rfl
  · exact gw_t2 167 rfl rfl
  · exact gw_t2 169 rfl rfl
  · exact gw_t2 171 rfl rfl
  · exact gw_t2 173 rfl rfl
  · exact gw_t2 175 rfl rfl
  · exact gw_t2 177 rfl rfl
  · exact gw_t2 179 rfl rfl
def R_JI : String := "java/lang/Integer"
def R_LW : String := "MotionGroupsLaw"
abbrev classes : List vw_C := [(R_MG, F_MG, 8), (R_SY, F_SY, 4), (R_SU, F_SU, 6), (R_CT, F_CT, 8), (R_MO, F_MO, 12)]
abbrev b_MG_init : ByteArray := prog_1_method_1_code
def y_MG_init : MethodName := ⟨R_MG, "<init>", "(I)V"⟩
abbrev b_MG_clear : ByteArray := prog_1_method_20_code
def y_MG_clear : MethodName := ⟨R_MG, "clear", "()I"⟩
abbrev b_MG_closure : ByteArray := prog_1_method_17_code
def y_MG_closure : MethodName := ⟨R_MG, "closure", "(II)I"⟩
abbrev b_MG_compare : ByteArray := prog_1_method_15_code
def y_MG_compare : MethodName := ⟨R_MG, "compare", "(II)I"⟩
abbrev b_MG_contains : ByteArray := prog_1_method_10_code
def y_MG_contains : MethodName := ⟨R_MG, "contains", "(II)Z"⟩
abbrev b_MG_derived : ByteArray := prog_1_method_18_code
def y_MG_derived : MethodName := ⟨R_MG, "derived", "(I)I"⟩
abbrev b_MG_element : ByteArray := prog_1_method_11_code
def y_MG_element : MethodName := ⟨R_MG, "element", "(II)I"⟩
abbrev b_MG_generate : ByteArray := prog_1_method_8_code
def y_MG_generate : MethodName := ⟨R_MG, "generate", "(II)I"⟩
abbrev b_MG_group : ByteArray := prog_1_method_7_code
def y_MG_group : MethodName := ⟨R_MG, "group", "()I"⟩
abbrev b_MG_hold : ByteArray := prog_1_method_14_code
def y_MG_hold : MethodName := ⟨R_MG, "hold", "(II)I"⟩
abbrev b_MG_images : ByteArray := prog_1_method_6_code
def y_MG_images : MethodName := ⟨R_MG, "images", "(I)I"⟩
abbrev b_MG_inverse : ByteArray := prog_1_method_5_code
def y_MG_inverse : MethodName := ⟨R_MG, "inverse", "(I)I"⟩
abbrev b_MG_isGroup : ByteArray := prog_1_method_22_code
def y_MG_isGroup : MethodName := ⟨R_MG, "isGroup", "(I)Z"⟩
abbrev b_MG_isPermutation : ByteArray := prog_1_method_21_code
def y_MG_isPermutation : MethodName := ⟨R_MG, "isPermutation", "(I)Z"⟩
abbrev b_MG_keep : ByteArray := prog_1_method_23_code
def y_MG_keep : MethodName := ⟨R_MG, "keep", "(I)I"⟩
abbrev b_MG_least : ByteArray := prog_1_method_12_code
def y_MG_least : MethodName := ⟨R_MG, "least", "(II)I"⟩
abbrev b_MG_length : ByteArray := prog_1_method_19_code
def y_MG_length : MethodName := ⟨R_MG, "length", "(I)I"⟩
abbrev b_MG_normal : ByteArray := prog_1_method_16_code
def y_MG_normal : MethodName := ⟨R_MG, "normal", "(II)Z"⟩
abbrev b_MG_orbit : ByteArray := prog_1_method_13_code
def y_MG_orbit : MethodName := ⟨R_MG, "orbit", "(II)I"⟩
abbrev b_MG_order : ByteArray := prog_1_method_9_code
def y_MG_order : MethodName := ⟨R_MG, "order", "(I)I"⟩
abbrev b_MG_product : ByteArray := prog_1_method_4_code
def y_MG_product : MethodName := ⟨R_MG, "product", "(II)I"⟩
abbrev b_MG_read : ByteArray := prog_1_method_3_code
def y_MG_read : MethodName := ⟨R_MG, "read", "()I"⟩
abbrev b_MG_type : ByteArray := prog_1_method_2_code
def y_MG_type : MethodName := ⟨R_MG, "type", "(II)Z"⟩
abbrev b_CT_init : ByteArray := prog_2_method_1_code
def y_CT_init : MethodName := ⟨R_CT, "<init>", "(I)V"⟩
abbrev b_CT_append : ByteArray := prog_2_method_2_code
def y_CT_append : MethodName := ⟨R_CT, "append", "(II)Z"⟩
abbrev b_CT_closeBracket : ByteArray := prog_2_method_8_code
def y_CT_closeBracket : MethodName := ⟨R_CT, "closeBracket", "()Z"⟩
abbrev b_CT_forget : ByteArray := prog_2_method_4_code
def y_CT_forget : MethodName := ⟨R_CT, "forget", "()V"⟩
abbrev b_CT_lowByte : ByteArray := prog_2_method_3_code
def y_CT_lowByte : MethodName := ⟨R_CT, "lowByte", "(II)I"⟩
abbrev b_CT_openBracket : ByteArray := prog_2_method_7_code
def y_CT_openBracket : MethodName := ⟨R_CT, "openBracket", "()Z"⟩
abbrev b_CT_parse : ByteArray := prog_2_method_5_code
def y_CT_parse : MethodName := ⟨R_CT, "parse", "()I"⟩
abbrev b_CT_take : ByteArray := prog_2_method_6_code
def y_CT_take : MethodName := ⟨R_CT, "take", "(C)Z"⟩
abbrev b_CT_takePoint : ByteArray := prog_2_method_9_code
def y_CT_takePoint : MethodName := ⟨R_CT, "takePoint", "(I)Z"⟩
abbrev b_SU_init : ByteArray := prog_3_method_1_code
def y_SU_init : MethodName := ⟨R_SU, "<init>", "(LMotionGroups$Symmetry;[I)V"⟩
abbrev b_SU_add : ByteArray := prog_3_method_8_code
def y_SU_add : MethodName := ⟨R_SU, "add", "(I)V"⟩
abbrev b_SU_addCoset : ByteArray := prog_3_method_9_code
def y_SU_addCoset : MethodName := ⟨R_SU, "addCoset", "(II)V"⟩
abbrev b_SU_becomeCopyOf : ByteArray := prog_3_method_3_code
def y_SU_becomeCopyOf : MethodName := ⟨R_SU, "becomeCopyOf", "(LMotionGroups$Subgroup;)V"⟩
abbrev b_SU_becomeDerivedOf : ByteArray := prog_3_method_5_code
def y_SU_becomeDerivedOf : MethodName := ⟨R_SU, "becomeDerivedOf", "(LMotionGroups$Subgroup;)V"⟩
abbrev b_SU_becomeHolderOf : ByteArray := prog_3_method_4_code
def y_SU_becomeHolderOf : MethodName := ⟨R_SU, "becomeHolderOf", "(ILMotionGroups$Subgroup;)V"⟩
abbrev b_SU_becomeTrivial : ByteArray := prog_3_method_2_code
def y_SU_becomeTrivial : MethodName := ⟨R_SU, "becomeTrivial", "()V"⟩
abbrev b_SU_growUntilKeptBy : ByteArray := prog_3_method_6_code
def y_SU_growUntilKeptBy : MethodName := ⟨R_SU, "growUntilKeptBy", "(LMotionGroups$Subgroup;)V"⟩
abbrev b_SU_has : ByteArray := prog_3_method_12_code
def y_SU_has : MethodName := ⟨R_SU, "has", "(I)Z"⟩
abbrev b_SU_isKeptBy : ByteArray := prog_3_method_7_code
def y_SU_isKeptBy : MethodName := ⟨R_SU, "isKeptBy", "(LMotionGroups$Subgroup;)Z"⟩
abbrev b_SU_leastOfCoset : ByteArray := prog_3_method_14_code
def y_SU_leastOfCoset : MethodName := ⟨R_SU, "leastOfCoset", "(I)I"⟩
abbrev b_SU_liesIn : ByteArray := prog_3_method_16_code
def y_SU_liesIn : MethodName := ⟨R_SU, "liesIn", "(LMotionGroups$Subgroup;)Z"⟩
abbrev b_SU_listMembers : ByteArray := prog_3_method_10_code
def y_SU_listMembers : MethodName := ⟨R_SU, "listMembers", "()V"⟩
abbrev b_SU_mark : ByteArray := prog_3_method_11_code
def y_SU_mark : MethodName := ⟨R_SU, "mark", "(I)V"⟩
abbrev b_SU_member : ByteArray := prog_3_method_13_code
def y_SU_member : MethodName := ⟨R_SU, "member", "(I)I"⟩
abbrev b_SU_pointsReachedFrom : ByteArray := prog_3_method_15_code
def y_SU_pointsReachedFrom : MethodName := ⟨R_SU, "pointsReachedFrom", "(I)I"⟩
abbrev b_SY_init : ByteArray := prog_4_method_1_code
def y_SY_init : MethodName := ⟨R_SY, "<init>", "(I)V"⟩
abbrev b_SY_commutator : ByteArray := prog_4_method_10_code
def y_SY_commutator : MethodName := ⟨R_SY, "commutator", "(II)I"⟩
abbrev b_SY_conjugate : ByteArray := prog_4_method_9_code
def y_SY_conjugate : MethodName := ⟨R_SY, "conjugate", "(II)I"⟩
abbrev b_SY_digits : ByteArray := prog_4_method_11_code
def y_SY_digits : MethodName := ⟨R_SY, "digits", "(I)I"⟩
abbrev b_SY_factorial : ByteArray := prog_4_method_2_code
def y_SY_factorial : MethodName := ⟨R_SY, "factorial", "(I)I"⟩
abbrev b_SY_holds : ByteArray := prog_4_method_12_code
def y_SY_holds : MethodName := ⟨R_SY, "holds", "(II)Z"⟩
abbrev b_SY_image : ByteArray := prog_4_method_6_code
def y_SY_image : MethodName := ⟨R_SY, "image", "(II)I"⟩
abbrev b_SY_invert : ByteArray := prog_4_method_8_code
def y_SY_invert : MethodName := ⟨R_SY, "invert", "(I)I"⟩
abbrev b_SY_multiply : ByteArray := prog_4_method_7_code
def y_SY_multiply : MethodName := ⟨R_SY, "multiply", "(II)I"⟩
abbrev b_SY_rankOf : ByteArray := prog_4_method_5_code
def y_SY_rankOf : MethodName := ⟨R_SY, "rankOf", "([I)I"⟩
abbrev b_SY_unusedPoint : ByteArray := prog_4_method_4_code
def y_SY_unusedPoint : MethodName := ⟨R_SY, "unusedPoint", "(II)I"⟩
abbrev b_SY_writeImages : ByteArray := prog_4_method_3_code
def y_SY_writeImages : MethodName := ⟨R_SY, "writeImages", "(I)V"⟩
abbrev b_LW_cell : ByteArray := method_2_code
def y_LW_cell : MethodName := ⟨R_LW, "cell", "([II)I"⟩
abbrev b_MO_init : ByteArray := prog_6_method_1_code
def y_MO_init : MethodName := ⟨R_MO, "<init>", "(I)V"⟩
abbrev b_MO_clear : ByteArray := prog_6_method_41_code
def y_MO_clear : MethodName := ⟨R_MO, "clear", "()I"⟩
abbrev b_MO_close : ByteArray := prog_6_method_17_code
def y_MO_close : MethodName := ⟨R_MO, "close", "(III)V"⟩
abbrev b_MO_closure : ByteArray := prog_6_method_38_code
def y_MO_closure : MethodName := ⟨R_MO, "closure", "(II)I"⟩
abbrev b_MO_compare : ByteArray := prog_6_method_36_code
def y_MO_compare : MethodName := ⟨R_MO, "compare", "(II)I"⟩
abbrev b_MO_contains : ByteArray := prog_6_method_30_code
def y_MO_contains : MethodName := ⟨R_MO, "contains", "(II)Z"⟩
abbrev b_MO_copy : ByteArray := prog_6_method_11_code
def y_MO_copy : MethodName := ⟨R_MO, "copy", "(II)V"⟩
abbrev b_MO_derive : ByteArray := prog_6_method_18_code
def y_MO_derive : MethodName := ⟨R_MO, "derive", "(II)V"⟩
abbrev b_MO_derived : ByteArray := prog_6_method_39_code
def y_MO_derived : MethodName := ⟨R_MO, "derived", "(I)I"⟩
abbrev b_MO_element : ByteArray := prog_6_method_31_code
def y_MO_element : MethodName := ⟨R_MO, "element", "(II)I"⟩
abbrev b_MO_enlarge : ByteArray := prog_6_method_13_code
def y_MO_enlarge : MethodName := ⟨R_MO, "enlarge", "(II)V"⟩
abbrev b_MO_generate : ByteArray := prog_6_method_28_code
def y_MO_generate : MethodName := ⟨R_MO, "generate", "(II)I"⟩
abbrev b_MO_group : ByteArray := prog_6_method_27_code
def y_MO_group : MethodName := ⟨R_MO, "group", "()I"⟩
abbrev b_MO_has : ByteArray := prog_6_method_8_code
def y_MO_has : MethodName := ⟨R_MO, "has", "(II)Z"⟩
abbrev b_MO_hold : ByteArray := prog_6_method_35_code
def y_MO_hold : MethodName := ⟨R_MO, "hold", "(II)I"⟩
abbrev b_MO_holds : ByteArray := prog_6_method_34_code
def y_MO_holds : MethodName := ⟨R_MO, "holds", "(II)Z"⟩
abbrev b_MO_image : ByteArray := prog_6_method_4_code
def y_MO_image : MethodName := ⟨R_MO, "image", "(II)I"⟩
abbrev b_MO_images : ByteArray := prog_6_method_26_code
def y_MO_images : MethodName := ⟨R_MO, "images", "(I)I"⟩
abbrev b_MO_imagesOf : ByteArray := prog_6_method_3_code
def y_MO_imagesOf : MethodName := ⟨R_MO, "imagesOf", "(I)I"⟩
abbrev b_MO_in : ByteArray := prog_6_method_2_code
def y_MO_in : MethodName := ⟨R_MO, "in", "(III)Z"⟩
abbrev b_MO_inverse : ByteArray := prog_6_method_25_code
def y_MO_inverse : MethodName := ⟨R_MO, "inverse", "(I)I"⟩
abbrev b_MO_inverted : ByteArray := prog_6_method_7_code
def y_MO_inverted : MethodName := ⟨R_MO, "inverted", "(I)I"⟩
abbrev b_MO_isGroup : ByteArray := prog_6_method_23_code
def y_MO_isGroup : MethodName := ⟨R_MO, "isGroup", "(I)Z"⟩
abbrev b_MO_isPermutation : ByteArray := prog_6_method_22_code
def y_MO_isPermutation : MethodName := ⟨R_MO, "isPermutation", "(I)Z"⟩
abbrev b_MO_keep : ByteArray := prog_6_method_21_code
def y_MO_keep : MethodName := ⟨R_MO, "keep", "(I)I"⟩
abbrev b_MO_least : ByteArray := prog_6_method_32_code
def y_MO_least : MethodName := ⟨R_MO, "least", "(II)I"⟩
abbrev b_MO_length : ByteArray := prog_6_method_40_code
def y_MO_length : MethodName := ⟨R_MO, "length", "(I)I"⟩
abbrev b_MO_lies : ByteArray := prog_6_method_15_code
def y_MO_lies : MethodName := ⟨R_MO, "lies", "(II)Z"⟩
abbrev b_MO_normal : ByteArray := prog_6_method_37_code
def y_MO_normal : MethodName := ⟨R_MO, "normal", "(II)Z"⟩
abbrev b_MO_orbit : ByteArray := prog_6_method_33_code
def y_MO_orbit : MethodName := ⟨R_MO, "orbit", "(II)I"⟩
abbrev b_MO_order : ByteArray := prog_6_method_29_code
def y_MO_order : MethodName := ⟨R_MO, "order", "(I)I"⟩
abbrev b_MO_orderOf : ByteArray := prog_6_method_12_code
def y_MO_orderOf : MethodName := ⟨R_MO, "orderOf", "(I)I"⟩
abbrev b_MO_placeOf : ByteArray := prog_6_method_5_code
def y_MO_placeOf : MethodName := ⟨R_MO, "placeOf", "(I)I"⟩
abbrev b_MO_product : ByteArray := prog_6_method_24_code
def y_MO_product : MethodName := ⟨R_MO, "product", "(II)I"⟩
abbrev b_MO_put : ByteArray := prog_6_method_9_code
def y_MO_put : MethodName := ⟨R_MO, "put", "(II)V"⟩
abbrev b_MO_putCoset : ByteArray := prog_6_method_14_code
def y_MO_putCoset : MethodName := ⟨R_MO, "putCoset", "(II)V"⟩
abbrev b_MO_read : ByteArray := prog_6_method_20_code
def y_MO_read : MethodName := ⟨R_MO, "read", "()I"⟩
abbrev b_MO_times : ByteArray := prog_6_method_6_code
def y_MO_times : MethodName := ⟨R_MO, "times", "(II)I"⟩
abbrev b_MO_trivial : ByteArray := prog_6_method_10_code
def y_MO_trivial : MethodName := ⟨R_MO, "trivial", "(I)V"⟩
abbrev b_MO_turned : ByteArray := prog_6_method_16_code
def y_MO_turned : MethodName := ⟨R_MO, "turned", "(II)I"⟩
abbrev b_MO_type : ByteArray := prog_6_method_19_code
def y_MO_type : MethodName := ⟨R_MO, "type", "(II)Z"⟩
abbrev b_JI_bitCount : ByteArray := prog_7_method_49_code
def y_JI_bitCount : MethodName := ⟨R_JI, "bitCount", "(I)I"⟩
theorem fl_MG_14 : Cond.fieldLink R_MG 14 "MotionGroups" "symmetry" "LMotionGroups$Symmetry;" ∈ gw_ := gw_t1 121 rfl rfl
theorem fl_MG_21 : Cond.fieldLink R_MG 21 "MotionGroups" "typed" "LMotionGroups$CycleText;" ∈ gw_ := gw_t1 122 rfl rfl
theorem fl_MG_25 : Cond.fieldLink R_MG 25 "MotionGroups" "ranks" "[I" ∈ gw_ := gw_t1 123 rfl rfl
theorem fl_MG_29 : Cond.fieldLink R_MG 29 "MotionGroups" "permutationCount" "I" ∈ gw_ := gw_t1 124 rfl rfl
theorem fl_MG_33 : Cond.fieldLink R_MG 33 "MotionGroups$Symmetry" "size" "I" ∈ gw_ := gw_t1 38 rfl rfl
theorem fl_MG_38 : Cond.fieldLink R_MG 38 "MotionGroups" "groups" "[LMotionGroups$Subgroup;" ∈ gw_ := gw_t1 125 rfl rfl
theorem fl_MG_45 : Cond.fieldLink R_MG 45 "MotionGroups" "groupCount" "I" ∈ gw_ := gw_t1 126 rfl rfl
theorem fl_MG_48 : Cond.fieldLink R_MG 48 "MotionGroups" "evenSpare" "LMotionGroups$Subgroup;" ∈ gw_ := gw_t1 127 rfl rfl
theorem fl_MG_52 : Cond.fieldLink R_MG 52 "MotionGroups" "oddSpare" "LMotionGroups$Subgroup;" ∈ gw_ := gw_t1 128 rfl rfl
theorem fl_MG_66 : Cond.fieldLink R_MG 66 "MotionGroups$CycleText" "parsed" "[I" ∈ gw_ := gw_t1 59 rfl rfl
theorem fl_MG_100 : Cond.fieldLink R_MG 100 "MotionGroups$Subgroup" "size" "I" ∈ gw_ := gw_t1 101 rfl rfl
theorem fl_MG_110 : Cond.fieldLink R_MG 110 "MotionGroups$Symmetry" "points" "I" ∈ gw_ := gw_t1 35 rfl rfl
theorem fl_CT_7 : Cond.fieldLink R_CT 7 "MotionGroups$CycleText" "points" "I" ∈ gw_ := gw_t1 60 rfl rfl
theorem fl_CT_13 : Cond.fieldLink R_CT 13 "MotionGroups$CycleText" "parsed" "[I" ∈ gw_ := gw_t1 58 rfl rfl
theorem fl_CT_17 : Cond.fieldLink R_CT 17 "MotionGroups$CycleText" "text" "[C" ∈ gw_ := gw_t1 61 rfl rfl
theorem fl_CT_21 : Cond.fieldLink R_CT 21 "MotionGroups$CycleText" "end" "I" ∈ gw_ := gw_t1 62 rfl rfl
theorem fl_CT_28 : Cond.fieldLink R_CT 28 "MotionGroups$CycleText" "open" "Z" ∈ gw_ := gw_t1 63 rfl rfl
theorem fl_CT_32 : Cond.fieldLink R_CT 32 "MotionGroups$CycleText" "seen" "I" ∈ gw_ := gw_t1 66 rfl rfl
theorem fl_CT_50 : Cond.fieldLink R_CT 50 "MotionGroups$CycleText" "first" "I" ∈ gw_ := gw_t1 64 rfl rfl
theorem fl_CT_53 : Cond.fieldLink R_CT 53 "MotionGroups$CycleText" "last" "I" ∈ gw_ := gw_t1 65 rfl rfl
theorem fl_SU_7 : Cond.fieldLink R_SU 7 "MotionGroups$Subgroup" "symmetry" "LMotionGroups$Symmetry;" ∈ gw_ := gw_t1 102 rfl rfl
theorem fl_SU_13 : Cond.fieldLink R_SU 13 "MotionGroups$Subgroup" "listed" "[I" ∈ gw_ := gw_t1 106 rfl rfl
theorem fl_SU_17 : Cond.fieldLink R_SU 17 "MotionGroups$Symmetry" "size" "I" ∈ gw_ := gw_t1 37 rfl rfl
theorem fl_SU_23 : Cond.fieldLink R_SU 23 "MotionGroups$Subgroup" "members" "[J" ∈ gw_ := gw_t1 103 rfl rfl
theorem fl_SU_27 : Cond.fieldLink R_SU 27 "MotionGroups$Subgroup" "generators" "[I" ∈ gw_ := gw_t1 104 rfl rfl
theorem fl_SU_37 : Cond.fieldLink R_SU 37 "MotionGroups$Subgroup" "size" "I" ∈ gw_ := gw_t1 100 rfl rfl
theorem fl_SU_38 : Cond.fieldLink R_SU 38 "MotionGroups$Subgroup" "generatorCount" "I" ∈ gw_ := gw_t1 105 rfl rfl
theorem fl_SY_7 : Cond.fieldLink R_SY 7 "MotionGroups$Symmetry" "points" "I" ∈ gw_ := gw_t1 34 rfl rfl
theorem fl_SY_17 : Cond.fieldLink R_SY 17 "MotionGroups$Symmetry" "size" "I" ∈ gw_ := gw_t1 36 rfl rfl
theorem fl_SY_20 : Cond.fieldLink R_SY 20 "MotionGroups$Symmetry" "table" "[B" ∈ gw_ := gw_t1 39 rfl rfl
theorem fl_SY_24 : Cond.fieldLink R_SY 24 "MotionGroups$Symmetry" "row" "[I" ∈ gw_ := gw_t1 40 rfl rfl
theorem fl_MO_7 : Cond.fieldLink R_MO 7 "MotionGroupsModel" "images" "[I" ∈ gw_ := gw_t2 147 rfl rfl
theorem fl_MO_13 : Cond.fieldLink R_MO 13 "MotionGroupsModel" "permutations" "I" ∈ gw_ := gw_t2 148 rfl rfl
theorem fl_MO_17 : Cond.fieldLink R_MO 17 "MotionGroupsModel" "permutation" "[I" ∈ gw_ := gw_t2 149 rfl rfl
theorem fl_MO_20 : Cond.fieldLink R_MO 20 "MotionGroupsModel" "set" "[J" ∈ gw_ := gw_t2 151 rfl rfl
theorem fl_MO_24 : Cond.fieldLink R_MO 24 "MotionGroupsModel" "many" "[I" ∈ gw_ := gw_t2 152 rfl rfl
theorem fl_MO_27 : Cond.fieldLink R_MO 27 "MotionGroupsModel" "generator" "[I" ∈ gw_ := gw_t2 153 rfl rfl
theorem fl_MO_30 : Cond.fieldLink R_MO 30 "MotionGroupsModel" "found" "[I" ∈ gw_ := gw_t2 154 rfl rfl
theorem fl_MO_33 : Cond.fieldLink R_MO 33 "MotionGroupsModel" "chars" "[I" ∈ gw_ := gw_t2 155 rfl rfl
theorem fl_MO_36 : Cond.fieldLink R_MO 36 "MotionGroupsModel" "n" "I" ∈ gw_ := gw_t2 145 rfl rfl
theorem fl_MO_39 : Cond.fieldLink R_MO 39 "MotionGroupsModel" "all" "I" ∈ gw_ := gw_t2 146 rfl rfl
theorem fl_MO_89 : Cond.fieldLink R_MO 89 "MotionGroupsModel" "typed" "I" ∈ gw_ := gw_t2 156 rfl rfl
theorem fl_MO_95 : Cond.fieldLink R_MO 95 "MotionGroupsModel" "groups" "I" ∈ gw_ := gw_t2 150 rfl rfl
theorem cn_SU_87 : Cond.constantLong R_SU 87 (-1) ∈ gw_ := gw_t2 81 rfl rfl
theorem cn_MO_70 : Cond.constantLong R_MO 70 (-1) ∈ gw_ := gw_t3 66 rfl rfl
theorem cn_JI_265 : Cond.constant R_JI 265 (1431655765) ∈ gw_ := gw_t1 192 rfl rfl
theorem cn_JI_266 : Cond.constant R_JI 266 (858993459) ∈ gw_ := gw_t1 193 rfl rfl
theorem cn_JI_267 : Cond.constant R_JI 267 (252645135) ∈ gw_ := gw_t1 194 rfl rfl
