def R_X : String := "RatePasses"
def R_M : String := "RatePassesModel"
def R_L : String := "RatePassesLaw"
def R_JL : String := "java/lang/Long"
def F_X : u_T := fun k => match k with
  | 0 => ("RatePasses", "layers", "I", true)
  | 1 => ("RatePasses", "sizes", "[I", true)
  | 2 => ("RatePasses", "heads", "[I", true)
  | 3 => ("RatePasses", "held", "[I", true)
  | 4 => ("RatePasses", "ends", "[I", true)
  | 5 => ("RatePasses", "shared", "Z", false)
  | 6 => ("RatePasses", "weights", "[I", true)
  | 7 => ("RatePasses", "shifts", "[I", true)
  | 8 => ("RatePasses", "counts", "[I", true)
  | 9 => ("RatePasses", "blockCount", "I", false)
  | 10 => ("RatePasses", "passCount", "I", false)
  | 11 => ("RatePasses", "lengthSums", "[I", true)
  | 12 => ("RatePasses", "gainSums", "[I", true)
  | 13 => ("RatePasses", "rises", "[J", true)
  | 14 => ("RatePasses", "costs", "[I", true)
  | 15 => ("RatePasses", "order", "[I", true)
  | _ => ("RatePasses", "orderLength", "I", false)
def t_X : Nat → FieldType := fun k => match k with
  | 0 => .int
  | 1 => .array .int
  | 2 => .array .int
  | 3 => .array .int
  | 4 => .array .int
  | 5 => .boolean
  | 6 => .array .int
  | 7 => .array .int
  | 8 => .array .int
  | 9 => .int
  | 10 => .int
  | 11 => .array .int
  | 12 => .array .int
  | 13 => .array .long
  | 14 => .array .int
  | 15 => .array .int
  | _ => .int
theorem n_X : ∀ a, a < 17 → ∀ b, b < 17 → a ≠ b → (F_X a).2.1 ≠ (F_X b).2.1 := by decide +kernel
theorem t_X_ok : ∀ k, k < 17 → parseFieldDescriptor (F_X k).2.2.1 = some (t_X k) := by decide +kernel
def F_M : u_T := fun k => match k with
  | 0 => ("RatePassesModel", "thrown", "I", false)
  | 1 => ("RatePassesModel", "layers", "I", true)
  | 2 => ("RatePassesModel", "blocks", "I", false)
  | 3 => ("RatePassesModel", "many", "[I", true)
  | 4 => ("RatePassesModel", "weights", "[I", true)
  | 5 => ("RatePassesModel", "shifts", "[I", true)
  | 6 => ("RatePassesModel", "lengths", "[I", true)
  | 7 => ("RatePassesModel", "gains", "[J", true)
  | 8 => ("RatePassesModel", "sizes", "[I", true)
  | 9 => ("RatePassesModel", "heads", "[I", true)
  | 10 => ("RatePassesModel", "laid", "Z", false)
  | 11 => ("RatePassesModel", "costs", "[I", true)
  | 12 => ("RatePassesModel", "rises", "[J", true)
  | 13 => ("RatePassesModel", "length", "I", false)
  | 14 => ("RatePassesModel", "row", "[I", true)
  | 15 => ("RatePassesModel", "shared", "Z", false)
  | _ => ("RatePassesModel", "given", "[I", true)
def t_M : Nat → FieldType := fun k => match k with
  | 0 => .int
  | 1 => .int
  | 2 => .int
  | 3 => .array .int
  | 4 => .array .int
  | 5 => .array .int
  | 6 => .array .int
  | 7 => .array .long
  | 8 => .array .int
  | 9 => .array .int
  | 10 => .boolean
  | 11 => .array .int
  | 12 => .array .long
  | 13 => .int
  | 14 => .array .int
  | 15 => .boolean
  | _ => .array .int
theorem n_M : ∀ a, a < 17 → ∀ b, b < 17 → a ≠ b → (F_M a).2.1 ≠ (F_M b).2.1 := by decide +kernel
theorem t_M_ok : ∀ k, k < 17 → parseFieldDescriptor (F_M k).2.2.1 = some (t_M k) := by decide +kernel
abbrev classes : List vw_C := [(R_X, F_X, 17), (R_M, F_M, 17)]
abbrev b_X_init : ByteArray := prog_1_method_1_code
def y_X_init : MethodName := ⟨R_X, "<init>", "(I)V"⟩
abbrev b_X_block : ByteArray := prog_1_method_2_code
def y_X_block : MethodName := ⟨R_X, "block", "()I"⟩
abbrev b_X_pass : ByteArray := prog_1_method_3_code
def y_X_pass : MethodName := ⟨R_X, "pass", "(III)I"⟩
abbrev b_X_weight : ByteArray := prog_1_method_4_code
def y_X_weight : MethodName := ⟨R_X, "weight", "(II)I"⟩
abbrev b_X_shift : ByteArray := prog_1_method_5_code
def y_X_shift : MethodName := ⟨R_X, "shift", "(II)I"⟩
abbrev b_X_size : ByteArray := prog_1_method_6_code
def y_X_size : MethodName := ⟨R_X, "size", "(II)I"⟩
abbrev b_X_head : ByteArray := prog_1_method_7_code
def y_X_head : MethodName := ⟨R_X, "head", "(II)I"⟩
abbrev b_X_run : ByteArray := prog_1_method_8_code
def y_X_run : MethodName := ⟨R_X, "run", "()I"⟩
abbrev b_X_hull : ByteArray := prog_1_method_9_code
def y_X_hull : MethodName := ⟨R_X, "hull", "(II)Z"⟩
abbrev b_X_slope : ByteArray := prog_1_method_10_code
def y_X_slope : MethodName := ⟨R_X, "slope", "(IIZ)J"⟩
abbrev b_X_row : ByteArray := prog_1_method_11_code
def y_X_row : MethodName := ⟨R_X, "row", "()I"⟩
abbrev b_X_at : ByteArray := prog_1_method_12_code
def y_X_at : MethodName := ⟨R_X, "at", "(II)I"⟩
abbrev b_X_passes : ByteArray := prog_1_method_13_code
def y_X_passes : MethodName := ⟨R_X, "passes", "(II)I"⟩
abbrev b_X_bytes : ByteArray := prog_1_method_14_code
def y_X_bytes : MethodName := ⟨R_X, "bytes", "(I)I"⟩
abbrev b_X_gained : ByteArray := prog_1_method_15_code
def y_X_gained : MethodName := ⟨R_X, "gained", "(I)J"⟩
abbrev b_X_least : ByteArray := prog_1_method_16_code
def y_X_least : MethodName := ⟨R_X, "least", "(I)I"⟩
abbrev b_X_above : ByteArray := prog_1_method_17_code
def y_X_above : MethodName := ⟨R_X, "above", "(JI)I"⟩
abbrev b_X_told : ByteArray := prog_1_method_18_code
def y_X_told : MethodName := ⟨R_X, "told", "(I)I"⟩
abbrev b_X_clear : ByteArray := prog_1_method_19_code
def y_X_clear : MethodName := ⟨R_X, "clear", "()V"⟩
abbrev b_X_needBlock : ByteArray := prog_1_method_20_code
def y_X_needBlock : MethodName := ⟨R_X, "needBlock", "(I)V"⟩
abbrev b_X_needLayer : ByteArray := prog_1_method_21_code
def y_X_needLayer : MethodName := ⟨R_X, "needLayer", "(I)V"⟩
abbrev b_X_needShared : ByteArray := prog_1_method_22_code
def y_X_needShared : MethodName := ⟨R_X, "needShared", "()V"⟩
abbrev b_X_needWithin : ByteArray := prog_1_method_23_code
def y_X_needWithin : MethodName := ⟨R_X, "needWithin", "(JJJ)V"⟩
abbrev b_X_tellLayer : ByteArray := prog_1_method_24_code
def y_X_tellLayer : MethodName := ⟨R_X, "tellLayer", "([III)I"⟩
abbrev b_X_startOf : ByteArray := prog_1_method_25_code
def y_X_startOf : MethodName := ⟨R_X, "startOf", "(I)I"⟩
abbrev b_X_pointOf : ByteArray := prog_1_method_26_code
def y_X_pointOf : MethodName := ⟨R_X, "pointOf", "(II)I"⟩
abbrev b_X_blockOf : ByteArray := prog_1_method_27_code
def y_X_blockOf : MethodName := ⟨R_X, "blockOf", "(I)I"⟩
abbrev b_X_passesUpTo : ByteArray := prog_1_method_28_code
def y_X_passesUpTo : MethodName := ⟨R_X, "passesUpTo", "(I)I"⟩
abbrev b_X_renewBlock : ByteArray := prog_1_method_29_code
def y_X_renewBlock : MethodName := ⟨R_X, "renewBlock", "(I)V"⟩
abbrev b_X_takeFromRow : ByteArray := prog_1_method_30_code
def y_X_takeFromRow : MethodName := ⟨R_X, "takeFromRow", "(I)V"⟩
abbrev b_X_makeHull : ByteArray := prog_1_method_31_code
def y_X_makeHull : MethodName := ⟨R_X, "makeHull", "(I)I"⟩
abbrev b_X_steepestFrom : ByteArray := prog_1_method_32_code
def y_X_steepestFrom : MethodName := ⟨R_X, "steepestFrom", "(II)I"⟩
abbrev b_X_mergeIntoRow : ByteArray := prog_1_method_33_code
def y_X_mergeIntoRow : MethodName := ⟨R_X, "mergeIntoRow", "(II)V"⟩
abbrev b_X_comesBefore : ByteArray := prog_1_method_34_code
def y_X_comesBefore : MethodName := ⟨R_X, "comesBefore", "(II)Z"⟩
abbrev b_X_compareSlopes : ByteArray := prog_1_method_35_code
def y_X_compareSlopes : MethodName := ⟨R_X, "compareSlopes", "(II)I"⟩
abbrev b_X_countSameSlope : ByteArray := prog_1_method_36_code
def y_X_countSameSlope : MethodName := ⟨R_X, "countSameSlope", "(I)I"⟩
abbrev b_X_fillLayer : ByteArray := prog_1_method_37_code
def y_X_fillLayer : MethodName := ⟨R_X, "fillLayer", "(II)I"⟩
abbrev b_X_layerOf : ByteArray := prog_1_method_38_code
def y_X_layerOf : MethodName := ⟨R_X, "layerOf", "(I)I"⟩
abbrev b_M_init : ByteArray := prog_3_method_1_code
def y_M_init : MethodName := ⟨R_M, "<init>", "(I)V"⟩
abbrev b_M_thrown : ByteArray := prog_3_method_2_code
def y_M_thrown : MethodName := ⟨R_M, "thrown", "()I"⟩
abbrev b_M_fails : ByteArray := prog_3_method_3_code
def y_M_fails : MethodName := ⟨R_M, "fails", "(ZI)Z"⟩
abbrev b_M_within : ByteArray := prog_3_method_4_code
def y_M_within : MethodName := ⟨R_M, "within", "(JJJ)Z"⟩
abbrev b_M_isBlock : ByteArray := prog_3_method_5_code
def y_M_isBlock : MethodName := ⟨R_M, "isBlock", "(I)Z"⟩
abbrev b_M_isPass : ByteArray := prog_3_method_6_code
def y_M_isPass : MethodName := ⟨R_M, "isPass", "(II)Z"⟩
abbrev b_M_isLayer : ByteArray := prog_3_method_7_code
def y_M_isLayer : MethodName := ⟨R_M, "isLayer", "(I)Z"⟩
abbrev b_M_spoil : ByteArray := prog_3_method_8_code
def y_M_spoil : MethodName := ⟨R_M, "spoil", "()V"⟩
abbrev b_M_block : ByteArray := prog_3_method_9_code
def y_M_block : MethodName := ⟨R_M, "block", "()I"⟩
abbrev b_M_pass : ByteArray := prog_3_method_10_code
def y_M_pass : MethodName := ⟨R_M, "pass", "(III)I"⟩
abbrev b_M_weight : ByteArray := prog_3_method_11_code
def y_M_weight : MethodName := ⟨R_M, "weight", "(II)I"⟩
abbrev b_M_shift : ByteArray := prog_3_method_12_code
def y_M_shift : MethodName := ⟨R_M, "shift", "(II)I"⟩
abbrev b_M_size : ByteArray := prog_3_method_13_code
def y_M_size : MethodName := ⟨R_M, "size", "(II)I"⟩
abbrev b_M_head : ByteArray := prog_3_method_14_code
def y_M_head : MethodName := ⟨R_M, "head", "(II)I"⟩
abbrev b_M_g : ByteArray := prog_3_method_15_code
def y_M_g : MethodName := ⟨R_M, "g", "(II)J"⟩
abbrev b_M_l : ByteArray := prog_3_method_16_code
def y_M_l : MethodName := ⟨R_M, "l", "(II)I"⟩
abbrev b_M_isHull : ByteArray := prog_3_method_17_code
def y_M_isHull : MethodName := ⟨R_M, "isHull", "(II)Z"⟩
abbrev b_M_isBefore : ByteArray := prog_3_method_18_code
def y_M_isBefore : MethodName := ⟨R_M, "isBefore", "(II)Z"⟩
abbrev b_M_layRow : ByteArray := prog_3_method_19_code
def y_M_layRow : MethodName := ⟨R_M, "layRow", "()V"⟩
abbrev b_M_run : ByteArray := prog_3_method_20_code
def y_M_run : MethodName := ⟨R_M, "run", "()I"⟩
abbrev b_M_hull : ByteArray := prog_3_method_21_code
def y_M_hull : MethodName := ⟨R_M, "hull", "(II)Z"⟩
abbrev b_M_slope : ByteArray := prog_3_method_22_code
def y_M_slope : MethodName := ⟨R_M, "slope", "(IIZ)J"⟩
abbrev b_M_row : ByteArray := prog_3_method_23_code
def y_M_row : MethodName := ⟨R_M, "row", "()I"⟩
abbrev b_M_alike : ByteArray := prog_3_method_24_code
def y_M_alike : MethodName := ⟨R_M, "alike", "(I)I"⟩
abbrev b_M_layerOf : ByteArray := prog_3_method_25_code
def y_M_layerOf : MethodName := ⟨R_M, "layerOf", "(I)I"⟩
abbrev b_M_at : ByteArray := prog_3_method_26_code
def y_M_at : MethodName := ⟨R_M, "at", "(II)I"⟩
abbrev b_M_last : ByteArray := prog_3_method_27_code
def y_M_last : MethodName := ⟨R_M, "last", "(II)I"⟩
abbrev b_M_passes : ByteArray := prog_3_method_28_code
def y_M_passes : MethodName := ⟨R_M, "passes", "(II)I"⟩
abbrev b_M_bytes : ByteArray := prog_3_method_29_code
def y_M_bytes : MethodName := ⟨R_M, "bytes", "(I)I"⟩
abbrev b_M_gained : ByteArray := prog_3_method_30_code
def y_M_gained : MethodName := ⟨R_M, "gained", "(I)J"⟩
abbrev b_M_least : ByteArray := prog_3_method_31_code
def y_M_least : MethodName := ⟨R_M, "least", "(I)I"⟩
abbrev b_M_above : ByteArray := prog_3_method_32_code
def y_M_above : MethodName := ⟨R_M, "above", "(JI)I"⟩
abbrev b_M_told : ByteArray := prog_3_method_33_code
def y_M_told : MethodName := ⟨R_M, "told", "(I)I"⟩
abbrev b_M_clear : ByteArray := prog_3_method_34_code
def y_M_clear : MethodName := ⟨R_M, "clear", "()V"⟩
abbrev b_L_cell : ByteArray := method_2_code
def y_L_cell : MethodName := ⟨R_L, "cell", "([II)I"⟩
abbrev b_L_block : ByteArray := method_3_code
def y_L_block : MethodName := ⟨R_L, "block", "(LRatePasses;[J)I"⟩
abbrev b_L_pass : ByteArray := method_4_code
def y_L_pass : MethodName := ⟨R_L, "pass", "(LRatePasses;III[J)I"⟩
abbrev b_L_weight : ByteArray := method_5_code
def y_L_weight : MethodName := ⟨R_L, "weight", "(LRatePasses;II[J)I"⟩
abbrev b_L_shift : ByteArray := method_6_code
def y_L_shift : MethodName := ⟨R_L, "shift", "(LRatePasses;II[J)I"⟩
abbrev b_L_size : ByteArray := method_7_code
def y_L_size : MethodName := ⟨R_L, "size", "(LRatePasses;II[J)I"⟩
abbrev b_L_head : ByteArray := method_8_code
def y_L_head : MethodName := ⟨R_L, "head", "(LRatePasses;II[J)I"⟩
abbrev b_L_hull : ByteArray := method_9_code
def y_L_hull : MethodName := ⟨R_L, "hull", "(LRatePasses;II[J)I"⟩
abbrev b_L_slope : ByteArray := method_10_code
def y_L_slope : MethodName := ⟨R_L, "slope", "(LRatePasses;IIZ[J)I"⟩
abbrev b_L_at : ByteArray := method_11_code
def y_L_at : MethodName := ⟨R_L, "at", "(LRatePasses;II[J)I"⟩
abbrev b_L_passes : ByteArray := method_12_code
def y_L_passes : MethodName := ⟨R_L, "passes", "(LRatePasses;II[J)I"⟩
abbrev b_L_bytes : ByteArray := method_13_code
def y_L_bytes : MethodName := ⟨R_L, "bytes", "(LRatePasses;I[J)I"⟩
abbrev b_L_gained : ByteArray := method_14_code
def y_L_gained : MethodName := ⟨R_L, "gained", "(LRatePasses;I[J)I"⟩
abbrev b_L_least : ByteArray := method_15_code
def y_L_least : MethodName := ⟨R_L, "least", "(LRatePasses;I[J)I"⟩
abbrev b_L_above : ByteArray := method_16_code
def y_L_above : MethodName := ⟨R_L, "above", "(LRatePasses;JI[J)I"⟩
abbrev b_L_law : ByteArray := code
def y_L_law : MethodName := ⟨R_L, "law", "([I)Z"⟩
abbrev b_JL_compare : ByteArray := prog_8_method_42_code
def y_JL_compare : MethodName := ⟨R_JL, "compare", "(JJ)I"⟩
/-- the words that every method is given: those of the tables that hold in every warmed state -/
def tb : List Cond := lw_tbl.filter goodWord
theorem tb_good : ∀ w ∈ tb, goodWord w = true := fun w h => (List.mem_filter.mp h).2
theorem tb_in : ∀ w ∈ tb, w ∈ lw_tbl := fun w h => (List.mem_filter.mp h).1
theorem i_X : ∀ w ∈ u_ws R_X F_X 17, w ∈ tb := fun w h => List.mem_filter.mpr ⟨(show ∀ w ∈ u_ws R_X F_X 17, w ∈ lw_tbl by decide +kernel) w h, (show ∀ w ∈ u_ws R_X F_X 17, goodWord w = true by decide +kernel) w h⟩
theorem i_M : ∀ w ∈ u_ws R_M F_M 17, w ∈ tb := fun w h => List.mem_filter.mpr ⟨(show ∀ w ∈ u_ws R_M F_M 17, w ∈ lw_tbl by decide +kernel) w h, (show ∀ w ∈ u_ws R_M F_M 17, goodWord w = true by decide +kernel) w h⟩
theorem k_0 : Cond.fieldLink R_X 60 "RatePasses" "blockCount" "I" ∈ tb := List.mem_filter.mpr ⟨List.mem_of_getElem? (i := 64) (by decide +kernel), rfl⟩
theorem k_1 : Cond.fieldLink R_X 9 "RatePasses" "weights" "[I" ∈ tb := List.mem_filter.mpr ⟨List.mem_of_getElem? (i := 61) (by decide +kernel), rfl⟩
theorem k_2 : Cond.fieldLink R_X 13 "RatePasses" "shifts" "[I" ∈ tb := List.mem_filter.mpr ⟨List.mem_of_getElem? (i := 62) (by decide +kernel), rfl⟩
theorem k_3 : Cond.fieldLink R_X 16 "RatePasses" "counts" "[I" ∈ tb := List.mem_filter.mpr ⟨List.mem_of_getElem? (i := 63) (by decide +kernel), rfl⟩
theorem k_4 : Cond.fieldLink R_X 70 "RatePasses" "shared" "Z" ∈ tb := List.mem_filter.mpr ⟨List.mem_of_getElem? (i := 60) (by decide +kernel), rfl⟩
theorem k_5 : Cond.classLink R_X 63 "java/lang/UnsupportedOperationException" ∈ tb := List.mem_filter.mpr ⟨List.mem_of_getElem? (i := 140) (by decide +kernel), rfl⟩
theorem k_6 : Cond.initialized "java/lang/UnsupportedOperationException" ∈ tb := List.mem_filter.mpr ⟨List.mem_of_getElem? (i := 36) (by decide +kernel), rfl⟩
theorem k_7 : Cond.classLink R_X 117 "java/lang/IndexOutOfBoundsException" ∈ tb := List.mem_filter.mpr ⟨List.mem_of_getElem? (i := 222) (by decide +kernel), rfl⟩
theorem k_8 : Cond.initialized "java/lang/IndexOutOfBoundsException" ∈ tb := List.mem_filter.mpr ⟨List.mem_of_getElem? (i := 37) (by decide +kernel), rfl⟩
theorem k_9 : Cond.methodLink R_X 74 y_X_needBlock ∈ tb := List.mem_filter.mpr ⟨List.mem_of_getElem? (i := 218) (by decide +kernel), rfl⟩
theorem k_10 : Cond.instanceMethod y_X_needBlock ∈ tb := List.mem_filter.mpr ⟨List.mem_of_getElem? (i := 220) (by decide +kernel), rfl⟩
theorem k_11 : Cond.selects R_X y_X_needBlock y_X_needBlock ∈ tb := List.mem_filter.mpr ⟨List.mem_of_getElem? (i := 2) (by decide +kernel), rfl⟩
theorem k_12 : Cond.initialized R_X ∈ tb := List.mem_filter.mpr ⟨List.mem_of_getElem? (i := 30) (by decide +kernel), rfl⟩
set_option maxRecDepth 100000 in
theorem k_13 : Cond.code y_X_needBlock b_X_needBlock 2 none ∈ tb := List.mem_filter.mpr ⟨List.mem_of_getElem? (i := 221) rfl, rfl⟩
theorem k_14 : Cond.constantLong R_X 78 10000 ∈ tb := List.mem_filter.mpr ⟨List.mem_of_getElem? (i := 238) (by decide +kernel), rfl⟩
theorem k_15 : Cond.classLink R_X 137 "java/lang/IllegalArgumentException" ∈ tb := List.mem_filter.mpr ⟨List.mem_of_getElem? (i := 242) (by decide +kernel), rfl⟩
theorem k_16 : Cond.initialized "java/lang/IllegalArgumentException" ∈ tb := List.mem_filter.mpr ⟨List.mem_of_getElem? (i := 38) (by decide +kernel), rfl⟩
theorem k_17 : Cond.methodLink R_X 80 y_X_needWithin ∈ tb := List.mem_filter.mpr ⟨List.mem_of_getElem? (i := 239) (by decide +kernel), rfl⟩
theorem k_18 : Cond.static y_X_needWithin ∈ tb := List.mem_filter.mpr ⟨List.mem_of_getElem? (i := 240) (by decide +kernel), rfl⟩
set_option maxRecDepth 100000 in
theorem k_19 : Cond.code y_X_needWithin b_X_needWithin 6 none ∈ tb := List.mem_filter.mpr ⟨List.mem_of_getElem? (i := 241) rfl, rfl⟩
theorem k_20 : Cond.constantLong R_X 84 (-1000000) ∈ tb := List.mem_filter.mpr ⟨List.mem_of_getElem? (i := 258) (by decide +kernel), rfl⟩
theorem k_21 : Cond.constantLong R_X 86 1000000 ∈ tb := List.mem_filter.mpr ⟨List.mem_of_getElem? (i := 259) (by decide +kernel), rfl⟩
theorem k_22 : Cond.methodLink R_X 90 y_X_startOf ∈ tb := List.mem_filter.mpr ⟨List.mem_of_getElem? (i := 261) (by decide +kernel), rfl⟩
theorem k_23 : Cond.static y_X_startOf ∈ tb := List.mem_filter.mpr ⟨List.mem_of_getElem? (i := 262) (by decide +kernel), rfl⟩
set_option maxRecDepth 100000 in
theorem k_24 : Cond.code y_X_startOf b_X_startOf 1 (some .int) ∈ tb := List.mem_filter.mpr ⟨List.mem_of_getElem? (i := 263) rfl, rfl⟩
theorem k_25 : Cond.fieldLink R_X 19 "RatePasses" "lengthSums" "[I" ∈ tb := List.mem_filter.mpr ⟨List.mem_of_getElem? (i := 66) (by decide +kernel), rfl⟩
theorem k_26 : Cond.fieldLink R_X 22 "RatePasses" "gainSums" "[I" ∈ tb := List.mem_filter.mpr ⟨List.mem_of_getElem? (i := 67) (by decide +kernel), rfl⟩
theorem k_27 : Cond.fieldLink R_X 94 "RatePasses" "passCount" "I" ∈ tb := List.mem_filter.mpr ⟨List.mem_of_getElem? (i := 65) (by decide +kernel), rfl⟩
theorem k_28 : Cond.fieldLink R_X 114 "RatePasses" "orderLength" "I" ∈ tb := List.mem_filter.mpr ⟨List.mem_of_getElem? (i := 71) (by decide +kernel), rfl⟩
theorem k_29 : Cond.fieldLink R_X 32 "RatePasses" "order" "[I" ∈ tb := List.mem_filter.mpr ⟨List.mem_of_getElem? (i := 70) (by decide +kernel), rfl⟩
theorem k_30 : Cond.methodLink R_X 122 y_X_blockOf ∈ tb := List.mem_filter.mpr ⟨List.mem_of_getElem? (i := 272) (by decide +kernel), rfl⟩
theorem k_31 : Cond.static y_X_blockOf ∈ tb := List.mem_filter.mpr ⟨List.mem_of_getElem? (i := 273) (by decide +kernel), rfl⟩
set_option maxRecDepth 100000 in
theorem k_32 : Cond.code y_X_blockOf b_X_blockOf 1 (some .int) ∈ tb := List.mem_filter.mpr ⟨List.mem_of_getElem? (i := 274) rfl, rfl⟩
theorem k_33 : Cond.methodLink R_X 164 y_X_takeFromRow ∈ tb := List.mem_filter.mpr ⟨List.mem_of_getElem? (i := 268) (by decide +kernel), rfl⟩
theorem k_34 : Cond.instanceMethod y_X_takeFromRow ∈ tb := List.mem_filter.mpr ⟨List.mem_of_getElem? (i := 270) (by decide +kernel), rfl⟩
theorem k_35 : Cond.selects R_X y_X_takeFromRow y_X_takeFromRow ∈ tb := List.mem_filter.mpr ⟨List.mem_of_getElem? (i := 4) (by decide +kernel), rfl⟩
set_option maxRecDepth 100000 in
theorem k_36 : Cond.code y_X_takeFromRow b_X_takeFromRow 4 none ∈ tb := List.mem_filter.mpr ⟨List.mem_of_getElem? (i := 271) rfl, rfl⟩
theorem k_37 : Cond.methodLink R_X 174 y_X_steepestFrom ∈ tb := List.mem_filter.mpr ⟨List.mem_of_getElem? (i := 279) (by decide +kernel), rfl⟩
theorem k_38 : Cond.instanceMethod y_X_steepestFrom ∈ tb := List.mem_filter.mpr ⟨List.mem_of_getElem? (i := 281) (by decide +kernel), rfl⟩
theorem k_39 : Cond.selects R_X y_X_steepestFrom y_X_steepestFrom ∈ tb := List.mem_filter.mpr ⟨List.mem_of_getElem? (i := 6) (by decide +kernel), rfl⟩
set_option maxRecDepth 100000 in
theorem k_40 : Cond.code y_X_steepestFrom b_X_steepestFrom 13 (some .int) ∈ tb := List.mem_filter.mpr ⟨List.mem_of_getElem? (i := 282) rfl, rfl⟩
theorem k_41 : Cond.fieldLink R_X 29 "RatePasses" "costs" "[I" ∈ tb := List.mem_filter.mpr ⟨List.mem_of_getElem? (i := 69) (by decide +kernel), rfl⟩
theorem k_42 : Cond.fieldLink R_X 25 "RatePasses" "rises" "[J" ∈ tb := List.mem_filter.mpr ⟨List.mem_of_getElem? (i := 68) (by decide +kernel), rfl⟩
theorem k_43 : Cond.methodLink R_X 167 y_X_makeHull ∈ tb := List.mem_filter.mpr ⟨List.mem_of_getElem? (i := 275) (by decide +kernel), rfl⟩
theorem k_44 : Cond.instanceMethod y_X_makeHull ∈ tb := List.mem_filter.mpr ⟨List.mem_of_getElem? (i := 277) (by decide +kernel), rfl⟩
theorem k_45 : Cond.selects R_X y_X_makeHull y_X_makeHull ∈ tb := List.mem_filter.mpr ⟨List.mem_of_getElem? (i := 5) (by decide +kernel), rfl⟩
set_option maxRecDepth 100000 in
theorem k_46 : Cond.code y_X_makeHull b_X_makeHull 9 (some .int) ∈ tb := List.mem_filter.mpr ⟨List.mem_of_getElem? (i := 278) rfl, rfl⟩
theorem k_47 : Cond.methodLink R_X 184 y_JL_compare ∈ tb := List.mem_filter.mpr ⟨List.mem_of_getElem? (i := 295) (by decide +kernel), rfl⟩
theorem k_48 : Cond.static y_JL_compare ∈ tb := List.mem_filter.mpr ⟨List.mem_of_getElem? (i := 296) (by decide +kernel), rfl⟩
theorem k_49 : Cond.initialized R_JL ∈ tb := List.mem_filter.mpr ⟨List.mem_of_getElem? (i := 39) (by decide +kernel), rfl⟩
set_option maxRecDepth 100000 in
theorem k_50 : Cond.code y_JL_compare b_JL_compare 4 (some .int) ∈ tb := List.mem_filter.mpr ⟨List.mem_of_getElem? (i := 297) rfl, rfl⟩
theorem k_51 : Cond.methodLink R_X 181 y_X_compareSlopes ∈ tb := List.mem_filter.mpr ⟨List.mem_of_getElem? (i := 291) (by decide +kernel), rfl⟩
theorem k_52 : Cond.instanceMethod y_X_compareSlopes ∈ tb := List.mem_filter.mpr ⟨List.mem_of_getElem? (i := 293) (by decide +kernel), rfl⟩
theorem k_53 : Cond.selects R_X y_X_compareSlopes y_X_compareSlopes ∈ tb := List.mem_filter.mpr ⟨List.mem_of_getElem? (i := 9) (by decide +kernel), rfl⟩
set_option maxRecDepth 100000 in
theorem k_54 : Cond.code y_X_compareSlopes b_X_compareSlopes 3 (some .int) ∈ tb := List.mem_filter.mpr ⟨List.mem_of_getElem? (i := 294) rfl, rfl⟩
theorem k_55 : Cond.methodLink R_X 177 y_X_comesBefore ∈ tb := List.mem_filter.mpr ⟨List.mem_of_getElem? (i := 287) (by decide +kernel), rfl⟩
theorem k_56 : Cond.instanceMethod y_X_comesBefore ∈ tb := List.mem_filter.mpr ⟨List.mem_of_getElem? (i := 289) (by decide +kernel), rfl⟩
theorem k_57 : Cond.selects R_X y_X_comesBefore y_X_comesBefore ∈ tb := List.mem_filter.mpr ⟨List.mem_of_getElem? (i := 8) (by decide +kernel), rfl⟩
set_option maxRecDepth 100000 in
theorem k_58 : Cond.code y_X_comesBefore b_X_comesBefore 4 (some .boolean) ∈ tb := List.mem_filter.mpr ⟨List.mem_of_getElem? (i := 290) rfl, rfl⟩
theorem k_59 : Cond.methodLink R_X 170 y_X_mergeIntoRow ∈ tb := List.mem_filter.mpr ⟨List.mem_of_getElem? (i := 283) (by decide +kernel), rfl⟩
theorem k_60 : Cond.instanceMethod y_X_mergeIntoRow ∈ tb := List.mem_filter.mpr ⟨List.mem_of_getElem? (i := 285) (by decide +kernel), rfl⟩
theorem k_61 : Cond.selects R_X y_X_mergeIntoRow y_X_mergeIntoRow ∈ tb := List.mem_filter.mpr ⟨List.mem_of_getElem? (i := 7) (by decide +kernel), rfl⟩
set_option maxRecDepth 100000 in
theorem k_62 : Cond.code y_X_mergeIntoRow b_X_mergeIntoRow 7 none ∈ tb := List.mem_filter.mpr ⟨List.mem_of_getElem? (i := 286) rfl, rfl⟩
theorem k_63 : Cond.methodLink R_X 97 y_X_renewBlock ∈ tb := List.mem_filter.mpr ⟨List.mem_of_getElem? (i := 264) (by decide +kernel), rfl⟩
theorem k_64 : Cond.instanceMethod y_X_renewBlock ∈ tb := List.mem_filter.mpr ⟨List.mem_of_getElem? (i := 266) (by decide +kernel), rfl⟩
theorem k_65 : Cond.selects R_X y_X_renewBlock y_X_renewBlock ∈ tb := List.mem_filter.mpr ⟨List.mem_of_getElem? (i := 3) (by decide +kernel), rfl⟩
set_option maxRecDepth 100000 in
theorem k_66 : Cond.code y_X_renewBlock b_X_renewBlock 3 none ∈ tb := List.mem_filter.mpr ⟨List.mem_of_getElem? (i := 267) rfl, rfl⟩
theorem k_67 : Cond.constantLong R_X 100 100 ∈ tb := List.mem_filter.mpr ⟨List.mem_of_getElem? (i := 305) (by decide +kernel), rfl⟩
theorem k_68 : Cond.constantLong R_X 102 3 ∈ tb := List.mem_filter.mpr ⟨List.mem_of_getElem? (i := 313) (by decide +kernel), rfl⟩
theorem k_69 : Cond.fieldLink R_X 48 "RatePasses" "sizes" "[I" ∈ tb := List.mem_filter.mpr ⟨List.mem_of_getElem? (i := 56) (by decide +kernel), rfl⟩
theorem k_70 : Cond.fieldLink R_X 44 "RatePasses" "layers" "I" ∈ tb := List.mem_filter.mpr ⟨List.mem_of_getElem? (i := 55) (by decide +kernel), rfl⟩
theorem k_71 : Cond.methodLink R_X 142 y_X_needLayer ∈ tb := List.mem_filter.mpr ⟨List.mem_of_getElem? (i := 325) (by decide +kernel), rfl⟩
theorem k_72 : Cond.instanceMethod y_X_needLayer ∈ tb := List.mem_filter.mpr ⟨List.mem_of_getElem? (i := 327) (by decide +kernel), rfl⟩
theorem k_73 : Cond.selects R_X y_X_needLayer y_X_needLayer ∈ tb := List.mem_filter.mpr ⟨List.mem_of_getElem? (i := 11) (by decide +kernel), rfl⟩
set_option maxRecDepth 100000 in
theorem k_74 : Cond.code y_X_needLayer b_X_needLayer 2 none ∈ tb := List.mem_filter.mpr ⟨List.mem_of_getElem? (i := 328) rfl, rfl⟩
theorem k_75 : Cond.constantLong R_X 160 10000000 ∈ tb := List.mem_filter.mpr ⟨List.mem_of_getElem? (i := 330) (by decide +kernel), rfl⟩
theorem k_76 : Cond.methodLink R_X 104 y_X_tellLayer ∈ tb := List.mem_filter.mpr ⟨List.mem_of_getElem? (i := 321) (by decide +kernel), rfl⟩
theorem k_77 : Cond.instanceMethod y_X_tellLayer ∈ tb := List.mem_filter.mpr ⟨List.mem_of_getElem? (i := 323) (by decide +kernel), rfl⟩
theorem k_78 : Cond.selects R_X y_X_tellLayer y_X_tellLayer ∈ tb := List.mem_filter.mpr ⟨List.mem_of_getElem? (i := 10) (by decide +kernel), rfl⟩
set_option maxRecDepth 100000 in
theorem k_79 : Cond.code y_X_tellLayer b_X_tellLayer 5 (some .int) ∈ tb := List.mem_filter.mpr ⟨List.mem_of_getElem? (i := 324) rfl, rfl⟩
theorem k_80 : Cond.fieldLink R_X 51 "RatePasses" "heads" "[I" ∈ tb := List.mem_filter.mpr ⟨List.mem_of_getElem? (i := 57) (by decide +kernel), rfl⟩
theorem k_81 : Cond.fieldLink R_X 54 "RatePasses" "held" "[I" ∈ tb := List.mem_filter.mpr ⟨List.mem_of_getElem? (i := 58) (by decide +kernel), rfl⟩
theorem k_82 : Cond.fieldLink R_X 57 "RatePasses" "ends" "[I" ∈ tb := List.mem_filter.mpr ⟨List.mem_of_getElem? (i := 59) (by decide +kernel), rfl⟩
theorem k_83 : Cond.methodLink R_X 108 y_X_fillLayer ∈ tb := List.mem_filter.mpr ⟨List.mem_of_getElem? (i := 113) (by decide +kernel), rfl⟩
theorem k_84 : Cond.instanceMethod y_X_fillLayer ∈ tb := List.mem_filter.mpr ⟨List.mem_of_getElem? (i := 115) (by decide +kernel), rfl⟩
theorem k_85 : Cond.selects R_X y_X_fillLayer y_X_fillLayer ∈ tb := List.mem_filter.mpr ⟨List.mem_of_getElem? (i := 0) (by decide +kernel), rfl⟩
set_option maxRecDepth 100000 in
theorem k_86 : Cond.code y_X_fillLayer b_X_fillLayer 5 (some .int) ∈ tb := List.mem_filter.mpr ⟨List.mem_of_getElem? (i := 116) rfl, rfl⟩
theorem k_87 : Cond.methodLink R_X 111 y_X_pointOf ∈ tb := List.mem_filter.mpr ⟨List.mem_of_getElem? (i := 345) (by decide +kernel), rfl⟩
theorem k_88 : Cond.instanceMethod y_X_pointOf ∈ tb := List.mem_filter.mpr ⟨List.mem_of_getElem? (i := 347) (by decide +kernel), rfl⟩
theorem k_89 : Cond.selects R_X y_X_pointOf y_X_pointOf ∈ tb := List.mem_filter.mpr ⟨List.mem_of_getElem? (i := 12) (by decide +kernel), rfl⟩
set_option maxRecDepth 100000 in
theorem k_90 : Cond.code y_X_pointOf b_X_pointOf 3 (some .int) ∈ tb := List.mem_filter.mpr ⟨List.mem_of_getElem? (i := 348) rfl, rfl⟩
theorem k_91 : Cond.methodLink R_X 125 y_X_passesUpTo ∈ tb := List.mem_filter.mpr ⟨List.mem_of_getElem? (i := 366) (by decide +kernel), rfl⟩
theorem k_92 : Cond.static y_X_passesUpTo ∈ tb := List.mem_filter.mpr ⟨List.mem_of_getElem? (i := 367) (by decide +kernel), rfl⟩
set_option maxRecDepth 100000 in
theorem k_93 : Cond.code y_X_passesUpTo b_X_passesUpTo 1 (some .int) ∈ tb := List.mem_filter.mpr ⟨List.mem_of_getElem? (i := 368) rfl, rfl⟩
theorem k_94 : Cond.methodLink R_X 128 y_X_countSameSlope ∈ tb := List.mem_filter.mpr ⟨List.mem_of_getElem? (i := 369) (by decide +kernel), rfl⟩
theorem k_95 : Cond.instanceMethod y_X_countSameSlope ∈ tb := List.mem_filter.mpr ⟨List.mem_of_getElem? (i := 371) (by decide +kernel), rfl⟩
theorem k_96 : Cond.selects R_X y_X_countSameSlope y_X_countSameSlope ∈ tb := List.mem_filter.mpr ⟨List.mem_of_getElem? (i := 13) (by decide +kernel), rfl⟩
set_option maxRecDepth 100000 in
theorem k_97 : Cond.code y_X_countSameSlope b_X_countSameSlope 4 (some .int) ∈ tb := List.mem_filter.mpr ⟨List.mem_of_getElem? (i := 372) rfl, rfl⟩
theorem k_98 : Cond.classLink R_X 153 "java/lang/IllegalStateException" ∈ tb := List.mem_filter.mpr ⟨List.mem_of_getElem? (i := 377) (by decide +kernel), rfl⟩
theorem k_99 : Cond.initialized "java/lang/IllegalStateException" ∈ tb := List.mem_filter.mpr ⟨List.mem_of_getElem? (i := 40) (by decide +kernel), rfl⟩
theorem k_100 : Cond.methodLink R_X 131 y_X_needShared ∈ tb := List.mem_filter.mpr ⟨List.mem_of_getElem? (i := 373) (by decide +kernel), rfl⟩
theorem k_101 : Cond.instanceMethod y_X_needShared ∈ tb := List.mem_filter.mpr ⟨List.mem_of_getElem? (i := 375) (by decide +kernel), rfl⟩
theorem k_102 : Cond.selects R_X y_X_needShared y_X_needShared ∈ tb := List.mem_filter.mpr ⟨List.mem_of_getElem? (i := 14) (by decide +kernel), rfl⟩
set_option maxRecDepth 100000 in
theorem k_103 : Cond.code y_X_needShared b_X_needShared 1 none ∈ tb := List.mem_filter.mpr ⟨List.mem_of_getElem? (i := 376) rfl, rfl⟩
theorem k_104 : Cond.methodLink R_X 134 y_X_layerOf ∈ tb := List.mem_filter.mpr ⟨List.mem_of_getElem? (i := 393) (by decide +kernel), rfl⟩
theorem k_105 : Cond.instanceMethod y_X_layerOf ∈ tb := List.mem_filter.mpr ⟨List.mem_of_getElem? (i := 395) (by decide +kernel), rfl⟩
theorem k_106 : Cond.selects R_X y_X_layerOf y_X_layerOf ∈ tb := List.mem_filter.mpr ⟨List.mem_of_getElem? (i := 15) (by decide +kernel), rfl⟩
set_option maxRecDepth 100000 in
theorem k_107 : Cond.code y_X_layerOf b_X_layerOf 3 (some .int) ∈ tb := List.mem_filter.mpr ⟨List.mem_of_getElem? (i := 396) rfl, rfl⟩
theorem k_108 : Cond.constantLong R_X 145 (-1000000000000) ∈ tb := List.mem_filter.mpr ⟨List.mem_of_getElem? (i := 433) (by decide +kernel), rfl⟩
theorem k_109 : Cond.constantLong R_X 147 1000000000000 ∈ tb := List.mem_filter.mpr ⟨List.mem_of_getElem? (i := 434) (by decide +kernel), rfl⟩
theorem k_110 : Cond.fieldLink R_M 48 "RatePassesModel" "thrown" "I" ∈ tb := List.mem_filter.mpr ⟨List.mem_of_getElem? (i := 441) (by decide +kernel), rfl⟩
theorem k_111 : Cond.fieldLink R_M 51 "RatePassesModel" "blocks" "I" ∈ tb := List.mem_filter.mpr ⟨List.mem_of_getElem? (i := 443) (by decide +kernel), rfl⟩
theorem k_112 : Cond.methodLink R_M 54 y_M_isBlock ∈ tb := List.mem_filter.mpr ⟨List.mem_of_getElem? (i := 513) (by decide +kernel), rfl⟩
theorem k_113 : Cond.instanceMethod y_M_isBlock ∈ tb := List.mem_filter.mpr ⟨List.mem_of_getElem? (i := 515) (by decide +kernel), rfl⟩
theorem k_114 : Cond.selects R_M y_M_isBlock y_M_isBlock ∈ tb := List.mem_filter.mpr ⟨List.mem_of_getElem? (i := 18) (by decide +kernel), rfl⟩
theorem k_115 : Cond.initialized R_M ∈ tb := List.mem_filter.mpr ⟨List.mem_of_getElem? (i := 32) (by decide +kernel), rfl⟩
set_option maxRecDepth 100000 in
theorem k_116 : Cond.code y_M_isBlock b_M_isBlock 2 (some .boolean) ∈ tb := List.mem_filter.mpr ⟨List.mem_of_getElem? (i := 516) rfl, rfl⟩
theorem k_117 : Cond.fieldLink R_M 7 "RatePassesModel" "many" "[I" ∈ tb := List.mem_filter.mpr ⟨List.mem_of_getElem? (i := 444) (by decide +kernel), rfl⟩
theorem k_118 : Cond.fieldLink R_M 44 "RatePassesModel" "layers" "I" ∈ tb := List.mem_filter.mpr ⟨List.mem_of_getElem? (i := 442) (by decide +kernel), rfl⟩
theorem k_119 : Cond.fieldLink R_M 58 "RatePassesModel" "laid" "Z" ∈ tb := List.mem_filter.mpr ⟨List.mem_of_getElem? (i := 451) (by decide +kernel), rfl⟩
theorem k_120 : Cond.fieldLink R_M 62 "RatePassesModel" "shared" "Z" ∈ tb := List.mem_filter.mpr ⟨List.mem_of_getElem? (i := 456) (by decide +kernel), rfl⟩
theorem k_121 : Cond.methodLink R_M 65 y_M_fails ∈ tb := List.mem_filter.mpr ⟨List.mem_of_getElem? (i := 501) (by decide +kernel), rfl⟩
theorem k_122 : Cond.instanceMethod y_M_fails ∈ tb := List.mem_filter.mpr ⟨List.mem_of_getElem? (i := 503) (by decide +kernel), rfl⟩
theorem k_123 : Cond.selects R_M y_M_fails y_M_fails ∈ tb := List.mem_filter.mpr ⟨List.mem_of_getElem? (i := 16) (by decide +kernel), rfl⟩
set_option maxRecDepth 100000 in
theorem k_124 : Cond.code y_M_fails b_M_fails 3 (some .boolean) ∈ tb := List.mem_filter.mpr ⟨List.mem_of_getElem? (i := 504) rfl, rfl⟩
theorem k_125 : Cond.fieldLink R_M 13 "RatePassesModel" "weights" "[I" ∈ tb := List.mem_filter.mpr ⟨List.mem_of_getElem? (i := 445) (by decide +kernel), rfl⟩
theorem k_126 : Cond.fieldLink R_M 16 "RatePassesModel" "shifts" "[I" ∈ tb := List.mem_filter.mpr ⟨List.mem_of_getElem? (i := 446) (by decide +kernel), rfl⟩
theorem k_127 : Cond.methodLink R_M 69 y_M_spoil ∈ tb := List.mem_filter.mpr ⟨List.mem_of_getElem? (i := 505) (by decide +kernel), rfl⟩
theorem k_128 : Cond.instanceMethod y_M_spoil ∈ tb := List.mem_filter.mpr ⟨List.mem_of_getElem? (i := 507) (by decide +kernel), rfl⟩
theorem k_129 : Cond.selects R_M y_M_spoil y_M_spoil ∈ tb := List.mem_filter.mpr ⟨List.mem_of_getElem? (i := 17) (by decide +kernel), rfl⟩
set_option maxRecDepth 100000 in
theorem k_130 : Cond.code y_M_spoil b_M_spoil 1 none ∈ tb := List.mem_filter.mpr ⟨List.mem_of_getElem? (i := 508) rfl, rfl⟩
theorem k_131 : Cond.constantLong R_M 72 10000 ∈ tb := List.mem_filter.mpr ⟨List.mem_of_getElem? (i := 517) (by decide +kernel), rfl⟩
theorem k_132 : Cond.methodLink R_M 74 y_M_within ∈ tb := List.mem_filter.mpr ⟨List.mem_of_getElem? (i := 518) (by decide +kernel), rfl⟩
theorem k_133 : Cond.static y_M_within ∈ tb := List.mem_filter.mpr ⟨List.mem_of_getElem? (i := 519) (by decide +kernel), rfl⟩
set_option maxRecDepth 100000 in
theorem k_134 : Cond.code y_M_within b_M_within 6 (some .boolean) ∈ tb := List.mem_filter.mpr ⟨List.mem_of_getElem? (i := 520) rfl, rfl⟩
theorem k_135 : Cond.fieldLink R_M 19 "RatePassesModel" "lengths" "[I" ∈ tb := List.mem_filter.mpr ⟨List.mem_of_getElem? (i := 447) (by decide +kernel), rfl⟩
theorem k_136 : Cond.fieldLink R_M 22 "RatePassesModel" "gains" "[J" ∈ tb := List.mem_filter.mpr ⟨List.mem_of_getElem? (i := 448) (by decide +kernel), rfl⟩
theorem k_137 : Cond.constantLong R_M 78 (-1000000) ∈ tb := List.mem_filter.mpr ⟨List.mem_of_getElem? (i := 521) (by decide +kernel), rfl⟩
theorem k_138 : Cond.constantLong R_M 80 1000000 ∈ tb := List.mem_filter.mpr ⟨List.mem_of_getElem? (i := 522) (by decide +kernel), rfl⟩
theorem k_139 : Cond.constantLong R_M 82 100 ∈ tb := List.mem_filter.mpr ⟨List.mem_of_getElem? (i := 527) (by decide +kernel), rfl⟩
theorem k_140 : Cond.constantLong R_M 84 3 ∈ tb := List.mem_filter.mpr ⟨List.mem_of_getElem? (i := 532) (by decide +kernel), rfl⟩
theorem k_141 : Cond.methodLink R_M 86 y_M_isLayer ∈ tb := List.mem_filter.mpr ⟨List.mem_of_getElem? (i := 537) (by decide +kernel), rfl⟩
theorem k_142 : Cond.instanceMethod y_M_isLayer ∈ tb := List.mem_filter.mpr ⟨List.mem_of_getElem? (i := 539) (by decide +kernel), rfl⟩
theorem k_143 : Cond.selects R_M y_M_isLayer y_M_isLayer ∈ tb := List.mem_filter.mpr ⟨List.mem_of_getElem? (i := 19) (by decide +kernel), rfl⟩
set_option maxRecDepth 100000 in
theorem k_144 : Cond.code y_M_isLayer b_M_isLayer 2 (some .boolean) ∈ tb := List.mem_filter.mpr ⟨List.mem_of_getElem? (i := 540) rfl, rfl⟩
theorem k_145 : Cond.constantLong R_M 89 10000000 ∈ tb := List.mem_filter.mpr ⟨List.mem_of_getElem? (i := 541) (by decide +kernel), rfl⟩
theorem k_146 : Cond.fieldLink R_M 26 "RatePassesModel" "sizes" "[I" ∈ tb := List.mem_filter.mpr ⟨List.mem_of_getElem? (i := 449) (by decide +kernel), rfl⟩
theorem k_147 : Cond.fieldLink R_M 29 "RatePassesModel" "heads" "[I" ∈ tb := List.mem_filter.mpr ⟨List.mem_of_getElem? (i := 450) (by decide +kernel), rfl⟩
theorem k_148 : Cond.constantLong R_M 91 4 ∈ tb := List.mem_filter.mpr ⟨List.mem_of_getElem? (i := 562) (by decide +kernel), rfl⟩
theorem k_149 : Cond.methodLink R_M 93 y_M_g ∈ tb := List.mem_filter.mpr ⟨List.mem_of_getElem? (i := 558) (by decide +kernel), rfl⟩
theorem k_150 : Cond.instanceMethod y_M_g ∈ tb := List.mem_filter.mpr ⟨List.mem_of_getElem? (i := 560) (by decide +kernel), rfl⟩
theorem k_151 : Cond.selects R_M y_M_g y_M_g ∈ tb := List.mem_filter.mpr ⟨List.mem_of_getElem? (i := 22) (by decide +kernel), rfl⟩
set_option maxRecDepth 100000 in
theorem k_152 : Cond.code y_M_g b_M_g 6 (some .long) ∈ tb := List.mem_filter.mpr ⟨List.mem_of_getElem? (i := 561) rfl, rfl⟩
theorem k_153 : Cond.methodLink R_M 97 y_M_l ∈ tb := List.mem_filter.mpr ⟨List.mem_of_getElem? (i := 563) (by decide +kernel), rfl⟩
theorem k_154 : Cond.instanceMethod y_M_l ∈ tb := List.mem_filter.mpr ⟨List.mem_of_getElem? (i := 565) (by decide +kernel), rfl⟩
theorem k_155 : Cond.selects R_M y_M_l y_M_l ∈ tb := List.mem_filter.mpr ⟨List.mem_of_getElem? (i := 23) (by decide +kernel), rfl⟩
set_option maxRecDepth 100000 in
theorem k_156 : Cond.code y_M_l b_M_l 3 (some .int) ∈ tb := List.mem_filter.mpr ⟨List.mem_of_getElem? (i := 566) rfl, rfl⟩
theorem k_157 : Cond.fieldLink R_M 35 "RatePassesModel" "rises" "[J" ∈ tb := List.mem_filter.mpr ⟨List.mem_of_getElem? (i := 453) (by decide +kernel), rfl⟩
theorem k_158 : Cond.fieldLink R_M 32 "RatePassesModel" "costs" "[I" ∈ tb := List.mem_filter.mpr ⟨List.mem_of_getElem? (i := 452) (by decide +kernel), rfl⟩
theorem k_159 : Cond.fieldLink R_M 101 "RatePassesModel" "length" "I" ∈ tb := List.mem_filter.mpr ⟨List.mem_of_getElem? (i := 454) (by decide +kernel), rfl⟩
theorem k_160 : Cond.methodLink R_M 104 y_M_isHull ∈ tb := List.mem_filter.mpr ⟨List.mem_of_getElem? (i := 554) (by decide +kernel), rfl⟩
theorem k_161 : Cond.instanceMethod y_M_isHull ∈ tb := List.mem_filter.mpr ⟨List.mem_of_getElem? (i := 556) (by decide +kernel), rfl⟩
theorem k_162 : Cond.selects R_M y_M_isHull y_M_isHull ∈ tb := List.mem_filter.mpr ⟨List.mem_of_getElem? (i := 21) (by decide +kernel), rfl⟩
set_option maxRecDepth 100000 in
theorem k_163 : Cond.code y_M_isHull b_M_isHull 12 (some .boolean) ∈ tb := List.mem_filter.mpr ⟨List.mem_of_getElem? (i := 557) rfl, rfl⟩
theorem k_164 : Cond.fieldLink R_M 38 "RatePassesModel" "row" "[I" ∈ tb := List.mem_filter.mpr ⟨List.mem_of_getElem? (i := 455) (by decide +kernel), rfl⟩
theorem k_165 : Cond.methodLink R_M 108 y_M_isBefore ∈ tb := List.mem_filter.mpr ⟨List.mem_of_getElem? (i := 567) (by decide +kernel), rfl⟩
theorem k_166 : Cond.instanceMethod y_M_isBefore ∈ tb := List.mem_filter.mpr ⟨List.mem_of_getElem? (i := 569) (by decide +kernel), rfl⟩
theorem k_167 : Cond.selects R_M y_M_isBefore y_M_isBefore ∈ tb := List.mem_filter.mpr ⟨List.mem_of_getElem? (i := 24) (by decide +kernel), rfl⟩
set_option maxRecDepth 100000 in
theorem k_168 : Cond.code y_M_isBefore b_M_isBefore 7 (some .boolean) ∈ tb := List.mem_filter.mpr ⟨List.mem_of_getElem? (i := 570) rfl, rfl⟩
theorem k_169 : Cond.methodLink R_M 111 y_M_layRow ∈ tb := List.mem_filter.mpr ⟨List.mem_of_getElem? (i := 550) (by decide +kernel), rfl⟩
theorem k_170 : Cond.instanceMethod y_M_layRow ∈ tb := List.mem_filter.mpr ⟨List.mem_of_getElem? (i := 552) (by decide +kernel), rfl⟩
theorem k_171 : Cond.selects R_M y_M_layRow y_M_layRow ∈ tb := List.mem_filter.mpr ⟨List.mem_of_getElem? (i := 20) (by decide +kernel), rfl⟩
set_option maxRecDepth 100000 in
theorem k_172 : Cond.code y_M_layRow b_M_layRow 7 none ∈ tb := List.mem_filter.mpr ⟨List.mem_of_getElem? (i := 553) rfl, rfl⟩
theorem k_173 : Cond.fieldLink R_M 41 "RatePassesModel" "given" "[I" ∈ tb := List.mem_filter.mpr ⟨List.mem_of_getElem? (i := 457) (by decide +kernel), rfl⟩
theorem k_174 : Cond.methodLink R_M 114 y_M_isPass ∈ tb := List.mem_filter.mpr ⟨List.mem_of_getElem? (i := 575) (by decide +kernel), rfl⟩
theorem k_175 : Cond.instanceMethod y_M_isPass ∈ tb := List.mem_filter.mpr ⟨List.mem_of_getElem? (i := 577) (by decide +kernel), rfl⟩
theorem k_176 : Cond.selects R_M y_M_isPass y_M_isPass ∈ tb := List.mem_filter.mpr ⟨List.mem_of_getElem? (i := 25) (by decide +kernel), rfl⟩
set_option maxRecDepth 100000 in
theorem k_177 : Cond.code y_M_isPass b_M_isPass 3 (some .boolean) ∈ tb := List.mem_filter.mpr ⟨List.mem_of_getElem? (i := 578) rfl, rfl⟩
theorem k_178 : Cond.methodLink R_M 121 y_M_layerOf ∈ tb := List.mem_filter.mpr ⟨List.mem_of_getElem? (i := 595) (by decide +kernel), rfl⟩
theorem k_179 : Cond.instanceMethod y_M_layerOf ∈ tb := List.mem_filter.mpr ⟨List.mem_of_getElem? (i := 597) (by decide +kernel), rfl⟩
theorem k_180 : Cond.selects R_M y_M_layerOf y_M_layerOf ∈ tb := List.mem_filter.mpr ⟨List.mem_of_getElem? (i := 27) (by decide +kernel), rfl⟩
set_option maxRecDepth 100000 in
theorem k_181 : Cond.code y_M_layerOf b_M_layerOf 3 (some .int) ∈ tb := List.mem_filter.mpr ⟨List.mem_of_getElem? (i := 598) rfl, rfl⟩
theorem k_182 : Cond.methodLink R_M 117 y_M_alike ∈ tb := List.mem_filter.mpr ⟨List.mem_of_getElem? (i := 591) (by decide +kernel), rfl⟩
theorem k_183 : Cond.instanceMethod y_M_alike ∈ tb := List.mem_filter.mpr ⟨List.mem_of_getElem? (i := 593) (by decide +kernel), rfl⟩
theorem k_184 : Cond.selects R_M y_M_alike y_M_alike ∈ tb := List.mem_filter.mpr ⟨List.mem_of_getElem? (i := 26) (by decide +kernel), rfl⟩
set_option maxRecDepth 100000 in
theorem k_185 : Cond.code y_M_alike b_M_alike 4 (some .int) ∈ tb := List.mem_filter.mpr ⟨List.mem_of_getElem? (i := 594) rfl, rfl⟩
theorem k_186 : Cond.methodLink R_M 124 y_M_last ∈ tb := List.mem_filter.mpr ⟨List.mem_of_getElem? (i := 603) (by decide +kernel), rfl⟩
theorem k_187 : Cond.instanceMethod y_M_last ∈ tb := List.mem_filter.mpr ⟨List.mem_of_getElem? (i := 605) (by decide +kernel), rfl⟩
theorem k_188 : Cond.selects R_M y_M_last y_M_last ∈ tb := List.mem_filter.mpr ⟨List.mem_of_getElem? (i := 28) (by decide +kernel), rfl⟩
set_option maxRecDepth 100000 in
theorem k_189 : Cond.code y_M_last b_M_last 5 (some .int) ∈ tb := List.mem_filter.mpr ⟨List.mem_of_getElem? (i := 606) rfl, rfl⟩
theorem k_190 : Cond.constantLong R_M 127 (-1000000000000) ∈ tb := List.mem_filter.mpr ⟨List.mem_of_getElem? (i := 623) (by decide +kernel), rfl⟩
theorem k_191 : Cond.constantLong R_M 129 1000000000000 ∈ tb := List.mem_filter.mpr ⟨List.mem_of_getElem? (i := 624) (by decide +kernel), rfl⟩
theorem k_192 : Cond.methodLink R_X 3 Lib.objectInit ∈ tb := List.mem_filter.mpr ⟨List.mem_of_getElem? (i := 46) (by decide +kernel), rfl⟩
theorem k_193 : Cond.instanceMethod Lib.objectInit ∈ tb := List.mem_filter.mpr ⟨List.mem_of_getElem? (i := 47) (by decide +kernel), rfl⟩
set_option maxRecDepth 100000 in
theorem k_194 : Cond.code Lib.objectInit ⟨#[0xb1]⟩ 1 none ∈ tb := List.mem_filter.mpr ⟨List.mem_of_getElem? (i := 48) rfl, rfl⟩
theorem k_195 : Cond.arrayClass .int ∈ tb := List.mem_filter.mpr ⟨List.mem_of_getElem? (i := 107) (by decide +kernel), rfl⟩
theorem k_196 : Cond.arrayClass .long ∈ tb := List.mem_filter.mpr ⟨List.mem_of_getElem? (i := 108) (by decide +kernel), rfl⟩
theorem k_197 : Cond.methodLink R_X 35 Lib.Math.min.name ∈ tb := List.mem_filter.mpr ⟨List.mem_of_getElem? (i := 49) (by decide +kernel), rfl⟩
theorem k_198 : Cond.static Lib.Math.min.name ∈ tb := List.mem_filter.mpr ⟨List.mem_of_getElem? (i := 50) (by decide +kernel), rfl⟩
theorem k_199 : Cond.initialized "java/lang/Math" ∈ tb := List.mem_filter.mpr ⟨List.mem_of_getElem? (i := 31) (by decide +kernel), rfl⟩
set_option maxRecDepth 100000 in
theorem k_200 : Cond.code Lib.Math.min.name Lib.Math.min.code 2 (some .int) ∈ tb := List.mem_filter.mpr ⟨List.mem_of_getElem? (i := 51) rfl, rfl⟩
theorem k_201 : Cond.methodLink R_X 41 Lib.Math.max.name ∈ tb := List.mem_filter.mpr ⟨List.mem_of_getElem? (i := 52) (by decide +kernel), rfl⟩
theorem k_202 : Cond.static Lib.Math.max.name ∈ tb := List.mem_filter.mpr ⟨List.mem_of_getElem? (i := 53) (by decide +kernel), rfl⟩
set_option maxRecDepth 100000 in
theorem k_203 : Cond.code Lib.Math.max.name Lib.Math.max.code 2 (some .int) ∈ tb := List.mem_filter.mpr ⟨List.mem_of_getElem? (i := 54) rfl, rfl⟩
theorem k_204 : Cond.methodLink R_M 1 Lib.objectInit ∈ tb := List.mem_filter.mpr ⟨List.mem_of_getElem? (i := 440) (by decide +kernel), rfl⟩
theorem k_205 : Cond.methodLink R_L 7 y_X_block ∈ tb := List.mem_filter.mpr ⟨List.mem_of_getElem? (i := 136) (by decide +kernel), rfl⟩
theorem k_206 : Cond.instanceMethod y_X_block ∈ tb := List.mem_filter.mpr ⟨List.mem_of_getElem? (i := 137) (by decide +kernel), rfl⟩
theorem k_207 : Cond.selects R_X y_X_block y_X_block ∈ tb := List.mem_filter.mpr ⟨List.mem_of_getElem? (i := 138) (by decide +kernel), rfl⟩
set_option maxRecDepth 100000 in
theorem k_208 : Cond.code y_X_block b_X_block 2 (some .int) ∈ tb := List.mem_filter.mpr ⟨List.mem_of_getElem? (i := 139) rfl, rfl⟩
theorem k_209 : Cond.classLink R_L 13 "java/lang/UnsupportedOperationException" ∈ tb := List.mem_filter.mpr ⟨List.mem_of_getElem? (i := 135) (by decide +kernel), rfl⟩
theorem k_210 : Cond.methodLink R_L 15 y_X_pass ∈ tb := List.mem_filter.mpr ⟨List.mem_of_getElem? (i := 214) (by decide +kernel), rfl⟩
theorem k_211 : Cond.instanceMethod y_X_pass ∈ tb := List.mem_filter.mpr ⟨List.mem_of_getElem? (i := 215) (by decide +kernel), rfl⟩
theorem k_212 : Cond.selects R_X y_X_pass y_X_pass ∈ tb := List.mem_filter.mpr ⟨List.mem_of_getElem? (i := 216) (by decide +kernel), rfl⟩
set_option maxRecDepth 100000 in
theorem k_213 : Cond.code y_X_pass b_X_pass 6 (some .int) ∈ tb := List.mem_filter.mpr ⟨List.mem_of_getElem? (i := 217) rfl, rfl⟩
theorem k_214 : Cond.classLink R_L 19 "java/lang/IndexOutOfBoundsException" ∈ tb := List.mem_filter.mpr ⟨List.mem_of_getElem? (i := 212) (by decide +kernel), rfl⟩
theorem k_215 : Cond.classLink R_L 21 "java/lang/IllegalArgumentException" ∈ tb := List.mem_filter.mpr ⟨List.mem_of_getElem? (i := 213) (by decide +kernel), rfl⟩
theorem k_216 : Cond.methodLink R_L 23 y_X_weight ∈ tb := List.mem_filter.mpr ⟨List.mem_of_getElem? (i := 301) (by decide +kernel), rfl⟩
theorem k_217 : Cond.instanceMethod y_X_weight ∈ tb := List.mem_filter.mpr ⟨List.mem_of_getElem? (i := 302) (by decide +kernel), rfl⟩
theorem k_218 : Cond.selects R_X y_X_weight y_X_weight ∈ tb := List.mem_filter.mpr ⟨List.mem_of_getElem? (i := 303) (by decide +kernel), rfl⟩
set_option maxRecDepth 100000 in
theorem k_219 : Cond.code y_X_weight b_X_weight 4 (some .int) ∈ tb := List.mem_filter.mpr ⟨List.mem_of_getElem? (i := 304) rfl, rfl⟩
theorem k_220 : Cond.methodLink R_L 27 y_X_shift ∈ tb := List.mem_filter.mpr ⟨List.mem_of_getElem? (i := 309) (by decide +kernel), rfl⟩
theorem k_221 : Cond.instanceMethod y_X_shift ∈ tb := List.mem_filter.mpr ⟨List.mem_of_getElem? (i := 310) (by decide +kernel), rfl⟩
theorem k_222 : Cond.selects R_X y_X_shift y_X_shift ∈ tb := List.mem_filter.mpr ⟨List.mem_of_getElem? (i := 311) (by decide +kernel), rfl⟩
set_option maxRecDepth 100000 in
theorem k_223 : Cond.code y_X_shift b_X_shift 4 (some .int) ∈ tb := List.mem_filter.mpr ⟨List.mem_of_getElem? (i := 312) rfl, rfl⟩
theorem k_224 : Cond.methodLink R_L 30 y_X_size ∈ tb := List.mem_filter.mpr ⟨List.mem_of_getElem? (i := 317) (by decide +kernel), rfl⟩
theorem k_225 : Cond.instanceMethod y_X_size ∈ tb := List.mem_filter.mpr ⟨List.mem_of_getElem? (i := 318) (by decide +kernel), rfl⟩
theorem k_226 : Cond.selects R_X y_X_size y_X_size ∈ tb := List.mem_filter.mpr ⟨List.mem_of_getElem? (i := 319) (by decide +kernel), rfl⟩
set_option maxRecDepth 100000 in
theorem k_227 : Cond.code y_X_size b_X_size 3 (some .int) ∈ tb := List.mem_filter.mpr ⟨List.mem_of_getElem? (i := 320) rfl, rfl⟩
theorem k_228 : Cond.methodLink R_L 33 y_X_head ∈ tb := List.mem_filter.mpr ⟨List.mem_of_getElem? (i := 334) (by decide +kernel), rfl⟩
theorem k_229 : Cond.instanceMethod y_X_head ∈ tb := List.mem_filter.mpr ⟨List.mem_of_getElem? (i := 335) (by decide +kernel), rfl⟩
theorem k_230 : Cond.selects R_X y_X_head y_X_head ∈ tb := List.mem_filter.mpr ⟨List.mem_of_getElem? (i := 336) (by decide +kernel), rfl⟩
set_option maxRecDepth 100000 in
theorem k_231 : Cond.code y_X_head b_X_head 3 (some .int) ∈ tb := List.mem_filter.mpr ⟨List.mem_of_getElem? (i := 337) rfl, rfl⟩
theorem k_232 : Cond.methodLink R_L 36 y_X_hull ∈ tb := List.mem_filter.mpr ⟨List.mem_of_getElem? (i := 341) (by decide +kernel), rfl⟩
theorem k_233 : Cond.instanceMethod y_X_hull ∈ tb := List.mem_filter.mpr ⟨List.mem_of_getElem? (i := 342) (by decide +kernel), rfl⟩
theorem k_234 : Cond.selects R_X y_X_hull y_X_hull ∈ tb := List.mem_filter.mpr ⟨List.mem_of_getElem? (i := 343) (by decide +kernel), rfl⟩
set_option maxRecDepth 100000 in
theorem k_235 : Cond.code y_X_hull b_X_hull 3 (some .boolean) ∈ tb := List.mem_filter.mpr ⟨List.mem_of_getElem? (i := 344) rfl, rfl⟩
theorem k_236 : Cond.methodLink R_L 40 y_X_slope ∈ tb := List.mem_filter.mpr ⟨List.mem_of_getElem? (i := 353) (by decide +kernel), rfl⟩
theorem k_237 : Cond.instanceMethod y_X_slope ∈ tb := List.mem_filter.mpr ⟨List.mem_of_getElem? (i := 354) (by decide +kernel), rfl⟩
theorem k_238 : Cond.selects R_X y_X_slope y_X_slope ∈ tb := List.mem_filter.mpr ⟨List.mem_of_getElem? (i := 355) (by decide +kernel), rfl⟩
set_option maxRecDepth 100000 in
theorem k_239 : Cond.code y_X_slope b_X_slope 5 (some .long) ∈ tb := List.mem_filter.mpr ⟨List.mem_of_getElem? (i := 356) rfl, rfl⟩
theorem k_240 : Cond.methodLink R_L 44 y_X_at ∈ tb := List.mem_filter.mpr ⟨List.mem_of_getElem? (i := 361) (by decide +kernel), rfl⟩
theorem k_241 : Cond.instanceMethod y_X_at ∈ tb := List.mem_filter.mpr ⟨List.mem_of_getElem? (i := 362) (by decide +kernel), rfl⟩
theorem k_242 : Cond.selects R_X y_X_at y_X_at ∈ tb := List.mem_filter.mpr ⟨List.mem_of_getElem? (i := 363) (by decide +kernel), rfl⟩
set_option maxRecDepth 100000 in
theorem k_243 : Cond.code y_X_at b_X_at 4 (some .int) ∈ tb := List.mem_filter.mpr ⟨List.mem_of_getElem? (i := 364) rfl, rfl⟩
theorem k_244 : Cond.classLink R_L 47 "java/lang/IllegalStateException" ∈ tb := List.mem_filter.mpr ⟨List.mem_of_getElem? (i := 360) (by decide +kernel), rfl⟩
theorem k_245 : Cond.methodLink R_L 49 y_X_passes ∈ tb := List.mem_filter.mpr ⟨List.mem_of_getElem? (i := 401) (by decide +kernel), rfl⟩
theorem k_246 : Cond.instanceMethod y_X_passes ∈ tb := List.mem_filter.mpr ⟨List.mem_of_getElem? (i := 402) (by decide +kernel), rfl⟩
theorem k_247 : Cond.selects R_X y_X_passes y_X_passes ∈ tb := List.mem_filter.mpr ⟨List.mem_of_getElem? (i := 403) (by decide +kernel), rfl⟩
set_option maxRecDepth 100000 in
theorem k_248 : Cond.code y_X_passes b_X_passes 4 (some .int) ∈ tb := List.mem_filter.mpr ⟨List.mem_of_getElem? (i := 404) rfl, rfl⟩
theorem k_249 : Cond.methodLink R_L 52 y_X_bytes ∈ tb := List.mem_filter.mpr ⟨List.mem_of_getElem? (i := 408) (by decide +kernel), rfl⟩
theorem k_250 : Cond.instanceMethod y_X_bytes ∈ tb := List.mem_filter.mpr ⟨List.mem_of_getElem? (i := 409) (by decide +kernel), rfl⟩
theorem k_251 : Cond.selects R_X y_X_bytes y_X_bytes ∈ tb := List.mem_filter.mpr ⟨List.mem_of_getElem? (i := 410) (by decide +kernel), rfl⟩
set_option maxRecDepth 100000 in
theorem k_252 : Cond.code y_X_bytes b_X_bytes 2 (some .int) ∈ tb := List.mem_filter.mpr ⟨List.mem_of_getElem? (i := 411) rfl, rfl⟩
theorem k_253 : Cond.methodLink R_L 56 y_X_gained ∈ tb := List.mem_filter.mpr ⟨List.mem_of_getElem? (i := 415) (by decide +kernel), rfl⟩
theorem k_254 : Cond.instanceMethod y_X_gained ∈ tb := List.mem_filter.mpr ⟨List.mem_of_getElem? (i := 416) (by decide +kernel), rfl⟩
theorem k_255 : Cond.selects R_X y_X_gained y_X_gained ∈ tb := List.mem_filter.mpr ⟨List.mem_of_getElem? (i := 417) (by decide +kernel), rfl⟩
set_option maxRecDepth 100000 in
theorem k_256 : Cond.code y_X_gained b_X_gained 5 (some .long) ∈ tb := List.mem_filter.mpr ⟨List.mem_of_getElem? (i := 418) rfl, rfl⟩
theorem k_257 : Cond.methodLink R_L 60 y_X_least ∈ tb := List.mem_filter.mpr ⟨List.mem_of_getElem? (i := 422) (by decide +kernel), rfl⟩
theorem k_258 : Cond.instanceMethod y_X_least ∈ tb := List.mem_filter.mpr ⟨List.mem_of_getElem? (i := 423) (by decide +kernel), rfl⟩
theorem k_259 : Cond.selects R_X y_X_least y_X_least ∈ tb := List.mem_filter.mpr ⟨List.mem_of_getElem? (i := 424) (by decide +kernel), rfl⟩
set_option maxRecDepth 100000 in
theorem k_260 : Cond.code y_X_least b_X_least 4 (some .int) ∈ tb := List.mem_filter.mpr ⟨List.mem_of_getElem? (i := 425) rfl, rfl⟩
theorem k_261 : Cond.methodLink R_L 63 y_X_above ∈ tb := List.mem_filter.mpr ⟨List.mem_of_getElem? (i := 429) (by decide +kernel), rfl⟩
theorem k_262 : Cond.instanceMethod y_X_above ∈ tb := List.mem_filter.mpr ⟨List.mem_of_getElem? (i := 430) (by decide +kernel), rfl⟩
theorem k_263 : Cond.selects R_X y_X_above y_X_above ∈ tb := List.mem_filter.mpr ⟨List.mem_of_getElem? (i := 431) (by decide +kernel), rfl⟩
set_option maxRecDepth 100000 in
theorem k_264 : Cond.code y_X_above b_X_above 5 (some .int) ∈ tb := List.mem_filter.mpr ⟨List.mem_of_getElem? (i := 432) rfl, rfl⟩
theorem k_265 : Cond.methodLink R_L 79 y_L_block ∈ tb := List.mem_filter.mpr ⟨List.mem_of_getElem? (i := 132) (by decide +kernel), rfl⟩
theorem k_266 : Cond.static y_L_block ∈ tb := List.mem_filter.mpr ⟨List.mem_of_getElem? (i := 133) (by decide +kernel), rfl⟩
theorem k_267 : Cond.initialized R_L ∈ tb := List.mem_filter.mpr ⟨List.mem_of_getElem? (i := 29) (by decide +kernel), rfl⟩
set_option maxRecDepth 100000 in
theorem k_268 : Cond.codeWith y_L_block b_L_block 3 (some .int) [(0, 8, 11, 13)] ∈ tb := List.mem_filter.mpr ⟨List.mem_of_getElem? (i := 134) rfl, rfl⟩
theorem k_269 : Cond.methodLink R_L 82 y_M_block ∈ tb := List.mem_filter.mpr ⟨List.mem_of_getElem? (i := 497) (by decide +kernel), rfl⟩
theorem k_270 : Cond.instanceMethod y_M_block ∈ tb := List.mem_filter.mpr ⟨List.mem_of_getElem? (i := 498) (by decide +kernel), rfl⟩
theorem k_271 : Cond.selects R_M y_M_block y_M_block ∈ tb := List.mem_filter.mpr ⟨List.mem_of_getElem? (i := 499) (by decide +kernel), rfl⟩
set_option maxRecDepth 100000 in
theorem k_272 : Cond.code y_M_block b_M_block 1 (some .int) ∈ tb := List.mem_filter.mpr ⟨List.mem_of_getElem? (i := 500) rfl, rfl⟩
theorem k_273 : Cond.methodLink R_L 83 y_M_thrown ∈ tb := List.mem_filter.mpr ⟨List.mem_of_getElem? (i := 493) (by decide +kernel), rfl⟩
theorem k_274 : Cond.instanceMethod y_M_thrown ∈ tb := List.mem_filter.mpr ⟨List.mem_of_getElem? (i := 494) (by decide +kernel), rfl⟩
theorem k_275 : Cond.selects R_M y_M_thrown y_M_thrown ∈ tb := List.mem_filter.mpr ⟨List.mem_of_getElem? (i := 495) (by decide +kernel), rfl⟩
set_option maxRecDepth 100000 in
theorem k_276 : Cond.code y_M_thrown b_M_thrown 1 (some .int) ∈ tb := List.mem_filter.mpr ⟨List.mem_of_getElem? (i := 496) rfl, rfl⟩
theorem k_277 : Cond.methodLink R_L 86 y_L_pass ∈ tb := List.mem_filter.mpr ⟨List.mem_of_getElem? (i := 209) (by decide +kernel), rfl⟩
theorem k_278 : Cond.static y_L_pass ∈ tb := List.mem_filter.mpr ⟨List.mem_of_getElem? (i := 210) (by decide +kernel), rfl⟩
set_option maxRecDepth 100000 in
theorem k_279 : Cond.codeWith y_L_pass b_L_pass 6 (some .int) [(0, 12, 15, 19), (0, 12, 19, 21), (0, 12, 23, 13)] ∈ tb := List.mem_filter.mpr ⟨List.mem_of_getElem? (i := 211) rfl, rfl⟩
theorem k_280 : Cond.methodLink R_L 89 y_M_pass ∈ tb := List.mem_filter.mpr ⟨List.mem_of_getElem? (i := 509) (by decide +kernel), rfl⟩
theorem k_281 : Cond.instanceMethod y_M_pass ∈ tb := List.mem_filter.mpr ⟨List.mem_of_getElem? (i := 510) (by decide +kernel), rfl⟩
theorem k_282 : Cond.selects R_M y_M_pass y_M_pass ∈ tb := List.mem_filter.mpr ⟨List.mem_of_getElem? (i := 511) (by decide +kernel), rfl⟩
set_option maxRecDepth 100000 in
theorem k_283 : Cond.code y_M_pass b_M_pass 5 (some .int) ∈ tb := List.mem_filter.mpr ⟨List.mem_of_getElem? (i := 512) rfl, rfl⟩
theorem k_284 : Cond.methodLink R_L 90 y_L_weight ∈ tb := List.mem_filter.mpr ⟨List.mem_of_getElem? (i := 298) (by decide +kernel), rfl⟩
theorem k_285 : Cond.static y_L_weight ∈ tb := List.mem_filter.mpr ⟨List.mem_of_getElem? (i := 299) (by decide +kernel), rfl⟩
set_option maxRecDepth 100000 in
theorem k_286 : Cond.codeWith y_L_weight b_L_weight 5 (some .int) [(0, 10, 13, 19), (0, 10, 17, 21)] ∈ tb := List.mem_filter.mpr ⟨List.mem_of_getElem? (i := 300) rfl, rfl⟩
theorem k_287 : Cond.methodLink R_L 93 y_M_weight ∈ tb := List.mem_filter.mpr ⟨List.mem_of_getElem? (i := 523) (by decide +kernel), rfl⟩
theorem k_288 : Cond.instanceMethod y_M_weight ∈ tb := List.mem_filter.mpr ⟨List.mem_of_getElem? (i := 524) (by decide +kernel), rfl⟩
theorem k_289 : Cond.selects R_M y_M_weight y_M_weight ∈ tb := List.mem_filter.mpr ⟨List.mem_of_getElem? (i := 525) (by decide +kernel), rfl⟩
set_option maxRecDepth 100000 in
theorem k_290 : Cond.code y_M_weight b_M_weight 4 (some .int) ∈ tb := List.mem_filter.mpr ⟨List.mem_of_getElem? (i := 526) rfl, rfl⟩
theorem k_291 : Cond.methodLink R_L 94 y_L_shift ∈ tb := List.mem_filter.mpr ⟨List.mem_of_getElem? (i := 306) (by decide +kernel), rfl⟩
theorem k_292 : Cond.static y_L_shift ∈ tb := List.mem_filter.mpr ⟨List.mem_of_getElem? (i := 307) (by decide +kernel), rfl⟩
set_option maxRecDepth 100000 in
theorem k_293 : Cond.codeWith y_L_shift b_L_shift 5 (some .int) [(0, 10, 13, 19), (0, 10, 17, 21)] ∈ tb := List.mem_filter.mpr ⟨List.mem_of_getElem? (i := 308) rfl, rfl⟩
theorem k_294 : Cond.methodLink R_L 96 y_M_shift ∈ tb := List.mem_filter.mpr ⟨List.mem_of_getElem? (i := 528) (by decide +kernel), rfl⟩
theorem k_295 : Cond.instanceMethod y_M_shift ∈ tb := List.mem_filter.mpr ⟨List.mem_of_getElem? (i := 529) (by decide +kernel), rfl⟩
theorem k_296 : Cond.selects R_M y_M_shift y_M_shift ∈ tb := List.mem_filter.mpr ⟨List.mem_of_getElem? (i := 530) (by decide +kernel), rfl⟩
set_option maxRecDepth 100000 in
theorem k_297 : Cond.code y_M_shift b_M_shift 4 (some .int) ∈ tb := List.mem_filter.mpr ⟨List.mem_of_getElem? (i := 531) rfl, rfl⟩
theorem k_298 : Cond.methodLink R_L 97 y_L_size ∈ tb := List.mem_filter.mpr ⟨List.mem_of_getElem? (i := 314) (by decide +kernel), rfl⟩
theorem k_299 : Cond.static y_L_size ∈ tb := List.mem_filter.mpr ⟨List.mem_of_getElem? (i := 315) (by decide +kernel), rfl⟩
set_option maxRecDepth 100000 in
theorem k_300 : Cond.codeWith y_L_size b_L_size 5 (some .int) [(0, 10, 13, 19), (0, 10, 17, 21)] ∈ tb := List.mem_filter.mpr ⟨List.mem_of_getElem? (i := 316) rfl, rfl⟩
theorem k_301 : Cond.methodLink R_L 99 y_M_size ∈ tb := List.mem_filter.mpr ⟨List.mem_of_getElem? (i := 533) (by decide +kernel), rfl⟩
theorem k_302 : Cond.instanceMethod y_M_size ∈ tb := List.mem_filter.mpr ⟨List.mem_of_getElem? (i := 534) (by decide +kernel), rfl⟩
theorem k_303 : Cond.selects R_M y_M_size y_M_size ∈ tb := List.mem_filter.mpr ⟨List.mem_of_getElem? (i := 535) (by decide +kernel), rfl⟩
set_option maxRecDepth 100000 in
theorem k_304 : Cond.code y_M_size b_M_size 4 (some .int) ∈ tb := List.mem_filter.mpr ⟨List.mem_of_getElem? (i := 536) rfl, rfl⟩
theorem k_305 : Cond.methodLink R_L 100 y_L_head ∈ tb := List.mem_filter.mpr ⟨List.mem_of_getElem? (i := 331) (by decide +kernel), rfl⟩
theorem k_306 : Cond.static y_L_head ∈ tb := List.mem_filter.mpr ⟨List.mem_of_getElem? (i := 332) (by decide +kernel), rfl⟩
set_option maxRecDepth 100000 in
theorem k_307 : Cond.codeWith y_L_head b_L_head 5 (some .int) [(0, 10, 13, 19), (0, 10, 17, 21)] ∈ tb := List.mem_filter.mpr ⟨List.mem_of_getElem? (i := 333) rfl, rfl⟩
theorem k_308 : Cond.methodLink R_L 102 y_M_head ∈ tb := List.mem_filter.mpr ⟨List.mem_of_getElem? (i := 542) (by decide +kernel), rfl⟩
theorem k_309 : Cond.instanceMethod y_M_head ∈ tb := List.mem_filter.mpr ⟨List.mem_of_getElem? (i := 543) (by decide +kernel), rfl⟩
theorem k_310 : Cond.selects R_M y_M_head y_M_head ∈ tb := List.mem_filter.mpr ⟨List.mem_of_getElem? (i := 544) (by decide +kernel), rfl⟩
set_option maxRecDepth 100000 in
theorem k_311 : Cond.code y_M_head b_M_head 4 (some .int) ∈ tb := List.mem_filter.mpr ⟨List.mem_of_getElem? (i := 545) rfl, rfl⟩
theorem k_312 : Cond.methodLink R_L 103 y_X_run ∈ tb := List.mem_filter.mpr ⟨List.mem_of_getElem? (i := 109) (by decide +kernel), rfl⟩
theorem k_313 : Cond.instanceMethod y_X_run ∈ tb := List.mem_filter.mpr ⟨List.mem_of_getElem? (i := 110) (by decide +kernel), rfl⟩
theorem k_314 : Cond.selects R_X y_X_run y_X_run ∈ tb := List.mem_filter.mpr ⟨List.mem_of_getElem? (i := 111) (by decide +kernel), rfl⟩
set_option maxRecDepth 100000 in
theorem k_315 : Cond.code y_X_run b_X_run 4 (some .int) ∈ tb := List.mem_filter.mpr ⟨List.mem_of_getElem? (i := 112) rfl, rfl⟩
theorem k_316 : Cond.methodLink R_L 106 y_M_run ∈ tb := List.mem_filter.mpr ⟨List.mem_of_getElem? (i := 546) (by decide +kernel), rfl⟩
theorem k_317 : Cond.instanceMethod y_M_run ∈ tb := List.mem_filter.mpr ⟨List.mem_of_getElem? (i := 547) (by decide +kernel), rfl⟩
theorem k_318 : Cond.selects R_M y_M_run y_M_run ∈ tb := List.mem_filter.mpr ⟨List.mem_of_getElem? (i := 548) (by decide +kernel), rfl⟩
set_option maxRecDepth 100000 in
theorem k_319 : Cond.code y_M_run b_M_run 5 (some .int) ∈ tb := List.mem_filter.mpr ⟨List.mem_of_getElem? (i := 549) rfl, rfl⟩
theorem k_320 : Cond.methodLink R_L 107 y_L_hull ∈ tb := List.mem_filter.mpr ⟨List.mem_of_getElem? (i := 338) (by decide +kernel), rfl⟩
theorem k_321 : Cond.static y_L_hull ∈ tb := List.mem_filter.mpr ⟨List.mem_of_getElem? (i := 339) (by decide +kernel), rfl⟩
set_option maxRecDepth 100000 in
theorem k_322 : Cond.codeWith y_L_hull b_L_hull 5 (some .int) [(0, 17, 20, 19)] ∈ tb := List.mem_filter.mpr ⟨List.mem_of_getElem? (i := 340) rfl, rfl⟩
theorem k_323 : Cond.methodLink R_L 109 y_M_hull ∈ tb := List.mem_filter.mpr ⟨List.mem_of_getElem? (i := 571) (by decide +kernel), rfl⟩
theorem k_324 : Cond.instanceMethod y_M_hull ∈ tb := List.mem_filter.mpr ⟨List.mem_of_getElem? (i := 572) (by decide +kernel), rfl⟩
theorem k_325 : Cond.selects R_M y_M_hull y_M_hull ∈ tb := List.mem_filter.mpr ⟨List.mem_of_getElem? (i := 573) (by decide +kernel), rfl⟩
set_option maxRecDepth 100000 in
theorem k_326 : Cond.code y_M_hull b_M_hull 3 (some .boolean) ∈ tb := List.mem_filter.mpr ⟨List.mem_of_getElem? (i := 574) rfl, rfl⟩
theorem k_327 : Cond.methodLink R_L 110 y_L_slope ∈ tb := List.mem_filter.mpr ⟨List.mem_of_getElem? (i := 350) (by decide +kernel), rfl⟩
theorem k_328 : Cond.static y_L_slope ∈ tb := List.mem_filter.mpr ⟨List.mem_of_getElem? (i := 351) (by decide +kernel), rfl⟩
set_option maxRecDepth 100000 in
theorem k_329 : Cond.codeWith y_L_slope b_L_slope 6 (some .int) [(0, 11, 14, 19)] ∈ tb := List.mem_filter.mpr ⟨List.mem_of_getElem? (i := 352) rfl, rfl⟩
theorem k_330 : Cond.methodLink R_L 113 y_M_slope ∈ tb := List.mem_filter.mpr ⟨List.mem_of_getElem? (i := 579) (by decide +kernel), rfl⟩
theorem k_331 : Cond.instanceMethod y_M_slope ∈ tb := List.mem_filter.mpr ⟨List.mem_of_getElem? (i := 580) (by decide +kernel), rfl⟩
theorem k_332 : Cond.selects R_M y_M_slope y_M_slope ∈ tb := List.mem_filter.mpr ⟨List.mem_of_getElem? (i := 581) (by decide +kernel), rfl⟩
set_option maxRecDepth 100000 in
theorem k_333 : Cond.code y_M_slope b_M_slope 4 (some .long) ∈ tb := List.mem_filter.mpr ⟨List.mem_of_getElem? (i := 582) rfl, rfl⟩
theorem k_334 : Cond.methodLink R_L 114 y_X_row ∈ tb := List.mem_filter.mpr ⟨List.mem_of_getElem? (i := 117) (by decide +kernel), rfl⟩
theorem k_335 : Cond.instanceMethod y_X_row ∈ tb := List.mem_filter.mpr ⟨List.mem_of_getElem? (i := 118) (by decide +kernel), rfl⟩
theorem k_336 : Cond.selects R_X y_X_row y_X_row ∈ tb := List.mem_filter.mpr ⟨List.mem_of_getElem? (i := 119) (by decide +kernel), rfl⟩
set_option maxRecDepth 100000 in
theorem k_337 : Cond.code y_X_row b_X_row 1 (some .int) ∈ tb := List.mem_filter.mpr ⟨List.mem_of_getElem? (i := 120) rfl, rfl⟩
theorem k_338 : Cond.methodLink R_L 117 y_M_row ∈ tb := List.mem_filter.mpr ⟨List.mem_of_getElem? (i := 583) (by decide +kernel), rfl⟩
theorem k_339 : Cond.instanceMethod y_M_row ∈ tb := List.mem_filter.mpr ⟨List.mem_of_getElem? (i := 584) (by decide +kernel), rfl⟩
theorem k_340 : Cond.selects R_M y_M_row y_M_row ∈ tb := List.mem_filter.mpr ⟨List.mem_of_getElem? (i := 585) (by decide +kernel), rfl⟩
set_option maxRecDepth 100000 in
theorem k_341 : Cond.code y_M_row b_M_row 1 (some .int) ∈ tb := List.mem_filter.mpr ⟨List.mem_of_getElem? (i := 586) rfl, rfl⟩
theorem k_342 : Cond.methodLink R_L 118 y_L_at ∈ tb := List.mem_filter.mpr ⟨List.mem_of_getElem? (i := 357) (by decide +kernel), rfl⟩
theorem k_343 : Cond.static y_L_at ∈ tb := List.mem_filter.mpr ⟨List.mem_of_getElem? (i := 358) (by decide +kernel), rfl⟩
set_option maxRecDepth 100000 in
theorem k_344 : Cond.codeWith y_L_at b_L_at 5 (some .int) [(0, 10, 13, 19), (0, 10, 17, 21), (0, 10, 21, 47)] ∈ tb := List.mem_filter.mpr ⟨List.mem_of_getElem? (i := 359) rfl, rfl⟩
theorem k_345 : Cond.methodLink R_L 120 y_M_at ∈ tb := List.mem_filter.mpr ⟨List.mem_of_getElem? (i := 587) (by decide +kernel), rfl⟩
theorem k_346 : Cond.instanceMethod y_M_at ∈ tb := List.mem_filter.mpr ⟨List.mem_of_getElem? (i := 588) (by decide +kernel), rfl⟩
theorem k_347 : Cond.selects R_M y_M_at y_M_at ∈ tb := List.mem_filter.mpr ⟨List.mem_of_getElem? (i := 589) (by decide +kernel), rfl⟩
set_option maxRecDepth 100000 in
theorem k_348 : Cond.code y_M_at b_M_at 4 (some .int) ∈ tb := List.mem_filter.mpr ⟨List.mem_of_getElem? (i := 590) rfl, rfl⟩
theorem k_349 : Cond.methodLink R_L 121 y_L_passes ∈ tb := List.mem_filter.mpr ⟨List.mem_of_getElem? (i := 398) (by decide +kernel), rfl⟩
theorem k_350 : Cond.static y_L_passes ∈ tb := List.mem_filter.mpr ⟨List.mem_of_getElem? (i := 399) (by decide +kernel), rfl⟩
set_option maxRecDepth 100000 in
theorem k_351 : Cond.codeWith y_L_passes b_L_passes 5 (some .int) [(0, 10, 13, 47), (0, 10, 17, 19)] ∈ tb := List.mem_filter.mpr ⟨List.mem_of_getElem? (i := 400) rfl, rfl⟩
theorem k_352 : Cond.methodLink R_L 123 y_M_passes ∈ tb := List.mem_filter.mpr ⟨List.mem_of_getElem? (i := 599) (by decide +kernel), rfl⟩
theorem k_353 : Cond.instanceMethod y_M_passes ∈ tb := List.mem_filter.mpr ⟨List.mem_of_getElem? (i := 600) (by decide +kernel), rfl⟩
theorem k_354 : Cond.selects R_M y_M_passes y_M_passes ∈ tb := List.mem_filter.mpr ⟨List.mem_of_getElem? (i := 601) (by decide +kernel), rfl⟩
set_option maxRecDepth 100000 in
theorem k_355 : Cond.code y_M_passes b_M_passes 3 (some .int) ∈ tb := List.mem_filter.mpr ⟨List.mem_of_getElem? (i := 602) rfl, rfl⟩
theorem k_356 : Cond.methodLink R_L 124 y_L_bytes ∈ tb := List.mem_filter.mpr ⟨List.mem_of_getElem? (i := 405) (by decide +kernel), rfl⟩
theorem k_357 : Cond.static y_L_bytes ∈ tb := List.mem_filter.mpr ⟨List.mem_of_getElem? (i := 406) (by decide +kernel), rfl⟩
set_option maxRecDepth 100000 in
theorem k_358 : Cond.codeWith y_L_bytes b_L_bytes 4 (some .int) [(0, 9, 12, 47), (0, 9, 15, 19)] ∈ tb := List.mem_filter.mpr ⟨List.mem_of_getElem? (i := 407) rfl, rfl⟩
theorem k_359 : Cond.methodLink R_L 127 y_M_bytes ∈ tb := List.mem_filter.mpr ⟨List.mem_of_getElem? (i := 607) (by decide +kernel), rfl⟩
theorem k_360 : Cond.instanceMethod y_M_bytes ∈ tb := List.mem_filter.mpr ⟨List.mem_of_getElem? (i := 608) (by decide +kernel), rfl⟩
theorem k_361 : Cond.selects R_M y_M_bytes y_M_bytes ∈ tb := List.mem_filter.mpr ⟨List.mem_of_getElem? (i := 609) (by decide +kernel), rfl⟩
set_option maxRecDepth 100000 in
theorem k_362 : Cond.code y_M_bytes b_M_bytes 4 (some .int) ∈ tb := List.mem_filter.mpr ⟨List.mem_of_getElem? (i := 610) rfl, rfl⟩
theorem k_363 : Cond.methodLink R_L 128 y_L_gained ∈ tb := List.mem_filter.mpr ⟨List.mem_of_getElem? (i := 412) (by decide +kernel), rfl⟩
theorem k_364 : Cond.static y_L_gained ∈ tb := List.mem_filter.mpr ⟨List.mem_of_getElem? (i := 413) (by decide +kernel), rfl⟩
set_option maxRecDepth 100000 in
theorem k_365 : Cond.codeWith y_L_gained b_L_gained 4 (some .int) [(0, 8, 11, 47), (0, 8, 14, 19)] ∈ tb := List.mem_filter.mpr ⟨List.mem_of_getElem? (i := 414) rfl, rfl⟩
theorem k_366 : Cond.methodLink R_L 130 y_M_gained ∈ tb := List.mem_filter.mpr ⟨List.mem_of_getElem? (i := 611) (by decide +kernel), rfl⟩
theorem k_367 : Cond.instanceMethod y_M_gained ∈ tb := List.mem_filter.mpr ⟨List.mem_of_getElem? (i := 612) (by decide +kernel), rfl⟩
theorem k_368 : Cond.selects R_M y_M_gained y_M_gained ∈ tb := List.mem_filter.mpr ⟨List.mem_of_getElem? (i := 613) (by decide +kernel), rfl⟩
set_option maxRecDepth 100000 in
theorem k_369 : Cond.code y_M_gained b_M_gained 5 (some .long) ∈ tb := List.mem_filter.mpr ⟨List.mem_of_getElem? (i := 614) rfl, rfl⟩
theorem k_370 : Cond.methodLink R_L 131 y_L_least ∈ tb := List.mem_filter.mpr ⟨List.mem_of_getElem? (i := 419) (by decide +kernel), rfl⟩
theorem k_371 : Cond.static y_L_least ∈ tb := List.mem_filter.mpr ⟨List.mem_of_getElem? (i := 420) (by decide +kernel), rfl⟩
set_option maxRecDepth 100000 in
theorem k_372 : Cond.codeWith y_L_least b_L_least 4 (some .int) [(0, 9, 12, 21)] ∈ tb := List.mem_filter.mpr ⟨List.mem_of_getElem? (i := 421) rfl, rfl⟩
theorem k_373 : Cond.methodLink R_L 133 y_M_least ∈ tb := List.mem_filter.mpr ⟨List.mem_of_getElem? (i := 615) (by decide +kernel), rfl⟩
theorem k_374 : Cond.instanceMethod y_M_least ∈ tb := List.mem_filter.mpr ⟨List.mem_of_getElem? (i := 616) (by decide +kernel), rfl⟩
theorem k_375 : Cond.selects R_M y_M_least y_M_least ∈ tb := List.mem_filter.mpr ⟨List.mem_of_getElem? (i := 617) (by decide +kernel), rfl⟩
set_option maxRecDepth 100000 in
theorem k_376 : Cond.code y_M_least b_M_least 4 (some .int) ∈ tb := List.mem_filter.mpr ⟨List.mem_of_getElem? (i := 618) rfl, rfl⟩
theorem k_377 : Cond.constantLong R_L 134 4294967295 ∈ tb := List.mem_filter.mpr ⟨List.mem_of_getElem? (i := 633) (by decide +kernel), rfl⟩
theorem k_378 : Cond.methodLink R_L 136 y_L_above ∈ tb := List.mem_filter.mpr ⟨List.mem_of_getElem? (i := 426) (by decide +kernel), rfl⟩
theorem k_379 : Cond.static y_L_above ∈ tb := List.mem_filter.mpr ⟨List.mem_of_getElem? (i := 427) (by decide +kernel), rfl⟩
set_option maxRecDepth 100000 in
theorem k_380 : Cond.codeWith y_L_above b_L_above 6 (some .int) [(0, 11, 14, 21)] ∈ tb := List.mem_filter.mpr ⟨List.mem_of_getElem? (i := 428) rfl, rfl⟩
theorem k_381 : Cond.methodLink R_L 139 y_M_above ∈ tb := List.mem_filter.mpr ⟨List.mem_of_getElem? (i := 619) (by decide +kernel), rfl⟩
theorem k_382 : Cond.instanceMethod y_M_above ∈ tb := List.mem_filter.mpr ⟨List.mem_of_getElem? (i := 620) (by decide +kernel), rfl⟩
theorem k_383 : Cond.selects R_M y_M_above y_M_above ∈ tb := List.mem_filter.mpr ⟨List.mem_of_getElem? (i := 621) (by decide +kernel), rfl⟩
set_option maxRecDepth 100000 in
theorem k_384 : Cond.code y_M_above b_M_above 5 (some .int) ∈ tb := List.mem_filter.mpr ⟨List.mem_of_getElem? (i := 622) rfl, rfl⟩
theorem k_385 : Cond.methodLink R_L 140 y_X_told ∈ tb := List.mem_filter.mpr ⟨List.mem_of_getElem? (i := 121) (by decide +kernel), rfl⟩
theorem k_386 : Cond.instanceMethod y_X_told ∈ tb := List.mem_filter.mpr ⟨List.mem_of_getElem? (i := 122) (by decide +kernel), rfl⟩
theorem k_387 : Cond.selects R_X y_X_told y_X_told ∈ tb := List.mem_filter.mpr ⟨List.mem_of_getElem? (i := 123) (by decide +kernel), rfl⟩
set_option maxRecDepth 100000 in
theorem k_388 : Cond.code y_X_told b_X_told 2 (some .int) ∈ tb := List.mem_filter.mpr ⟨List.mem_of_getElem? (i := 124) rfl, rfl⟩
theorem k_389 : Cond.methodLink R_L 143 y_M_told ∈ tb := List.mem_filter.mpr ⟨List.mem_of_getElem? (i := 625) (by decide +kernel), rfl⟩
theorem k_390 : Cond.instanceMethod y_M_told ∈ tb := List.mem_filter.mpr ⟨List.mem_of_getElem? (i := 626) (by decide +kernel), rfl⟩
theorem k_391 : Cond.selects R_M y_M_told y_M_told ∈ tb := List.mem_filter.mpr ⟨List.mem_of_getElem? (i := 627) (by decide +kernel), rfl⟩
set_option maxRecDepth 100000 in
theorem k_392 : Cond.code y_M_told b_M_told 4 (some .int) ∈ tb := List.mem_filter.mpr ⟨List.mem_of_getElem? (i := 628) rfl, rfl⟩
theorem k_393 : Cond.methodLink R_L 144 y_X_clear ∈ tb := List.mem_filter.mpr ⟨List.mem_of_getElem? (i := 125) (by decide +kernel), rfl⟩
theorem k_394 : Cond.instanceMethod y_X_clear ∈ tb := List.mem_filter.mpr ⟨List.mem_of_getElem? (i := 126) (by decide +kernel), rfl⟩
theorem k_395 : Cond.selects R_X y_X_clear y_X_clear ∈ tb := List.mem_filter.mpr ⟨List.mem_of_getElem? (i := 127) (by decide +kernel), rfl⟩
set_option maxRecDepth 100000 in
theorem k_396 : Cond.code y_X_clear b_X_clear 2 none ∈ tb := List.mem_filter.mpr ⟨List.mem_of_getElem? (i := 128) rfl, rfl⟩
theorem k_397 : Cond.methodLink R_L 147 y_M_clear ∈ tb := List.mem_filter.mpr ⟨List.mem_of_getElem? (i := 629) (by decide +kernel), rfl⟩
theorem k_398 : Cond.instanceMethod y_M_clear ∈ tb := List.mem_filter.mpr ⟨List.mem_of_getElem? (i := 630) (by decide +kernel), rfl⟩
theorem k_399 : Cond.selects R_M y_M_clear y_M_clear ∈ tb := List.mem_filter.mpr ⟨List.mem_of_getElem? (i := 631) (by decide +kernel), rfl⟩
set_option maxRecDepth 100000 in
theorem k_400 : Cond.code y_M_clear b_M_clear 2 none ∈ tb := List.mem_filter.mpr ⟨List.mem_of_getElem? (i := 632) rfl, rfl⟩
theorem k_401 : Cond.methodLink R_L 67 y_L_cell ∈ tb := List.mem_filter.mpr ⟨List.mem_of_getElem? (i := 129) (by decide +kernel), rfl⟩
theorem k_402 : Cond.static y_L_cell ∈ tb := List.mem_filter.mpr ⟨List.mem_of_getElem? (i := 130) (by decide +kernel), rfl⟩
set_option maxRecDepth 100000 in
theorem k_403 : Cond.code y_L_cell b_L_cell 2 (some .int) ∈ tb := List.mem_filter.mpr ⟨List.mem_of_getElem? (i := 131) rfl, rfl⟩
theorem k_404 : Cond.classLink R_L 8 R_X ∈ tb := List.mem_filter.mpr ⟨List.mem_of_getElem? (i := 41) (by decide +kernel), rfl⟩
theorem k_405 : Cond.instantiable R_X 17 ∈ tb := List.mem_filter.mpr ⟨List.mem_of_getElem? (i := 42) (by decide +kernel), rfl⟩
theorem k_406 : Cond.classLink R_L 76 R_M ∈ tb := List.mem_filter.mpr ⟨List.mem_of_getElem? (i := 435) (by decide +kernel), rfl⟩
theorem k_407 : Cond.instantiable R_M 17 ∈ tb := List.mem_filter.mpr ⟨List.mem_of_getElem? (i := 436) (by decide +kernel), rfl⟩
set_option maxRecDepth 100000 in
theorem k_408 : Cond.code y_X_init b_X_init 2 none ∈ tb := List.mem_filter.mpr ⟨List.mem_of_getElem? (i := 45) rfl, rfl⟩
theorem k_409 : Cond.methodLink R_L 73 y_X_init ∈ tb := List.mem_filter.mpr ⟨List.mem_of_getElem? (i := 43) (by decide +kernel), rfl⟩
theorem k_410 : Cond.instanceMethod y_X_init ∈ tb := List.mem_filter.mpr ⟨List.mem_of_getElem? (i := 44) (by decide +kernel), rfl⟩
set_option maxRecDepth 100000 in
theorem k_411 : Cond.code y_M_init b_M_init 2 none ∈ tb := List.mem_filter.mpr ⟨List.mem_of_getElem? (i := 439) rfl, rfl⟩
theorem k_412 : Cond.methodLink R_L 78 y_M_init ∈ tb := List.mem_filter.mpr ⟨List.mem_of_getElem? (i := 437) (by decide +kernel), rfl⟩
theorem k_413 : Cond.instanceMethod y_M_init ∈ tb := List.mem_filter.mpr ⟨List.mem_of_getElem? (i := 438) (by decide +kernel), rfl⟩
def jk_lits : List (String × Nat × String) := [(R_X, 65, "no more blocks"), (R_X, 149, "no such block"), (R_X, 158, "a number outside its bounds"), (R_X, 88, "no more passes of this block"), (R_X, 151, "no such layer"), (R_X, 162, "no such pass"), (R_X, 119, "no such place of the row"), (R_X, 155, "not shared since something was told or taken away"), (R_X, 139, "no such question about a place")]
def jk_ncs : List (String × String) := [("java/lang/IllegalArgumentException", "java/lang/IndexOutOfBoundsException"), ("java/lang/UnsupportedOperationException", "java/lang/IndexOutOfBoundsException"), ("java/lang/UnsupportedOperationException", "java/lang/IllegalArgumentException"), ("java/lang/IllegalStateException", "java/lang/IndexOutOfBoundsException"), ("java/lang/IllegalStateException", "java/lang/IllegalArgumentException"), ("java/lang/IndexOutOfBoundsException", "java/lang/IllegalStateException")]
def jk_oth : List Cond := [Cond.castable "java/lang/IllegalArgumentException" "java/lang/IllegalArgumentException", Cond.castable "java/lang/IllegalStateException" "java/lang/IllegalStateException", Cond.castable "java/lang/IndexOutOfBoundsException" "java/lang/IndexOutOfBoundsException", Cond.castable "java/lang/UnsupportedOperationException" "java/lang/UnsupportedOperationException", Cond.declares (Bundle.initS "java/lang/RuntimeException"), Cond.declares (Bundle.initS "java/lang/Exception"), Cond.declares (Bundle.initS "java/lang/Throwable")]
theorem jk_oth_in : ∀ w ∈ jk_oth, w ∈ lw_tbl := by decide +kernel
theorem ka_X_67_a : ∀ w ∈ (vx_atS R_X 67 "java/lang/UnsupportedOperationException" ["java/lang/RuntimeException", "java/lang/Exception"]).filter goodWord, w ∈ lw_tbl := by decide +kernel
theorem ka_X_67_b : ∀ w ∈ (vx_atS R_X 67 "java/lang/UnsupportedOperationException" ["java/lang/RuntimeException", "java/lang/Exception"]).filter (fun w => !goodWord w), w ∈ jk_oth := by decide +kernel
theorem ka_X_67_c : ∀ w ∈ vx_atS R_X 67 "java/lang/UnsupportedOperationException" ["java/lang/RuntimeException", "java/lang/Exception"], vx_ot w = true := by decide +kernel
theorem ka_X_67 : ∀ w ∈ vx_atS R_X 67 "java/lang/UnsupportedOperationException" ["java/lang/RuntimeException", "java/lang/Exception"], (w ∈ tb ∨ w ∈ jk_oth) ∧ vx_ot w = true := fun w h => ⟨(Bool.eq_false_or_eq_true (goodWord w)).elim (fun g => Or.inl (List.mem_filter.mpr ⟨ka_X_67_a w (List.mem_filter.mpr ⟨h, g⟩), g⟩)) (fun g => Or.inr (ka_X_67_b w (List.mem_filter.mpr ⟨h, by rw [g]; rfl⟩))), ka_X_67_c w h⟩
theorem ka_X_121_a : ∀ w ∈ (vx_atS R_X 121 "java/lang/IndexOutOfBoundsException" ["java/lang/RuntimeException", "java/lang/Exception"]).filter goodWord, w ∈ lw_tbl := by decide +kernel
theorem ka_X_121_b : ∀ w ∈ (vx_atS R_X 121 "java/lang/IndexOutOfBoundsException" ["java/lang/RuntimeException", "java/lang/Exception"]).filter (fun w => !goodWord w), w ∈ jk_oth := by decide +kernel
theorem ka_X_121_c : ∀ w ∈ vx_atS R_X 121 "java/lang/IndexOutOfBoundsException" ["java/lang/RuntimeException", "java/lang/Exception"], vx_ot w = true := by decide +kernel
theorem ka_X_121 : ∀ w ∈ vx_atS R_X 121 "java/lang/IndexOutOfBoundsException" ["java/lang/RuntimeException", "java/lang/Exception"], (w ∈ tb ∨ w ∈ jk_oth) ∧ vx_ot w = true := fun w h => ⟨(Bool.eq_false_or_eq_true (goodWord w)).elim (fun g => Or.inl (List.mem_filter.mpr ⟨ka_X_121_a w (List.mem_filter.mpr ⟨h, g⟩), g⟩)) (fun g => Or.inr (ka_X_121_b w (List.mem_filter.mpr ⟨h, by rw [g]; rfl⟩))), ka_X_121_c w h⟩
theorem ka_X_141_a : ∀ w ∈ (vx_atS R_X 141 "java/lang/IllegalArgumentException" ["java/lang/RuntimeException", "java/lang/Exception"]).filter goodWord, w ∈ lw_tbl := by decide +kernel
theorem ka_X_141_b : ∀ w ∈ (vx_atS R_X 141 "java/lang/IllegalArgumentException" ["java/lang/RuntimeException", "java/lang/Exception"]).filter (fun w => !goodWord w), w ∈ jk_oth := by decide +kernel
theorem ka_X_141_c : ∀ w ∈ vx_atS R_X 141 "java/lang/IllegalArgumentException" ["java/lang/RuntimeException", "java/lang/Exception"], vx_ot w = true := by decide +kernel
theorem ka_X_141 : ∀ w ∈ vx_atS R_X 141 "java/lang/IllegalArgumentException" ["java/lang/RuntimeException", "java/lang/Exception"], (w ∈ tb ∨ w ∈ jk_oth) ∧ vx_ot w = true := fun w h => ⟨(Bool.eq_false_or_eq_true (goodWord w)).elim (fun g => Or.inl (List.mem_filter.mpr ⟨ka_X_141_a w (List.mem_filter.mpr ⟨h, g⟩), g⟩)) (fun g => Or.inr (ka_X_141_b w (List.mem_filter.mpr ⟨h, by rw [g]; rfl⟩))), ka_X_141_c w h⟩
theorem ka_X_157_a : ∀ w ∈ (vx_atS R_X 157 "java/lang/IllegalStateException" ["java/lang/RuntimeException", "java/lang/Exception"]).filter goodWord, w ∈ lw_tbl := by decide +kernel
theorem ka_X_157_b : ∀ w ∈ (vx_atS R_X 157 "java/lang/IllegalStateException" ["java/lang/RuntimeException", "java/lang/Exception"]).filter (fun w => !goodWord w), w ∈ jk_oth := by decide +kernel
theorem ka_X_157_c : ∀ w ∈ vx_atS R_X 157 "java/lang/IllegalStateException" ["java/lang/RuntimeException", "java/lang/Exception"], vx_ot w = true := by decide +kernel
theorem ka_X_157 : ∀ w ∈ vx_atS R_X 157 "java/lang/IllegalStateException" ["java/lang/RuntimeException", "java/lang/Exception"], (w ∈ tb ∨ w ∈ jk_oth) ∧ vx_ot w = true := fun w h => ⟨(Bool.eq_false_or_eq_true (goodWord w)).elim (fun g => Or.inl (List.mem_filter.mpr ⟨ka_X_157_a w (List.mem_filter.mpr ⟨h, g⟩), g⟩)) (fun g => Or.inr (ka_X_157_b w (List.mem_filter.mpr ⟨h, by rw [g]; rfl⟩))), ka_X_157_c w h⟩
