def R_SG : String := "SawGrids"
def T_SG : u_T := fun k => match k with
  | 0 => ("SawGrids", "kerf", "I", true)
  | 1 => ("SawGrids", "log", "LSawGrids$Log;", true)
  | 2 => ("SawGrids", "sizes", "LSawGrids$Sizes;", true)
  | 3 => ("SawGrids", "boards", "LSawGrids$Boards;", true)
  | 4 => ("SawGrids", "bench", "LSawGrids$Bench;", true)
  | 5 => ("SawGrids", "pattern", "LSawGrids$Pattern;", true)
  | _ => ("SawGrids", "sawn", "Z", false)
def ty_SG : Nat → FieldType := fun k => match k with
  | 0 => .int
  | 1 => .object "SawGrids$Log"
  | 2 => .object "SawGrids$Sizes"
  | 3 => .object "SawGrids$Boards"
  | 4 => .object "SawGrids$Bench"
  | 5 => .object "SawGrids$Pattern"
  | _ => .boolean
theorem nm_SG : ∀ a, a < 7 → ∀ b, b < 7 → a ≠ b → (T_SG a).2.1 ≠ (T_SG b).2.1 := by decide +kernel
theorem tyok_SG : ∀ k, k < 7 → parseFieldDescriptor (T_SG k).2.2.1 = some (ty_SG k) := by decide +kernel
theorem iw_SG : ∀ w ∈ u_ws R_SG T_SG 7, w ∈ okTbl := by decide +kernel
def R_Be : String := "SawGrids$Bench"
def T_Be : u_T := fun k => match k with
  | 0 => ("SawGrids$Bench", "boards", "LSawGrids$Boards;", true)
  | 1 => ("SawGrids$Bench", "sizes", "LSawGrids$Sizes;", true)
  | 2 => ("SawGrids$Bench", "side", "I", true)
  | 3 => ("SawGrids$Bench", "kerf", "I", true)
  | 4 => ("SawGrids$Bench", "turn", "I", false)
  | 5 => ("SawGrids$Bench", "rankFromRow", "[J", true)
  | 6 => ("SawGrids$Bench", "thickAtRow", "[I", true)
  | 7 => ("SawGrids$Bench", "rankFromColumn", "[J", true)
  | _ => ("SawGrids$Bench", "sizeAtColumn", "[I", true)
def ty_Be : Nat → FieldType := fun k => match k with
  | 0 => .object "SawGrids$Boards"
  | 1 => .object "SawGrids$Sizes"
  | 2 => .int
  | 3 => .int
  | 4 => .int
  | 5 => .array .long
  | 6 => .array .int
  | 7 => .array .long
  | _ => .array .int
theorem nm_Be : ∀ a, a < 9 → ∀ b, b < 9 → a ≠ b → (T_Be a).2.1 ≠ (T_Be b).2.1 := by decide +kernel
theorem tyok_Be : ∀ k, k < 9 → parseFieldDescriptor (T_Be k).2.2.1 = some (ty_Be k) := by decide +kernel
theorem iw_Be : ∀ w ∈ u_ws R_Be T_Be 9, w ∈ okTbl := by decide +kernel
def R_Bo : String := "SawGrids$Boards"
def T_Bo : u_T := fun k => match k with
  | 0 => ("SawGrids$Boards", "sizes", "LSawGrids$Sizes;", true)
  | _ => ("SawGrids$Boards", "log", "LSawGrids$Log;", true)
def ty_Bo : Nat → FieldType := fun k => match k with
  | 0 => .object "SawGrids$Sizes"
  | _ => .object "SawGrids$Log"
theorem nm_Bo : ∀ a, a < 2 → ∀ b, b < 2 → a ≠ b → (T_Bo a).2.1 ≠ (T_Bo b).2.1 := by decide +kernel
theorem tyok_Bo : ∀ k, k < 2 → parseFieldDescriptor (T_Bo k).2.2.1 = some (ty_Bo k) := by decide +kernel
theorem iw_Bo : ∀ w ∈ u_ws R_Bo T_Bo 2, w ∈ okTbl := by decide +kernel
def R_Lo : String := "SawGrids$Log"
def T_Lo : u_T := fun k => match k with
  | 0 => ("SawGrids$Log", "side", "I", true)
  | 1 => ("SawGrids$Log", "inAtEnd", "[Z", true)
  | 2 => ("SawGrids$Log", "lossOf", "[I", true)
  | 3 => ("SawGrids$Log", "bareBefore", "[I", true)
  | 4 => ("SawGrids$Log", "lossBefore", "[I", true)
  | _ => ("SawGrids$Log", "summed", "Z", false)
def ty_Lo : Nat → FieldType := fun k => match k with
  | 0 => .int
  | 1 => .array .boolean
  | 2 => .array .int
  | 3 => .array .int
  | 4 => .array .int
  | _ => .boolean
theorem nm_Lo : ∀ a, a < 6 → ∀ b, b < 6 → a ≠ b → (T_Lo a).2.1 ≠ (T_Lo b).2.1 := by decide +kernel
theorem tyok_Lo : ∀ k, k < 6 → parseFieldDescriptor (T_Lo k).2.2.1 = some (ty_Lo k) := by decide +kernel
theorem iw_Lo : ∀ w ∈ u_ws R_Lo T_Lo 6, w ∈ okTbl := by decide +kernel
def R_Pa : String := "SawGrids$Pattern"
def T_Pa : u_T := fun k => match k with
  | 0 => ("SawGrids$Pattern", "sizeOf", "[I", true)
  | 1 => ("SawGrids$Pattern", "xOf", "[I", true)
  | 2 => ("SawGrids$Pattern", "yOf", "[I", true)
  | 3 => ("SawGrids$Pattern", "turn", "I", false)
  | 4 => ("SawGrids$Pattern", "slabs", "I", false)
  | 5 => ("SawGrids$Pattern", "count", "I", false)
  | 6 => ("SawGrids$Pattern", "value", "I", false)
  | _ => ("SawGrids$Pattern", "cells", "I", false)
def ty_Pa : Nat → FieldType := fun k => match k with
  | 0 => .array .int
  | 1 => .array .int
  | 2 => .array .int
  | 3 => .int
  | 4 => .int
  | 5 => .int
  | 6 => .int
  | _ => .int
theorem nm_Pa : ∀ a, a < 8 → ∀ b, b < 8 → a ≠ b → (T_Pa a).2.1 ≠ (T_Pa b).2.1 := by decide +kernel
theorem tyok_Pa : ∀ k, k < 8 → parseFieldDescriptor (T_Pa k).2.2.1 = some (ty_Pa k) := by decide +kernel
theorem iw_Pa : ∀ w ∈ u_ws R_Pa T_Pa 8, w ∈ okTbl := by decide +kernel
def R_Si : String := "SawGrids$Sizes"
def T_Si : u_T := fun k => match k with
  | 0 => ("SawGrids$Sizes", "thickOf", "[I", true)
  | 1 => ("SawGrids$Sizes", "wideOf", "[I", true)
  | 2 => ("SawGrids$Sizes", "worthOf", "[I", true)
  | 3 => ("SawGrids$Sizes", "waneOf", "[I", true)
  | _ => ("SawGrids$Sizes", "count", "I", false)
def ty_Si : Nat → FieldType := fun k => match k with
  | 0 => .array .int
  | 1 => .array .int
  | 2 => .array .int
  | 3 => .array .int
  | _ => .int
theorem nm_Si : ∀ a, a < 5 → ∀ b, b < 5 → a ≠ b → (T_Si a).2.1 ≠ (T_Si b).2.1 := by decide +kernel
theorem tyok_Si : ∀ k, k < 5 → parseFieldDescriptor (T_Si k).2.2.1 = some (ty_Si k) := by decide +kernel
theorem iw_Si : ∀ w ∈ u_ws R_Si T_Si 5, w ∈ okTbl := by decide +kernel
def R_Mo : String := "SawGridsModel"
def T_Mo : u_T := fun k => match k with
  | 0 => ("SawGridsModel", "thrown", "I", false)
  | 1 => ("SawGridsModel", "side", "I", false)
  | 2 => ("SawGridsModel", "kerf", "I", false)
  | 3 => ("SawGridsModel", "ins", "[Z", true)
  | 4 => ("SawGridsModel", "knots", "[I", true)
  | 5 => ("SawGridsModel", "sizes", "I", false)
  | 6 => ("SawGridsModel", "thicks", "[I", true)
  | 7 => ("SawGridsModel", "wides", "[I", true)
  | 8 => ("SawGridsModel", "worths", "[I", true)
  | 9 => ("SawGridsModel", "wanes", "[I", true)
  | 10 => ("SawGridsModel", "bare", "[I", true)
  | 11 => ("SawGridsModel", "losses", "[I", true)
  | 12 => ("SawGridsModel", "slabWorth", "[I", true)
  | 13 => ("SawGridsModel", "slabCount", "[I", true)
  | 14 => ("SawGridsModel", "rowWorth", "[I", true)
  | 15 => ("SawGridsModel", "rowCount", "[I", true)
  | 16 => ("SawGridsModel", "sawn", "Z", false)
  | 17 => ("SawGridsModel", "turn", "I", false)
  | 18 => ("SawGridsModel", "total", "I", false)
  | 19 => ("SawGridsModel", "slabs", "I", false)
  | 20 => ("SawGridsModel", "boards", "I", false)
  | _ => ("SawGridsModel", "at", "[I", true)
def ty_Mo : Nat → FieldType := fun k => match k with
  | 0 => .int
  | 1 => .int
  | 2 => .int
  | 3 => .array .boolean
  | 4 => .array .int
  | 5 => .int
  | 6 => .array .int
  | 7 => .array .int
  | 8 => .array .int
  | 9 => .array .int
  | 10 => .array .int
  | 11 => .array .int
  | 12 => .array .int
  | 13 => .array .int
  | 14 => .array .int
  | 15 => .array .int
  | 16 => .boolean
  | 17 => .int
  | 18 => .int
  | 19 => .int
  | 20 => .int
  | _ => .array .int
theorem nm_Mo : ∀ a, a < 22 → ∀ b, b < 22 → a ≠ b → (T_Mo a).2.1 ≠ (T_Mo b).2.1 := by decide +kernel
theorem tyok_Mo : ∀ k, k < 22 → parseFieldDescriptor (T_Mo k).2.2.1 = some (ty_Mo k) := by decide +kernel
theorem iw_Mo : ∀ w ∈ u_ws R_Mo T_Mo 22, w ∈ okTbl := by decide +kernel
def R_La : String := "SawGridsLaw"
abbrev vwCl : List vw_C := [(R_SG, T_SG, 7), (R_Be, T_Be, 9), (R_Bo, T_Bo, 2), (R_Lo, T_Lo, 6), (R_Pa, T_Pa, 8), (R_Si, T_Si, 5), (R_Mo, T_Mo, 22)]
abbrev b_SG_init : ByteArray := prog_1_method_1_code
def y_SG_init : MethodName := ⟨R_SG, "<init>", "(II)V"⟩
def w_SG_init : List Cond := .code y_SG_init b_SG_init 4 none :: okTbl
theorem kc_SG_init : Cond.code y_SG_init b_SG_init 4 none ∈ okTbl := ok_of (List.mem_append_right _ (List.mem_append_left _ (List.mem_of_getElem? (i := 19) (by decide +kernel)))) (by decide +kernel)
abbrev b_SG_cell : ByteArray := prog_1_method_2_code
def y_SG_cell : MethodName := ⟨R_SG, "cell", "(IIIZ)Z"⟩
def w_SG_cell : List Cond := .code y_SG_cell b_SG_cell 5 (some (.boolean)) :: okTbl
theorem kc_SG_cell : Cond.code y_SG_cell b_SG_cell 5 (some (.boolean)) ∈ okTbl := ok_of (List.mem_append_right _ (List.mem_append_right _ (List.mem_append_left _ (List.mem_of_getElem? (i := 69) (by decide +kernel))))) (by decide +kernel)
abbrev b_SG_span : ByteArray := prog_1_method_3_code
def y_SG_span : MethodName := ⟨R_SG, "span", "(IIII)V"⟩
def w_SG_span : List Cond := .code y_SG_span b_SG_span 6 none :: okTbl
theorem kc_SG_span : Cond.code y_SG_span b_SG_span 6 none ∈ okTbl := ok_of (List.mem_append_right _ (List.mem_append_right _ (List.mem_append_left _ (List.mem_of_getElem? (i := 158) (by decide +kernel))))) (by decide +kernel)
abbrev b_SG_knot : ByteArray := prog_1_method_4_code
def y_SG_knot : MethodName := ⟨R_SG, "knot", "(III)Z"⟩
def w_SG_knot : List Cond := .code y_SG_knot b_SG_knot 4 (some (.boolean)) :: okTbl
theorem kc_SG_knot : Cond.code y_SG_knot b_SG_knot 4 (some (.boolean)) ∈ okTbl := ok_of (List.mem_append_right _ (List.mem_append_right _ (List.mem_append_left _ (List.mem_of_getElem? (i := 182) (by decide +kernel))))) (by decide +kernel)
abbrev b_SG_size : ByteArray := prog_1_method_5_code
def y_SG_size : MethodName := ⟨R_SG, "size", "(IIII)I"⟩
def w_SG_size : List Cond := .code y_SG_size b_SG_size 5 (some (.int)) :: okTbl
theorem kc_SG_size : Cond.code y_SG_size b_SG_size 5 (some (.int)) ∈ okTbl := ok_of (List.mem_append_right _ (List.mem_append_right _ (List.mem_append_left _ (List.mem_of_getElem? (i := 196) (by decide +kernel))))) (by decide +kernel)
abbrev b_SG_run : ByteArray := prog_1_method_6_code
def y_SG_run : MethodName := ⟨R_SG, "run", "()I"⟩
def w_SG_run : List Cond := .code y_SG_run b_SG_run 5 (some (.int)) :: okTbl
theorem kc_SG_run : Cond.code y_SG_run b_SG_run 5 (some (.int)) ∈ okTbl := ok_of (List.mem_append_right _ (List.mem_append_left _ (List.mem_of_getElem? (i := 203) (by decide +kernel)))) (by decide +kernel)
abbrev b_SG_board : ByteArray := prog_1_method_7_code
def y_SG_board : MethodName := ⟨R_SG, "board", "(II)I"⟩
def w_SG_board : List Cond := .code y_SG_board b_SG_board 6 (some (.int)) :: okTbl
theorem kc_SG_board : Cond.code y_SG_board b_SG_board 6 (some (.int)) ∈ okTbl := ok_of (List.mem_append_right _ (List.mem_append_right _ (List.mem_append_left _ (List.mem_of_getElem? (i := 226) (by decide +kernel))))) (by decide +kernel)
abbrev b_SG_all : ByteArray := prog_1_method_8_code
def y_SG_all : MethodName := ⟨R_SG, "all", "(I)I"⟩
def w_SG_all : List Cond := .code y_SG_all b_SG_all 2 (some (.int)) :: okTbl
theorem kc_SG_all : Cond.code y_SG_all b_SG_all 2 (some (.int)) ∈ okTbl := ok_of (List.mem_append_right _ (List.mem_append_right _ (List.mem_append_right _ (List.mem_append_left _ (List.mem_of_getElem? (i := 11) (by decide +kernel)))))) (by decide +kernel)
abbrev b_SG_worth : ByteArray := prog_1_method_9_code
def y_SG_worth : MethodName := ⟨R_SG, "worth", "(I)I"⟩
def w_SG_worth : List Cond := .code y_SG_worth b_SG_worth 2 (some (.int)) :: okTbl
theorem kc_SG_worth : Cond.code y_SG_worth b_SG_worth 2 (some (.int)) ∈ okTbl := ok_of (List.mem_append_right _ (List.mem_append_right _ (List.mem_append_right _ (List.mem_append_left _ (List.mem_of_getElem? (i := 19) (by decide +kernel)))))) (by decide +kernel)
abbrev b_SG_yields : ByteArray := prog_1_method_10_code
def y_SG_yields : MethodName := ⟨R_SG, "yields", "(I)I"⟩
def w_SG_yields : List Cond := .code y_SG_yields b_SG_yields 4 (some (.int)) :: okTbl
theorem kc_SG_yields : Cond.code y_SG_yields b_SG_yields 4 (some (.int)) ∈ okTbl := ok_of (List.mem_append_right _ (List.mem_append_right _ (List.mem_append_right _ (List.mem_append_left _ (List.mem_of_getElem? (i := 33) (by decide +kernel)))))) (by decide +kernel)
abbrev b_SG_may : ByteArray := prog_1_method_11_code
def y_SG_may : MethodName := ⟨R_SG, "may", "(IIII)Z"⟩
def w_SG_may : List Cond := .code y_SG_may b_SG_may 5 (some (.boolean)) :: okTbl
theorem kc_SG_may : Cond.code y_SG_may b_SG_may 5 (some (.boolean)) ∈ okTbl := ok_of (List.mem_append_right _ (List.mem_append_right _ (List.mem_append_right _ (List.mem_append_left _ (List.mem_of_getElem? (i := 44) (by decide +kernel)))))) (by decide +kernel)
abbrev b_SG_apart : ByteArray := prog_1_method_12_code
def y_SG_apart : MethodName := ⟨R_SG, "apart", "(II)Z"⟩
def w_SG_apart : List Cond := .code y_SG_apart b_SG_apart 5 (some (.boolean)) :: okTbl
theorem kc_SG_apart : Cond.code y_SG_apart b_SG_apart 5 (some (.boolean)) ∈ okTbl := ok_of (List.mem_append_right _ (List.mem_append_right _ (List.mem_append_right _ (List.mem_append_left _ (List.mem_of_getElem? (i := 54) (by decide +kernel)))))) (by decide +kernel)
abbrev b_SG_wood : ByteArray := prog_1_method_13_code
def y_SG_wood : MethodName := ⟨R_SG, "wood", "()I"⟩
def w_SG_wood : List Cond := .code y_SG_wood b_SG_wood 1 (some (.int)) :: okTbl
theorem kc_SG_wood : Cond.code y_SG_wood b_SG_wood 1 (some (.int)) ∈ okTbl := ok_of (List.mem_append_right _ (List.mem_append_right _ (List.mem_append_left _ (List.mem_of_getElem? (i := 53) (by decide +kernel))))) (by decide +kernel)
abbrev b_SG_refuseUnsawn : ByteArray := prog_1_method_14_code
def y_SG_refuseUnsawn : MethodName := ⟨R_SG, "refuseUnsawn", "()V"⟩
def w_SG_refuseUnsawn : List Cond := .code y_SG_refuseUnsawn b_SG_refuseUnsawn 1 none :: okTbl
theorem kc_SG_refuseUnsawn : Cond.code y_SG_refuseUnsawn b_SG_refuseUnsawn 1 none ∈ okTbl := ok_of (List.mem_append_right _ (List.mem_append_right _ (List.mem_append_left _ (List.mem_of_getElem? (i := 230) (by decide +kernel))))) (by decide +kernel)
abbrev b_SG_refuseNoBoard : ByteArray := prog_1_method_15_code
def y_SG_refuseNoBoard : MethodName := ⟨R_SG, "refuseNoBoard", "(I)V"⟩
def w_SG_refuseNoBoard : List Cond := .code y_SG_refuseNoBoard b_SG_refuseNoBoard 2 none :: okTbl
theorem kc_SG_refuseNoBoard : Cond.code y_SG_refuseNoBoard b_SG_refuseNoBoard 2 none ∈ okTbl := ok_of (List.mem_append_right _ (List.mem_append_right _ (List.mem_append_left _ (List.mem_of_getElem? (i := 235) (by decide +kernel))))) (by decide +kernel)
abbrev b_SG_areApart : ByteArray := prog_1_method_16_code
def y_SG_areApart : MethodName := ⟨R_SG, "areApart", "(IIII)Z"⟩
def w_SG_areApart : List Cond := .code y_SG_areApart b_SG_areApart 5 (some (.boolean)) :: okTbl
theorem kc_SG_areApart : Cond.code y_SG_areApart b_SG_areApart 5 (some (.boolean)) ∈ okTbl := ok_of (List.mem_append_right _ (List.mem_append_right _ (List.mem_append_right _ (List.mem_append_left _ (List.mem_of_getElem? (i := 58) (by decide +kernel)))))) (by decide +kernel)
abbrev b_SG_isWithin : ByteArray := prog_1_method_17_code
def y_SG_isWithin : MethodName := ⟨R_SG, "isWithin", "(III)Z"⟩
def w_SG_isWithin : List Cond := .code y_SG_isWithin b_SG_isWithin 3 (some (.boolean)) :: okTbl
theorem kc_SG_isWithin : Cond.code y_SG_isWithin b_SG_isWithin 3 (some (.boolean)) ∈ okTbl := ok_of (List.mem_append_right _ (List.mem_append_right _ (List.mem_append_left _ (List.mem_of_getElem? (i := 41) (by decide +kernel))))) (by decide +kernel)
abbrev b_SG_isEnd : ByteArray := prog_1_method_18_code
def y_SG_isEnd : MethodName := ⟨R_SG, "isEnd", "(I)Z"⟩
def w_SG_isEnd : List Cond := .code y_SG_isEnd b_SG_isEnd 1 (some (.boolean)) :: okTbl
theorem kc_SG_isEnd : Cond.code y_SG_isEnd b_SG_isEnd 1 (some (.boolean)) ∈ okTbl := ok_of (List.mem_append_right _ (List.mem_append_right _ (List.mem_append_left _ (List.mem_of_getElem? (i := 72) (by decide +kernel))))) (by decide +kernel)
abbrev b_SG_isTurn : ByteArray := prog_1_method_19_code
def y_SG_isTurn : MethodName := ⟨R_SG, "isTurn", "(I)Z"⟩
def w_SG_isTurn : List Cond := .code y_SG_isTurn b_SG_isTurn 1 (some (.boolean)) :: okTbl
theorem kc_SG_isTurn : Cond.code y_SG_isTurn b_SG_isTurn 1 (some (.boolean)) ∈ okTbl := ok_of (List.mem_append_right _ (List.mem_append_right _ (List.mem_append_right _ (List.mem_append_left _ (List.mem_of_getElem? (i := 22) (by decide +kernel)))))) (by decide +kernel)
abbrev b_SG_commonDivisor : ByteArray := prog_1_method_20_code
def y_SG_commonDivisor : MethodName := ⟨R_SG, "commonDivisor", "(II)I"⟩
def w_SG_commonDivisor : List Cond := .code y_SG_commonDivisor b_SG_commonDivisor 6 (some (.int)) :: okTbl
theorem kc_SG_commonDivisor : Cond.code y_SG_commonDivisor b_SG_commonDivisor 6 (some (.int)) ∈ okTbl := ok_of (List.mem_append_right _ (List.mem_append_right _ (List.mem_append_right _ (List.mem_append_left _ (List.mem_of_getElem? (i := 37) (by decide +kernel)))))) (by decide +kernel)
abbrev b_Mo_init : ByteArray := prog_8_method_1_code
def y_Mo_init : MethodName := ⟨R_Mo, "<init>", "(II)V"⟩
def w_Mo_init : List Cond := .code y_Mo_init b_Mo_init 3 none :: okTbl
theorem kc_Mo_init : Cond.code y_Mo_init b_Mo_init 3 none ∈ okTbl := ok_of (List.mem_append_right _ (List.mem_append_right _ (List.mem_append_right _ (List.mem_append_left _ (List.mem_of_getElem? (i := 63) (by decide +kernel)))))) (by decide +kernel)
abbrev b_Mo_thrown : ByteArray := prog_8_method_2_code
def y_Mo_thrown : MethodName := ⟨R_Mo, "thrown", "()I"⟩
def w_Mo_thrown : List Cond := .code y_Mo_thrown b_Mo_thrown 1 (some (.int)) :: okTbl
theorem kc_Mo_thrown : Cond.code y_Mo_thrown b_Mo_thrown 1 (some (.int)) ∈ okTbl := ok_of (List.mem_append_right _ (List.mem_append_right _ (List.mem_append_right _ (List.mem_append_left _ (List.mem_of_getElem? (i := 135) (by decide +kernel)))))) (by decide +kernel)
abbrev b_Mo_isIn : ByteArray := prog_8_method_3_code
def y_Mo_isIn : MethodName := ⟨R_Mo, "isIn", "(III)Z"⟩
def w_Mo_isIn : List Cond := .code y_Mo_isIn b_Mo_isIn 3 (some (.boolean)) :: okTbl
theorem kc_Mo_isIn : Cond.code y_Mo_isIn b_Mo_isIn 3 (some (.boolean)) ∈ okTbl := ok_of (List.mem_append_right _ (List.mem_append_right _ (List.mem_append_right _ (List.mem_append_left _ (List.mem_of_getElem? (i := 142) (by decide +kernel)))))) (by decide +kernel)
abbrev b_Mo_isCell : ByteArray := prog_8_method_4_code
def y_Mo_isCell : MethodName := ⟨R_Mo, "isCell", "(II)Z"⟩
def w_Mo_isCell : List Cond := .code y_Mo_isCell b_Mo_isCell 3 (some (.boolean)) :: okTbl
theorem kc_Mo_isCell : Cond.code y_Mo_isCell b_Mo_isCell 3 (some (.boolean)) ∈ okTbl := ok_of (List.mem_append_right _ (List.mem_append_right _ (List.mem_append_right _ (List.mem_append_left _ (List.mem_of_getElem? (i := 146) (by decide +kernel)))))) (by decide +kernel)
abbrev b_Mo_cell1 : ByteArray := prog_8_method_5_code
def y_Mo_cell1 : MethodName := ⟨R_Mo, "cell", "(IIIZ)Z"⟩
def w_Mo_cell1 : List Cond := .code y_Mo_cell1 b_Mo_cell1 7 (some (.boolean)) :: okTbl
theorem kc_Mo_cell1 : Cond.code y_Mo_cell1 b_Mo_cell1 7 (some (.boolean)) ∈ okTbl := ok_of (List.mem_append_right _ (List.mem_append_right _ (List.mem_append_right _ (List.mem_append_left _ (List.mem_of_getElem? (i := 139) (by decide +kernel)))))) (by decide +kernel)
abbrev b_Mo_span : ByteArray := prog_8_method_6_code
def y_Mo_span : MethodName := ⟨R_Mo, "span", "(IIII)V"⟩
def w_Mo_span : List Cond := .code y_Mo_span b_Mo_span 6 none :: okTbl
theorem kc_Mo_span : Cond.code y_Mo_span b_Mo_span 6 none ∈ okTbl := ok_of (List.mem_append_right _ (List.mem_append_right _ (List.mem_append_right _ (List.mem_append_left _ (List.mem_of_getElem? (i := 150) (by decide +kernel)))))) (by decide +kernel)
abbrev b_Mo_knot : ByteArray := prog_8_method_7_code
def y_Mo_knot : MethodName := ⟨R_Mo, "knot", "(III)Z"⟩
def w_Mo_knot : List Cond := .code y_Mo_knot b_Mo_knot 5 (some (.boolean)) :: okTbl
theorem kc_Mo_knot : Cond.code y_Mo_knot b_Mo_knot 5 (some (.boolean)) ∈ okTbl := ok_of (List.mem_append_right _ (List.mem_append_right _ (List.mem_append_right _ (List.mem_append_left _ (List.mem_of_getElem? (i := 154) (by decide +kernel)))))) (by decide +kernel)
abbrev b_Mo_size : ByteArray := prog_8_method_8_code
def y_Mo_size : MethodName := ⟨R_Mo, "size", "(IIII)I"⟩
def w_Mo_size : List Cond := .code y_Mo_size b_Mo_size 6 (some (.int)) :: okTbl
theorem kc_Mo_size : Cond.code y_Mo_size b_Mo_size 6 (some (.int)) ∈ okTbl := ok_of (List.mem_append_right _ (List.mem_append_right _ (List.mem_append_right _ (List.mem_append_left _ (List.mem_of_getElem? (i := 158) (by decide +kernel)))))) (by decide +kernel)
abbrev b_Mo_isWood : ByteArray := prog_8_method_9_code
def y_Mo_isWood : MethodName := ⟨R_Mo, "isWood", "(II)Z"⟩
def w_Mo_isWood : List Cond := .code y_Mo_isWood b_Mo_isWood 3 (some (.boolean)) :: okTbl
theorem kc_Mo_isWood : Cond.code y_Mo_isWood b_Mo_isWood 3 (some (.boolean)) ∈ okTbl := ok_of (List.mem_append_right _ (List.mem_append_right _ (List.mem_append_right _ (List.mem_append_left _ (List.mem_of_getElem? (i := 175) (by decide +kernel)))))) (by decide +kernel)
abbrev b_Mo_sums : ByteArray := prog_8_method_10_code
def y_Mo_sums : MethodName := ⟨R_Mo, "sums", "()V"⟩
def w_Mo_sums : List Cond := .code y_Mo_sums b_Mo_sums 4 none :: okTbl
theorem kc_Mo_sums : Cond.code y_Mo_sums b_Mo_sums 4 none ∈ okTbl := ok_of (List.mem_append_right _ (List.mem_append_right _ (List.mem_append_right _ (List.mem_append_left _ (List.mem_of_getElem? (i := 171) (by decide +kernel)))))) (by decide +kernel)
abbrev b_Mo_over : ByteArray := prog_8_method_11_code
def y_Mo_over : MethodName := ⟨R_Mo, "over", "(ZIIII)I"⟩
def w_Mo_over : List Cond := .code y_Mo_over b_Mo_over 8 (some (.int)) :: okTbl
theorem kc_Mo_over : Cond.code y_Mo_over b_Mo_over 8 (some (.int)) ∈ okTbl := ok_of (List.mem_append_right _ (List.mem_append_right _ (List.mem_append_right _ (List.mem_append_left _ (List.mem_of_getElem? (i := 206) (by decide +kernel)))))) (by decide +kernel)
abbrev b_Mo_alongX : ByteArray := prog_8_method_12_code
def y_Mo_alongX : MethodName := ⟨R_Mo, "alongX", "(II)I"⟩
def w_Mo_alongX : List Cond := .code y_Mo_alongX b_Mo_alongX 3 (some (.int)) :: okTbl
theorem kc_Mo_alongX : Cond.code y_Mo_alongX b_Mo_alongX 3 (some (.int)) ∈ okTbl := ok_of (List.mem_append_right _ (List.mem_append_right _ (List.mem_append_right _ (List.mem_append_left _ (List.mem_of_getElem? (i := 198) (by decide +kernel)))))) (by decide +kernel)
abbrev b_Mo_alongY : ByteArray := prog_8_method_13_code
def y_Mo_alongY : MethodName := ⟨R_Mo, "alongY", "(II)I"⟩
def w_Mo_alongY : List Cond := .code y_Mo_alongY b_Mo_alongY 3 (some (.int)) :: okTbl
theorem kc_Mo_alongY : Cond.code y_Mo_alongY b_Mo_alongY 3 (some (.int)) ∈ okTbl := ok_of (List.mem_append_right _ (List.mem_append_right _ (List.mem_append_right _ (List.mem_append_left _ (List.mem_of_getElem? (i := 202) (by decide +kernel)))))) (by decide +kernel)
abbrev b_Mo_fits : ByteArray := prog_8_method_14_code
def y_Mo_fits : MethodName := ⟨R_Mo, "fits", "(IIII)Z"⟩
def w_Mo_fits : List Cond := .code y_Mo_fits b_Mo_fits 7 (some (.boolean)) :: okTbl
theorem kc_Mo_fits : Cond.code y_Mo_fits b_Mo_fits 7 (some (.boolean)) ∈ okTbl := ok_of (List.mem_append_right _ (List.mem_append_right _ (List.mem_append_right _ (List.mem_append_left _ (List.mem_of_getElem? (i := 194) (by decide +kernel)))))) (by decide +kernel)
abbrev b_Mo_brings : ByteArray := prog_8_method_15_code
def y_Mo_brings : MethodName := ⟨R_Mo, "brings", "(IIII)I"⟩
def w_Mo_brings : List Cond := .code y_Mo_brings b_Mo_brings 6 (some (.int)) :: okTbl
theorem kc_Mo_brings : Cond.code y_Mo_brings b_Mo_brings 6 (some (.int)) ∈ okTbl := ok_of (List.mem_append_right _ (List.mem_append_right _ (List.mem_append_right _ (List.mem_append_left _ (List.mem_of_getElem? (i := 214) (by decide +kernel)))))) (by decide +kernel)
abbrev b_Mo_cell2 : ByteArray := prog_8_method_16_code
def y_Mo_cell2 : MethodName := ⟨R_Mo, "cell", "(III)I"⟩
def w_Mo_cell2 : List Cond := .code y_Mo_cell2 b_Mo_cell2 3 (some (.int)) :: okTbl
theorem kc_Mo_cell2 : Cond.code y_Mo_cell2 b_Mo_cell2 3 (some (.int)) ∈ okTbl := ok_of (List.mem_append_right _ (List.mem_append_right _ (List.mem_append_right _ (List.mem_append_left _ (List.mem_of_getElem? (i := 186) (by decide +kernel)))))) (by decide +kernel)
abbrev b_Mo_behind : ByteArray := prog_8_method_17_code
def y_Mo_behind : MethodName := ⟨R_Mo, "behind", "(II)I"⟩
def w_Mo_behind : List Cond := .code y_Mo_behind b_Mo_behind 4 (some (.int)) :: okTbl
theorem kc_Mo_behind : Cond.code y_Mo_behind b_Mo_behind 4 (some (.int)) ∈ okTbl := ok_of (List.mem_append_right _ (List.mem_append_right _ (List.mem_append_right _ (List.mem_append_left _ (List.mem_of_getElem? (i := 218) (by decide +kernel)))))) (by decide +kernel)
abbrev b_Mo_mayIn : ByteArray := prog_8_method_18_code
def y_Mo_mayIn : MethodName := ⟨R_Mo, "mayIn", "(IIIII)Z"⟩
def w_Mo_mayIn : List Cond := .code y_Mo_mayIn b_Mo_mayIn 6 (some (.boolean)) :: okTbl
theorem kc_Mo_mayIn : Cond.code y_Mo_mayIn b_Mo_mayIn 6 (some (.boolean)) ∈ okTbl := ok_of (List.mem_append_right _ (List.mem_append_right _ (List.mem_append_right _ (List.mem_append_left _ (List.mem_of_getElem? (i := 190) (by decide +kernel)))))) (by decide +kernel)
abbrev b_Mo_worthWith : ByteArray := prog_8_method_19_code
def y_Mo_worthWith : MethodName := ⟨R_Mo, "worthWith", "(IIIII)I"⟩
def w_Mo_worthWith : List Cond := .code y_Mo_worthWith b_Mo_worthWith 7 (some (.int)) :: okTbl
theorem kc_Mo_worthWith : Cond.code y_Mo_worthWith b_Mo_worthWith 7 (some (.int)) ∈ okTbl := ok_of (List.mem_append_right _ (List.mem_append_right _ (List.mem_append_right _ (List.mem_append_left _ (List.mem_of_getElem? (i := 210) (by decide +kernel)))))) (by decide +kernel)
abbrev b_Mo_countWith : ByteArray := prog_8_method_20_code
def y_Mo_countWith : MethodName := ⟨R_Mo, "countWith", "(IIII)I"⟩
def w_Mo_countWith : List Cond := .code y_Mo_countWith b_Mo_countWith 5 (some (.int)) :: okTbl
theorem kc_Mo_countWith : Cond.code y_Mo_countWith b_Mo_countWith 5 (some (.int)) ∈ okTbl := ok_of (List.mem_append_right _ (List.mem_append_right _ (List.mem_append_right _ (List.mem_append_left _ (List.mem_of_getElem? (i := 222) (by decide +kernel)))))) (by decide +kernel)
abbrev b_Mo_isBetter : ByteArray := prog_8_method_21_code
def y_Mo_isBetter : MethodName := ⟨R_Mo, "isBetter", "(IIII)Z"⟩
def w_Mo_isBetter : List Cond := .code y_Mo_isBetter b_Mo_isBetter 4 (some (.boolean)) :: okTbl
theorem kc_Mo_isBetter : Cond.code y_Mo_isBetter b_Mo_isBetter 4 (some (.boolean)) ∈ okTbl := ok_of (List.mem_append_right _ (List.mem_append_right _ (List.mem_append_right _ (List.mem_append_left _ (List.mem_of_getElem? (i := 225) (by decide +kernel)))))) (by decide +kernel)
abbrev b_Mo_slab : ByteArray := prog_8_method_22_code
def y_Mo_slab : MethodName := ⟨R_Mo, "slab", "(III)V"⟩
def w_Mo_slab : List Cond := .code y_Mo_slab b_Mo_slab 10 none :: okTbl
theorem kc_Mo_slab : Cond.code y_Mo_slab b_Mo_slab 10 none ∈ okTbl := ok_of (List.mem_append_right _ (List.mem_append_right _ (List.mem_append_right _ (List.mem_append_left _ (List.mem_of_getElem? (i := 183) (by decide +kernel)))))) (by decide +kernel)
abbrev b_Mo_isThick : ByteArray := prog_8_method_23_code
def y_Mo_isThick : MethodName := ⟨R_Mo, "isThick", "(I)Z"⟩
def w_Mo_isThick : List Cond := .code y_Mo_isThick b_Mo_isThick 4 (some (.boolean)) :: okTbl
theorem kc_Mo_isThick : Cond.code y_Mo_isThick b_Mo_isThick 4 (some (.boolean)) ∈ okTbl := ok_of (List.mem_append_right _ (List.mem_append_right _ (List.mem_append_right _ (List.mem_append_left _ (List.mem_of_getElem? (i := 179) (by decide +kernel)))))) (by decide +kernel)
abbrev b_Mo_hasSlab : ByteArray := prog_8_method_24_code
def y_Mo_hasSlab : MethodName := ⟨R_Mo, "hasSlab", "(II)Z"⟩
def w_Mo_hasSlab : List Cond := .code y_Mo_hasSlab b_Mo_hasSlab 3 (some (.boolean)) :: okTbl
theorem kc_Mo_hasSlab : Cond.code y_Mo_hasSlab b_Mo_hasSlab 3 (some (.boolean)) ∈ okTbl := ok_of (List.mem_append_right _ (List.mem_append_right _ (List.mem_append_right _ (List.mem_append_left _ (List.mem_of_getElem? (i := 229) (by decide +kernel)))))) (by decide +kernel)
abbrev b_Mo_fill : ByteArray := prog_8_method_25_code
def y_Mo_fill : MethodName := ⟨R_Mo, "fill", "(I)V"⟩
def w_Mo_fill : List Cond := .code y_Mo_fill b_Mo_fill 7 none :: okTbl
theorem kc_Mo_fill : Cond.code y_Mo_fill b_Mo_fill 7 none ∈ okTbl := ok_of (List.mem_append_right _ (List.mem_append_right _ (List.mem_append_right _ (List.mem_append_left _ (List.mem_of_getElem? (i := 167) (by decide +kernel)))))) (by decide +kernel)
abbrev b_Mo_add : ByteArray := prog_8_method_26_code
def y_Mo_add : MethodName := ⟨R_Mo, "add", "(IIII)V"⟩
def w_Mo_add : List Cond := .code y_Mo_add b_Mo_add 8 none :: okTbl
theorem kc_Mo_add : Cond.code y_Mo_add b_Mo_add 8 none ∈ okTbl := ok_of (List.mem_append_right _ (List.mem_append_right _ (List.mem_append_right _ (List.mem_append_right _ (List.mem_of_getElem? (i := 1) (by decide +kernel)))))) (by decide +kernel)
abbrev b_Mo_walkSlab : ByteArray := prog_8_method_27_code
def y_Mo_walkSlab : MethodName := ⟨R_Mo, "walkSlab", "(III)V"⟩
def w_Mo_walkSlab : List Cond := .code y_Mo_walkSlab b_Mo_walkSlab 7 none :: okTbl
theorem kc_Mo_walkSlab : Cond.code y_Mo_walkSlab b_Mo_walkSlab 7 none ∈ okTbl := ok_of (List.mem_append_right _ (List.mem_append_right _ (List.mem_append_right _ (List.mem_append_left _ (List.mem_of_getElem? (i := 237) (by decide +kernel)))))) (by decide +kernel)
abbrev b_Mo_walk : ByteArray := prog_8_method_28_code
def y_Mo_walk : MethodName := ⟨R_Mo, "walk", "(I)V"⟩
def w_Mo_walk : List Cond := .code y_Mo_walk b_Mo_walk 4 none :: okTbl
theorem kc_Mo_walk : Cond.code y_Mo_walk b_Mo_walk 4 none ∈ okTbl := ok_of (List.mem_append_right _ (List.mem_append_right _ (List.mem_append_right _ (List.mem_append_left _ (List.mem_of_getElem? (i := 233) (by decide +kernel)))))) (by decide +kernel)
abbrev b_Mo_run : ByteArray := prog_8_method_29_code
def y_Mo_run : MethodName := ⟨R_Mo, "run", "()I"⟩
def w_Mo_run : List Cond := .code y_Mo_run b_Mo_run 3 (some (.int)) :: okTbl
theorem kc_Mo_run : Cond.code y_Mo_run b_Mo_run 3 (some (.int)) ∈ okTbl := ok_of (List.mem_append_right _ (List.mem_append_right _ (List.mem_append_right _ (List.mem_append_left _ (List.mem_of_getElem? (i := 163) (by decide +kernel)))))) (by decide +kernel)
abbrev b_Mo_bareOf : ByteArray := prog_8_method_30_code
def y_Mo_bareOf : MethodName := ⟨R_Mo, "bareOf", "(I)I"⟩
def w_Mo_bareOf : List Cond := .code y_Mo_bareOf b_Mo_bareOf 2 (some (.int)) :: okTbl
theorem kc_Mo_bareOf : Cond.code y_Mo_bareOf b_Mo_bareOf 2 (some (.int)) ∈ okTbl := ok_of (List.mem_append_right _ (List.mem_append_right _ (List.mem_append_right _ (List.mem_append_right _ (List.mem_of_getElem? (i := 9) (by decide +kernel)))))) (by decide +kernel)
abbrev b_Mo_board : ByteArray := prog_8_method_31_code
def y_Mo_board : MethodName := ⟨R_Mo, "board", "(II)I"⟩
def w_Mo_board : List Cond := .code y_Mo_board b_Mo_board 3 (some (.int)) :: okTbl
theorem kc_Mo_board : Cond.code y_Mo_board b_Mo_board 3 (some (.int)) ∈ okTbl := ok_of (List.mem_append_right _ (List.mem_append_right _ (List.mem_append_right _ (List.mem_append_right _ (List.mem_of_getElem? (i := 5) (by decide +kernel)))))) (by decide +kernel)
abbrev b_Mo_all : ByteArray := prog_8_method_32_code
def y_Mo_all : MethodName := ⟨R_Mo, "all", "(I)I"⟩
def w_Mo_all : List Cond := .code y_Mo_all b_Mo_all 2 (some (.int)) :: okTbl
theorem kc_Mo_all : Cond.code y_Mo_all b_Mo_all 2 (some (.int)) ∈ okTbl := ok_of (List.mem_append_right _ (List.mem_append_right _ (List.mem_append_right _ (List.mem_append_right _ (List.mem_of_getElem? (i := 13) (by decide +kernel)))))) (by decide +kernel)
abbrev b_Mo_worth : ByteArray := prog_8_method_33_code
def y_Mo_worth : MethodName := ⟨R_Mo, "worth", "(I)I"⟩
def w_Mo_worth : List Cond := .code y_Mo_worth b_Mo_worth 2 (some (.int)) :: okTbl
theorem kc_Mo_worth : Cond.code y_Mo_worth b_Mo_worth 2 (some (.int)) ∈ okTbl := ok_of (List.mem_append_right _ (List.mem_append_right _ (List.mem_append_right _ (List.mem_append_right _ (List.mem_of_getElem? (i := 17) (by decide +kernel)))))) (by decide +kernel)
abbrev b_Mo_woodCells : ByteArray := prog_8_method_34_code
def y_Mo_woodCells : MethodName := ⟨R_Mo, "woodCells", "()I"⟩
def w_Mo_woodCells : List Cond := .code y_Mo_woodCells b_Mo_woodCells 4 (some (.int)) :: okTbl
theorem kc_Mo_woodCells : Cond.code y_Mo_woodCells b_Mo_woodCells 4 (some (.int)) ∈ okTbl := ok_of (List.mem_append_right _ (List.mem_append_right _ (List.mem_append_right _ (List.mem_append_right _ (List.mem_of_getElem? (i := 25) (by decide +kernel)))))) (by decide +kernel)
abbrev b_Mo_yields : ByteArray := prog_8_method_35_code
def y_Mo_yields : MethodName := ⟨R_Mo, "yields", "(I)I"⟩
def w_Mo_yields : List Cond := .code y_Mo_yields b_Mo_yields 7 (some (.int)) :: okTbl
theorem kc_Mo_yields : Cond.code y_Mo_yields b_Mo_yields 7 (some (.int)) ∈ okTbl := ok_of (List.mem_append_right _ (List.mem_append_right _ (List.mem_append_right _ (List.mem_append_right _ (List.mem_of_getElem? (i := 21) (by decide +kernel)))))) (by decide +kernel)
abbrev b_Mo_may : ByteArray := prog_8_method_36_code
def y_Mo_may : MethodName := ⟨R_Mo, "may", "(IIII)Z"⟩
def w_Mo_may : List Cond := .code y_Mo_may b_Mo_may 5 (some (.boolean)) :: okTbl
theorem kc_Mo_may : Cond.code y_Mo_may b_Mo_may 5 (some (.boolean)) ∈ okTbl := ok_of (List.mem_append_right _ (List.mem_append_right _ (List.mem_append_right _ (List.mem_append_right _ (List.mem_of_getElem? (i := 29) (by decide +kernel)))))) (by decide +kernel)
abbrev b_Mo_isApart : ByteArray := prog_8_method_37_code
def y_Mo_isApart : MethodName := ⟨R_Mo, "isApart", "(III)Z"⟩
def w_Mo_isApart : List Cond := .code y_Mo_isApart b_Mo_isApart 6 (some (.boolean)) :: okTbl
theorem kc_Mo_isApart : Cond.code y_Mo_isApart b_Mo_isApart 6 (some (.boolean)) ∈ okTbl := ok_of (List.mem_append_right _ (List.mem_append_right _ (List.mem_append_right _ (List.mem_append_right _ (List.mem_of_getElem? (i := 37) (by decide +kernel)))))) (by decide +kernel)
abbrev b_Mo_apart : ByteArray := prog_8_method_38_code
def y_Mo_apart : MethodName := ⟨R_Mo, "apart", "(II)Z"⟩
def w_Mo_apart : List Cond := .code y_Mo_apart b_Mo_apart 3 (some (.boolean)) :: okTbl
theorem kc_Mo_apart : Cond.code y_Mo_apart b_Mo_apart 3 (some (.boolean)) ∈ okTbl := ok_of (List.mem_append_right _ (List.mem_append_right _ (List.mem_append_right _ (List.mem_append_right _ (List.mem_of_getElem? (i := 33) (by decide +kernel)))))) (by decide +kernel)
abbrev b_Mo_wood : ByteArray := prog_8_method_39_code
def y_Mo_wood : MethodName := ⟨R_Mo, "wood", "()I"⟩
def w_Mo_wood : List Cond := .code y_Mo_wood b_Mo_wood 1 (some (.int)) :: okTbl
theorem kc_Mo_wood : Cond.code y_Mo_wood b_Mo_wood 1 (some (.int)) ∈ okTbl := ok_of (List.mem_append_right _ (List.mem_append_right _ (List.mem_append_right _ (List.mem_append_right _ (List.mem_of_getElem? (i := 41) (by decide +kernel)))))) (by decide +kernel)
abbrev b_Be_init : ByteArray := prog_2_method_1_code
def y_Be_init : MethodName := ⟨R_Be, "<init>", "(LSawGrids$Boards;II)V"⟩
def w_Be_init : List Cond := .code y_Be_init b_Be_init 4 none :: okTbl
theorem kc_Be_init : Cond.code y_Be_init b_Be_init 4 none ∈ okTbl := ok_of (List.mem_append_right _ (List.mem_append_left _ (List.mem_of_getElem? (i := 105) (by decide +kernel)))) (by decide +kernel)
abbrev b_Be_valueOf : ByteArray := prog_2_method_2_code
def y_Be_valueOf : MethodName := ⟨R_Be, "valueOf", "(J)I"⟩
def w_Be_valueOf : List Cond := .code y_Be_valueOf b_Be_valueOf 2 (some (.int)) :: okTbl
theorem kc_Be_valueOf : Cond.code y_Be_valueOf b_Be_valueOf 2 (some (.int)) ∈ okTbl := ok_of (List.mem_append_right _ (List.mem_append_right _ (List.mem_append_right _ (List.mem_append_left _ (List.mem_of_getElem? (i := 26) (by decide +kernel)))))) (by decide +kernel)
abbrev b_Be_plan : ByteArray := prog_2_method_3_code
def y_Be_plan : MethodName := ⟨R_Be, "plan", "(I)J"⟩
def w_Be_plan : List Cond := .code y_Be_plan b_Be_plan 3 (some (.long)) :: okTbl
theorem kc_Be_plan : Cond.code y_Be_plan b_Be_plan 3 (some (.long)) ∈ okTbl := ok_of (List.mem_append_right _ (List.mem_append_left _ (List.mem_of_getElem? (i := 215) (by decide +kernel)))) (by decide +kernel)
abbrev b_Be_planRow : ByteArray := prog_2_method_4_code
def y_Be_planRow : MethodName := ⟨R_Be, "planRow", "(I)V"⟩
def w_Be_planRow : List Cond := .code y_Be_planRow b_Be_planRow 10 none :: okTbl
theorem kc_Be_planRow : Cond.code y_Be_planRow b_Be_planRow 10 none ∈ okTbl := ok_of (List.mem_append_right _ (List.mem_append_left _ (List.mem_of_getElem? (i := 219) (by decide +kernel)))) (by decide +kernel)
abbrev b_Be_planSlab : ByteArray := prog_2_method_5_code
def y_Be_planSlab : MethodName := ⟨R_Be, "planSlab", "(II)J"⟩
def w_Be_planSlab : List Cond := .code y_Be_planSlab b_Be_planSlab 4 (some (.long)) :: okTbl
theorem kc_Be_planSlab : Cond.code y_Be_planSlab b_Be_planSlab 4 (some (.long)) ∈ okTbl := ok_of (List.mem_append_right _ (List.mem_append_left _ (List.mem_of_getElem? (i := 227) (by decide +kernel)))) (by decide +kernel)
abbrev b_Be_planColumn : ByteArray := prog_2_method_6_code
def y_Be_planColumn : MethodName := ⟨R_Be, "planColumn", "(III)V"⟩
def w_Be_planColumn : List Cond := .code y_Be_planColumn b_Be_planColumn 10 none :: okTbl
theorem kc_Be_planColumn : Cond.code y_Be_planColumn b_Be_planColumn 10 none ∈ okTbl := ok_of (List.mem_append_right _ (List.mem_append_left _ (List.mem_of_getElem? (i := 231) (by decide +kernel)))) (by decide +kernel)
abbrev b_Be_xAt : ByteArray := prog_2_method_7_code
def y_Be_xAt : MethodName := ⟨R_Be, "xAt", "(II)I"⟩
def w_Be_xAt : List Cond := .code y_Be_xAt b_Be_xAt 3 (some (.int)) :: okTbl
theorem kc_Be_xAt : Cond.code y_Be_xAt b_Be_xAt 3 (some (.int)) ∈ okTbl := ok_of (List.mem_append_right _ (List.mem_append_left _ (List.mem_of_getElem? (i := 235) (by decide +kernel)))) (by decide +kernel)
abbrev b_Be_yAt : ByteArray := prog_2_method_8_code
def y_Be_yAt : MethodName := ⟨R_Be, "yAt", "(II)I"⟩
def w_Be_yAt : List Cond := .code y_Be_yAt b_Be_yAt 3 (some (.int)) :: okTbl
theorem kc_Be_yAt : Cond.code y_Be_yAt b_Be_yAt 3 (some (.int)) ∈ okTbl := ok_of (List.mem_append_right _ (List.mem_append_left _ (List.mem_of_getElem? (i := 239) (by decide +kernel)))) (by decide +kernel)
abbrev b_Be_layOut : ByteArray := prog_2_method_9_code
def y_Be_layOut : MethodName := ⟨R_Be, "layOut", "(LSawGrids$Pattern;)V"⟩
def w_Be_layOut : List Cond := .code y_Be_layOut b_Be_layOut 5 none :: okTbl
theorem kc_Be_layOut : Cond.code y_Be_layOut b_Be_layOut 5 none ∈ okTbl := ok_of (List.mem_append_right _ (List.mem_append_right _ (List.mem_append_left _ (List.mem_of_getElem? (i := 26) (by decide +kernel))))) (by decide +kernel)
abbrev b_Be_layOutSlab : ByteArray := prog_2_method_10_code
def y_Be_layOutSlab : MethodName := ⟨R_Be, "layOutSlab", "(LSawGrids$Pattern;II)V"⟩
def w_Be_layOutSlab : List Cond := .code y_Be_layOutSlab b_Be_layOutSlab 7 none :: okTbl
theorem kc_Be_layOutSlab : Cond.code y_Be_layOutSlab b_Be_layOutSlab 7 none ∈ okTbl := ok_of (List.mem_append_right _ (List.mem_append_right _ (List.mem_append_left _ (List.mem_of_getElem? (i := 34) (by decide +kernel))))) (by decide +kernel)
abbrev b_Be_layOutBoard : ByteArray := prog_2_method_11_code
def y_Be_layOutBoard : MethodName := ⟨R_Be, "layOutBoard", "(LSawGrids$Pattern;III)V"⟩
def w_Be_layOutBoard : List Cond := .code y_Be_layOutBoard b_Be_layOutBoard 5 none :: okTbl
theorem kc_Be_layOutBoard : Cond.code y_Be_layOutBoard b_Be_layOutBoard 5 none ∈ okTbl := ok_of (List.mem_append_right _ (List.mem_append_right _ (List.mem_append_left _ (List.mem_of_getElem? (i := 45) (by decide +kernel))))) (by decide +kernel)
abbrev b_Bo_init : ByteArray := prog_3_method_1_code
def y_Bo_init : MethodName := ⟨R_Bo, "<init>", "(LSawGrids$Log;LSawGrids$Sizes;)V"⟩
def w_Bo_init : List Cond := .code y_Bo_init b_Bo_init 3 none :: okTbl
theorem kc_Bo_init : Cond.code y_Bo_init b_Bo_init 3 none ∈ okTbl := ok_of (List.mem_append_right _ (List.mem_append_left _ (List.mem_of_getElem? (i := 91) (by decide +kernel)))) (by decide +kernel)
abbrev b_Bo_fits : ByteArray := prog_3_method_2_code
def y_Bo_fits : MethodName := ⟨R_Bo, "fits", "(IIII)Z"⟩
def w_Bo_fits : List Cond := .code y_Bo_fits b_Bo_fits 6 (some (.boolean)) :: okTbl
theorem kc_Bo_fits : Cond.code y_Bo_fits b_Bo_fits 6 (some (.boolean)) ∈ okTbl := ok_of (List.mem_append_right _ (List.mem_append_right _ (List.mem_append_left _ (List.mem_of_getElem? (i := 3) (by decide +kernel))))) (by decide +kernel)
abbrev b_Bo_bareAt : ByteArray := prog_3_method_3_code
def y_Bo_bareAt : MethodName := ⟨R_Bo, "bareAt", "(IIII)I"⟩
def w_Bo_bareAt : List Cond := .code y_Bo_bareAt b_Bo_bareAt 5 (some (.int)) :: okTbl
theorem kc_Bo_bareAt : Cond.code y_Bo_bareAt b_Bo_bareAt 5 (some (.int)) ∈ okTbl := ok_of (List.mem_append_right _ (List.mem_append_right _ (List.mem_append_right _ (List.mem_append_left _ (List.mem_of_getElem? (i := 3) (by decide +kernel)))))) (by decide +kernel)
abbrev b_Bo_valueAt : ByteArray := prog_3_method_4_code
def y_Bo_valueAt : MethodName := ⟨R_Bo, "valueAt", "(IIII)I"⟩
def w_Bo_valueAt : List Cond := .code y_Bo_valueAt b_Bo_valueAt 6 (some (.int)) :: okTbl
theorem kc_Bo_valueAt : Cond.code y_Bo_valueAt b_Bo_valueAt 6 (some (.int)) ∈ okTbl := ok_of (List.mem_append_right _ (List.mem_append_right _ (List.mem_append_left _ (List.mem_of_getElem? (i := 19) (by decide +kernel))))) (by decide +kernel)
abbrev b_Lo_init : ByteArray := prog_4_method_1_code
def y_Lo_init : MethodName := ⟨R_Lo, "<init>", "(I)V"⟩
def w_Lo_init : List Cond := .code y_Lo_init b_Lo_init 2 none :: okTbl
theorem kc_Lo_init : Cond.code y_Lo_init b_Lo_init 2 none ∈ okTbl := ok_of (List.mem_append_right _ (List.mem_append_left _ (List.mem_of_getElem? (i := 33) (by decide +kernel)))) (by decide +kernel)
abbrev b_Lo_isCell : ByteArray := prog_4_method_2_code
def y_Lo_isCell : MethodName := ⟨R_Lo, "isCell", "(II)Z"⟩
def w_Lo_isCell : List Cond := .code y_Lo_isCell b_Lo_isCell 3 (some (.boolean)) :: okTbl
theorem kc_Lo_isCell : Cond.code y_Lo_isCell b_Lo_isCell 3 (some (.boolean)) ∈ okTbl := ok_of (List.mem_append_right _ (List.mem_append_right _ (List.mem_append_left _ (List.mem_of_getElem? (i := 77) (by decide +kernel))))) (by decide +kernel)
abbrev b_Lo_mark : ByteArray := prog_4_method_3_code
def y_Lo_mark : MethodName := ⟨R_Lo, "mark", "(IIIZ)Z"⟩
def w_Lo_mark : List Cond := .code y_Lo_mark b_Lo_mark 7 (some (.boolean)) :: okTbl
theorem kc_Lo_mark : Cond.code y_Lo_mark b_Lo_mark 7 (some (.boolean)) ∈ okTbl := ok_of (List.mem_append_right _ (List.mem_append_right _ (List.mem_append_left _ (List.mem_of_getElem? (i := 150) (by decide +kernel))))) (by decide +kernel)
abbrev b_Lo_tie : ByteArray := prog_4_method_4_code
def y_Lo_tie : MethodName := ⟨R_Lo, "tie", "(III)Z"⟩
def w_Lo_tie : List Cond := .code y_Lo_tie b_Lo_tie 6 (some (.boolean)) :: okTbl
theorem kc_Lo_tie : Cond.code y_Lo_tie b_Lo_tie 6 (some (.boolean)) ∈ okTbl := ok_of (List.mem_append_right _ (List.mem_append_right _ (List.mem_append_left _ (List.mem_of_getElem? (i := 188) (by decide +kernel))))) (by decide +kernel)
abbrev b_Lo_woodCells : ByteArray := prog_4_method_5_code
def y_Lo_woodCells : MethodName := ⟨R_Lo, "woodCells", "()I"⟩
def w_Lo_woodCells : List Cond := .code y_Lo_woodCells b_Lo_woodCells 1 (some (.int)) :: okTbl
theorem kc_Lo_woodCells : Cond.code y_Lo_woodCells b_Lo_woodCells 1 (some (.int)) ∈ okTbl := ok_of (List.mem_append_right _ (List.mem_append_right _ (List.mem_append_left _ (List.mem_of_getElem? (i := 57) (by decide +kernel))))) (by decide +kernel)
abbrev b_Lo_sumIn : ByteArray := prog_4_method_6_code
def y_Lo_sumIn : MethodName := ⟨R_Lo, "sumIn", "([IIIII)I"⟩
def w_Lo_sumIn : List Cond := .code y_Lo_sumIn b_Lo_sumIn 8 (some (.int)) :: okTbl
theorem kc_Lo_sumIn : Cond.code y_Lo_sumIn b_Lo_sumIn 8 (some (.int)) ∈ okTbl := ok_of (List.mem_append_right _ (List.mem_append_right _ (List.mem_append_left _ (List.mem_of_getElem? (i := 15) (by decide +kernel))))) (by decide +kernel)
abbrev b_Lo_sumUp : ByteArray := prog_4_method_7_code
def y_Lo_sumUp : MethodName := ⟨R_Lo, "sumUp", "()V"⟩
def w_Lo_sumUp : List Cond := .code y_Lo_sumUp b_Lo_sumUp 2 none :: okTbl
theorem kc_Lo_sumUp : Cond.code y_Lo_sumUp b_Lo_sumUp 2 none ∈ okTbl := ok_of (List.mem_append_right _ (List.mem_append_left _ (List.mem_of_getElem? (i := 207) (by decide +kernel)))) (by decide +kernel)
abbrev b_Lo_sumUpRow : ByteArray := prog_4_method_8_code
def y_Lo_sumUpRow : MethodName := ⟨R_Lo, "sumUpRow", "(I)V"⟩
def w_Lo_sumUpRow : List Cond := .code y_Lo_sumUpRow b_Lo_sumUpRow 8 none :: okTbl
theorem kc_Lo_sumUpRow : Cond.code y_Lo_sumUpRow b_Lo_sumUpRow 8 none ∈ okTbl := ok_of (List.mem_append_right _ (List.mem_append_left _ (List.mem_of_getElem? (i := 211) (by decide +kernel)))) (by decide +kernel)
abbrev b_Pa_init : ByteArray := prog_5_method_1_code
def y_Pa_init : MethodName := ⟨R_Pa, "<init>", "(I)V"⟩
def w_Pa_init : List Cond := .code y_Pa_init b_Pa_init 2 none :: okTbl
theorem kc_Pa_init : Cond.code y_Pa_init b_Pa_init 2 none ∈ okTbl := ok_of (List.mem_append_right _ (List.mem_append_left _ (List.mem_of_getElem? (i := 140) (by decide +kernel)))) (by decide +kernel)
abbrev b_Pa_clear : ByteArray := prog_5_method_2_code
def y_Pa_clear : MethodName := ⟨R_Pa, "clear", "(I)V"⟩
def w_Pa_clear : List Cond := .code y_Pa_clear b_Pa_clear 2 none :: okTbl
theorem kc_Pa_clear : Cond.code y_Pa_clear b_Pa_clear 2 none ∈ okTbl := ok_of (List.mem_append_right _ (List.mem_append_right _ (List.mem_append_left _ (List.mem_of_getElem? (i := 30) (by decide +kernel))))) (by decide +kernel)
abbrev b_Pa_add : ByteArray := prog_5_method_3_code
def y_Pa_add : MethodName := ⟨R_Pa, "add", "(III)V"⟩
def w_Pa_add : List Cond := .code y_Pa_add b_Pa_add 4 none :: okTbl
theorem kc_Pa_add : Cond.code y_Pa_add b_Pa_add 4 none ∈ okTbl := ok_of (List.mem_append_right _ (List.mem_append_right _ (List.mem_append_left _ (List.mem_of_getElem? (i := 49) (by decide +kernel))))) (by decide +kernel)
abbrev b_Si_init : ByteArray := prog_6_method_1_code
def y_Si_init : MethodName := ⟨R_Si, "<init>", "()V"⟩
def w_Si_init : List Cond := .code y_Si_init b_Si_init 1 none :: okTbl
theorem kc_Si_init : Cond.code y_Si_init b_Si_init 1 none ∈ okTbl := ok_of (List.mem_append_right _ (List.mem_append_left _ (List.mem_of_getElem? (i := 63) (by decide +kernel)))) (by decide +kernel)
abbrev b_Si_has : ByteArray := prog_6_method_2_code
def y_Si_has : MethodName := ⟨R_Si, "has", "(I)Z"⟩
def w_Si_has : List Cond := .code y_Si_has b_Si_has 2 (some (.boolean)) :: okTbl
theorem kc_Si_has : Cond.code y_Si_has b_Si_has 2 (some (.boolean)) ∈ okTbl := ok_of (List.mem_append_right _ (List.mem_append_right _ (List.mem_append_left _ (List.mem_of_getElem? (i := 38) (by decide +kernel))))) (by decide +kernel)
abbrev b_Si_haveThickness : ByteArray := prog_6_method_3_code
def y_Si_haveThickness : MethodName := ⟨R_Si, "haveThickness", "(I)Z"⟩
def w_Si_haveThickness : List Cond := .code y_Si_haveThickness b_Si_haveThickness 3 (some (.boolean)) :: okTbl
theorem kc_Si_haveThickness : Cond.code y_Si_haveThickness b_Si_haveThickness 3 (some (.boolean)) ∈ okTbl := ok_of (List.mem_append_right _ (List.mem_append_left _ (List.mem_of_getElem? (i := 223) (by decide +kernel)))) (by decide +kernel)
abbrev b_Si_add : ByteArray := prog_6_method_4_code
def y_Si_add : MethodName := ⟨R_Si, "add", "(IIII)I"⟩
def w_Si_add : List Cond := .code y_Si_add b_Si_add 5 (some (.int)) :: okTbl
theorem kc_Si_add : Cond.code y_Si_add b_Si_add 5 (some (.int)) ∈ okTbl := ok_of (List.mem_append_right _ (List.mem_append_right _ (List.mem_append_left _ (List.mem_of_getElem? (i := 219) (by decide +kernel))))) (by decide +kernel)
abbrev b_Si_alongX : ByteArray := prog_6_method_5_code
def y_Si_alongX : MethodName := ⟨R_Si, "alongX", "(II)I"⟩
def w_Si_alongX : List Cond := .code y_Si_alongX b_Si_alongX 3 (some (.int)) :: okTbl
theorem kc_Si_alongX : Cond.code y_Si_alongX b_Si_alongX 3 (some (.int)) ∈ okTbl := ok_of (List.mem_append_right _ (List.mem_append_right _ (List.mem_append_left _ (List.mem_of_getElem? (i := 7) (by decide +kernel))))) (by decide +kernel)
abbrev b_Si_alongY : ByteArray := prog_6_method_6_code
def y_Si_alongY : MethodName := ⟨R_Si, "alongY", "(II)I"⟩
def w_Si_alongY : List Cond := .code y_Si_alongY b_Si_alongY 3 (some (.int)) :: okTbl
theorem kc_Si_alongY : Cond.code y_Si_alongY b_Si_alongY 3 (some (.int)) ∈ okTbl := ok_of (List.mem_append_right _ (List.mem_append_right _ (List.mem_append_left _ (List.mem_of_getElem? (i := 11) (by decide +kernel))))) (by decide +kernel)
abbrev b_La_cell1 : ByteArray := method_2_code
def y_La_cell1 : MethodName := ⟨R_La, "cell", "([II)I"⟩
def w_La_cell1 : List Cond := .code y_La_cell1 b_La_cell1 2 (some (.int)) :: okTbl
theorem kc_La_cell1 : Cond.code y_La_cell1 b_La_cell1 2 (some (.int)) ∈ okTbl := ok_of (List.mem_append_right _ (List.mem_append_right _ (List.mem_append_left _ (List.mem_of_getElem? (i := 61) (by decide +kernel))))) (by decide +kernel)
abbrev b_La_cell2 : ByteArray := method_3_code
def y_La_cell2 : MethodName := ⟨R_La, "cell", "(LSawGrids;IIIZ[J)I"⟩
def w_La_cell2 : List Cond := .codeWith y_La_cell2 b_La_cell2 7 (some (.int)) [(0, 21, 24, 13)] :: okTbl
theorem kc_La_cell2 : Cond.codeWith y_La_cell2 b_La_cell2 7 (some (.int)) [(0, 21, 24, 13)] ∈ okTbl := ok_of (List.mem_append_right _ (List.mem_append_right _ (List.mem_append_left _ (List.mem_of_getElem? (i := 64) (by decide +kernel))))) (by decide +kernel)
abbrev b_La_span : ByteArray := method_4_code
def y_La_span : MethodName := ⟨R_La, "span", "(LSawGrids;IIII)I"⟩
def w_La_span : List Cond := .codeWith y_La_span b_La_span 6 (some (.int)) [(0, 9, 12, 13), (0, 9, 16, 19)] :: okTbl
theorem kc_La_span : Cond.codeWith y_La_span b_La_span 6 (some (.int)) [(0, 9, 12, 13), (0, 9, 16, 19)] ∈ okTbl := ok_of (List.mem_append_right _ (List.mem_append_right _ (List.mem_append_left _ (List.mem_of_getElem? (i := 153) (by decide +kernel))))) (by decide +kernel)
abbrev b_La_knot : ByteArray := method_5_code
def y_La_knot : MethodName := ⟨R_La, "knot", "(LSawGrids;III[J)I"⟩
def w_La_knot : List Cond := .codeWith y_La_knot b_La_knot 6 (some (.int)) [(0, 19, 22, 13), (0, 19, 26, 19)] :: okTbl
theorem kc_La_knot : Cond.codeWith y_La_knot b_La_knot 6 (some (.int)) [(0, 19, 22, 13), (0, 19, 26, 19)] ∈ okTbl := ok_of (List.mem_append_right _ (List.mem_append_right _ (List.mem_append_left _ (List.mem_of_getElem? (i := 178) (by decide +kernel))))) (by decide +kernel)
abbrev b_La_size : ByteArray := method_6_code
def y_La_size : MethodName := ⟨R_La, "size", "(LSawGrids;IIII[J)I"⟩
def w_La_size : List Cond := .codeWith y_La_size b_La_size 7 (some (.int)) [(0, 14, 17, 19), (0, 14, 21, 29)] :: okTbl
theorem kc_La_size : Cond.codeWith y_La_size b_La_size 7 (some (.int)) [(0, 14, 17, 19), (0, 14, 21, 29)] ∈ okTbl := ok_of (List.mem_append_right _ (List.mem_append_right _ (List.mem_append_left _ (List.mem_of_getElem? (i := 191) (by decide +kernel))))) (by decide +kernel)
abbrev b_La_board : ByteArray := method_7_code
def y_La_board : MethodName := ⟨R_La, "board", "(LSawGrids;II[J)I"⟩
def w_La_board : List Cond := .codeWith y_La_board b_La_board 5 (some (.int)) [(0, 10, 13, 29), (0, 10, 17, 13)] :: okTbl
theorem kc_La_board : Cond.codeWith y_La_board b_La_board 5 (some (.int)) [(0, 10, 13, 29), (0, 10, 17, 13)] ∈ okTbl := ok_of (List.mem_append_right _ (List.mem_append_right _ (List.mem_append_left _ (List.mem_of_getElem? (i := 222) (by decide +kernel))))) (by decide +kernel)
abbrev b_La_all : ByteArray := method_8_code
def y_La_all : MethodName := ⟨R_La, "all", "(LSawGrids;I[J)I"⟩
def w_La_all : List Cond := .codeWith y_La_all b_La_all 4 (some (.int)) [(0, 9, 12, 29), (0, 9, 15, 13)] :: okTbl
theorem kc_La_all : Cond.codeWith y_La_all b_La_all 4 (some (.int)) [(0, 9, 12, 29), (0, 9, 15, 13)] ∈ okTbl := ok_of (List.mem_append_right _ (List.mem_append_right _ (List.mem_append_right _ (List.mem_append_left _ (List.mem_of_getElem? (i := 7) (by decide +kernel)))))) (by decide +kernel)
abbrev b_La_worth : ByteArray := method_9_code
def y_La_worth : MethodName := ⟨R_La, "worth", "(LSawGrids;I[J)I"⟩
def w_La_worth : List Cond := .codeWith y_La_worth b_La_worth 4 (some (.int)) [(0, 9, 12, 13)] :: okTbl
theorem kc_La_worth : Cond.codeWith y_La_worth b_La_worth 4 (some (.int)) [(0, 9, 12, 13)] ∈ okTbl := ok_of (List.mem_append_right _ (List.mem_append_right _ (List.mem_append_right _ (List.mem_append_left _ (List.mem_of_getElem? (i := 15) (by decide +kernel)))))) (by decide +kernel)
abbrev b_La_yields : ByteArray := method_10_code
def y_La_yields : MethodName := ⟨R_La, "yields", "(LSawGrids;I[J)I"⟩
def w_La_yields : List Cond := .codeWith y_La_yields b_La_yields 4 (some (.int)) [(0, 9, 12, 29), (0, 9, 15, 13)] :: okTbl
theorem kc_La_yields : Cond.codeWith y_La_yields b_La_yields 4 (some (.int)) [(0, 9, 12, 29), (0, 9, 15, 13)] ∈ okTbl := ok_of (List.mem_append_right _ (List.mem_append_right _ (List.mem_append_right _ (List.mem_append_left _ (List.mem_of_getElem? (i := 29) (by decide +kernel)))))) (by decide +kernel)
abbrev b_La_may : ByteArray := method_11_code
def y_La_may : MethodName := ⟨R_La, "may", "(LSawGrids;IIII[J)I"⟩
def w_La_may : List Cond := .codeWith y_La_may b_La_may 7 (some (.int)) [(0, 21, 24, 13)] :: okTbl
theorem kc_La_may : Cond.codeWith y_La_may b_La_may 7 (some (.int)) [(0, 21, 24, 13)] ∈ okTbl := ok_of (List.mem_append_right _ (List.mem_append_right _ (List.mem_append_right _ (List.mem_append_left _ (List.mem_of_getElem? (i := 40) (by decide +kernel)))))) (by decide +kernel)
abbrev b_La_apart : ByteArray := method_12_code
def y_La_apart : MethodName := ⟨R_La, "apart", "(LSawGrids;II[J)I"⟩
def w_La_apart : List Cond := .codeWith y_La_apart b_La_apart 5 (some (.int)) [(0, 17, 20, 29), (0, 17, 24, 13)] :: okTbl
theorem kc_La_apart : Cond.codeWith y_La_apart b_La_apart 5 (some (.int)) [(0, 17, 20, 29), (0, 17, 24, 13)] ∈ okTbl := ok_of (List.mem_append_right _ (List.mem_append_right _ (List.mem_append_right _ (List.mem_append_left _ (List.mem_of_getElem? (i := 50) (by decide +kernel)))))) (by decide +kernel)
