def RX0 : String := "RegisterRows$Bank"
def TX0 : u_T := fun k => match k with
  | 0 => ("RegisterRows$Bank", "cells", "[J", true)
  | _ => ("RegisterRows$Bank", "levels", "[I", true)
def tyX0 : Nat → FieldType := fun k => match k with
  | 0 => .array .long
  | _ => .array .int
abbrev wsX00 : List Cond := u_ws RX0 TX0 2
theorem nmX0 : ∀ a, a < 2 → ∀ b, b < 2 → a ≠ b → (TX0 a).2.1 ≠ (TX0 b).2.1 := by decide +kernel
theorem tyX0_ok : ∀ k, k < 2 → parseFieldDescriptor (TX0 k).2.2.1 = some (tyX0 k) := by decide +kernel
abbrev cX0_init : ByteArray := prog_2_method_1_code
def yX0_init : MethodName := ⟨RX0, "<init>", "()V"⟩
abbrev cX0_home : ByteArray := prog_2_method_2_code
def yX0_home : MethodName := ⟨RX0, "home", "(II)I"⟩
abbrev cX0_place : ByteArray := prog_2_method_3_code
def yX0_place : MethodName := ⟨RX0, "place", "(II)I"⟩
abbrev cX0_copyTo : ByteArray := prog_2_method_4_code
def yX0_copyTo : MethodName := ⟨RX0, "copyTo", "([JII)V"⟩
abbrev cX0_copyFrom : ByteArray := prog_2_method_5_code
def yX0_copyFrom : MethodName := ⟨RX0, "copyFrom", "([JIII)V"⟩
def RX1 : String := "RegisterRows$Ended"
def TX1 : u_T := fun k => match k with
  | 0 => ("RegisterRows$Ended", "kinds", "[I", true)
  | 1 => ("RegisterRows$Ended", "registers", "[I", true)
  | 2 => ("RegisterRows$Ended", "again", "[I", true)
  | 3 => ("RegisterRows$Ended", "tokens", "[I", true)
  | 4 => ("RegisterRows$Ended", "many", "I", false)
  | 5 => ("RegisterRows$Ended", "back", "I", false)
  | _ => ("RegisterRows$Ended", "manyTokens", "I", false)
def tyX1 : Nat → FieldType := fun k => match k with
  | 0 => .array .int
  | 1 => .array .int
  | 2 => .array .int
  | 3 => .array .int
  | 4 => .int
  | 5 => .int
  | _ => .int
abbrev wsX10 : List Cond := u_ws RX1 TX1 7
theorem nmX1 : ∀ a, a < 7 → ∀ b, b < 7 → a ≠ b → (TX1 a).2.1 ≠ (TX1 b).2.1 := by decide +kernel
theorem tyX1_ok : ∀ k, k < 7 → parseFieldDescriptor (TX1 k).2.2.1 = some (tyX1 k) := by decide +kernel
abbrev cX1_init : ByteArray := prog_3_method_1_code
def yX1_init : MethodName := ⟨RX1, "<init>", "()V"⟩
abbrev cX1_clear : ByteArray := prog_3_method_2_code
def yX1_clear : MethodName := ⟨RX1, "clear", "()V"⟩
abbrev cX1_append : ByteArray := prog_3_method_3_code
def yX1_append : MethodName := ⟨RX1, "append", "(IIZ)V"⟩
abbrev cX1_appendToken : ByteArray := prog_3_method_4_code
def yX1_appendToken : MethodName := ⟨RX1, "appendToken", "(I)V"⟩
abbrev cX1_copyTokens : ByteArray := prog_3_method_5_code
def yX1_copyTokens : MethodName := ⟨RX1, "copyTokens", "(LRegisterRows$Groups;)V"⟩
def RX2 : String := "RegisterRows$Groups"
def TX2 : u_T := fun k => match k with
  | 0 => ("RegisterRows$Groups", "firstsKept", "[I", true)
  | 1 => ("RegisterRows$Groups", "firstTokens", "[I", true)
  | 2 => ("RegisterRows$Groups", "tokens", "[I", true)
  | 3 => ("RegisterRows$Groups", "depth", "I", false)
  | _ => ("RegisterRows$Groups", "many", "I", false)
def tyX2 : Nat → FieldType := fun k => match k with
  | 0 => .array .int
  | 1 => .array .int
  | 2 => .array .int
  | 3 => .int
  | _ => .int
abbrev wsX20 : List Cond := u_ws RX2 TX2 5
theorem nmX2 : ∀ a, a < 5 → ∀ b, b < 5 → a ≠ b → (TX2 a).2.1 ≠ (TX2 b).2.1 := by decide +kernel
theorem tyX2_ok : ∀ k, k < 5 → parseFieldDescriptor (TX2 k).2.2.1 = some (tyX2 k) := by decide +kernel
abbrev cX2_init : ByteArray := prog_4_method_1_code
def yX2_init : MethodName := ⟨RX2, "<init>", "()V"⟩
abbrev cX2_open : ByteArray := prog_4_method_2_code
def yX2_open : MethodName := ⟨RX2, "open", "(I)V"⟩
abbrev cX2_append : ByteArray := prog_4_method_3_code
def yX2_append : MethodName := ⟨RX2, "append", "(I)V"⟩
abbrev cX2_firstKept : ByteArray := prog_4_method_4_code
def yX2_firstKept : MethodName := ⟨RX2, "firstKept", "()I"⟩
abbrev cX2_firstToken : ByteArray := prog_4_method_5_code
def yX2_firstToken : MethodName := ⟨RX2, "firstToken", "()I"⟩
abbrev cX2_close : ByteArray := prog_4_method_6_code
def yX2_close : MethodName := ⟨RX2, "close", "()V"⟩
def RX3 : String := "RegisterRows$Pile"
def TX3 : u_T := fun k => match k with
  | 0 => ("RegisterRows$Pile", "kinds", "[I", true)
  | 1 => ("RegisterRows$Pile", "registers", "[I", true)
  | 2 => ("RegisterRows$Pile", "levels", "[I", true)
  | 3 => ("RegisterRows$Pile", "cells", "[J", true)
  | _ => ("RegisterRows$Pile", "many", "I", false)
def tyX3 : Nat → FieldType := fun k => match k with
  | 0 => .array .int
  | 1 => .array .int
  | 2 => .array .int
  | 3 => .array .long
  | _ => .int
abbrev wsX30 : List Cond := u_ws RX3 TX3 5
theorem nmX3 : ∀ a, a < 5 → ∀ b, b < 5 → a ≠ b → (TX3 a).2.1 ≠ (TX3 b).2.1 := by decide +kernel
theorem tyX3_ok : ∀ k, k < 5 → parseFieldDescriptor (TX3 k).2.2.1 = some (tyX3 k) := by decide +kernel
abbrev cX3_init : ByteArray := prog_5_method_1_code
def yX3_init : MethodName := ⟨RX3, "<init>", "()V"⟩
abbrev cX3_keep : ByteArray := prog_5_method_2_code
def yX3_keep : MethodName := ⟨RX3, "keep", "(LRegisterRows$Bank;II)V"⟩
def RX4 : String := "RegisterRows$Signs"
def TX4 : u_T := fun k => match k with
  | 0 => ("RegisterRows$Signs", "signs", "[I", true)
  | _ => ("RegisterRows$Signs", "many", "I", false)
def tyX4 : Nat → FieldType := fun k => match k with
  | 0 => .array .int
  | _ => .int
abbrev wsX40 : List Cond := u_ws RX4 TX4 2
theorem nmX4 : ∀ a, a < 2 → ∀ b, b < 2 → a ≠ b → (TX4 a).2.1 ≠ (TX4 b).2.1 := by decide +kernel
theorem tyX4_ok : ∀ k, k < 2 → parseFieldDescriptor (TX4 k).2.2.1 = some (tyX4 k) := by decide +kernel
abbrev cX4_init : ByteArray := prog_6_method_1_code
def yX4_init : MethodName := ⟨RX4, "<init>", "()V"⟩
abbrev cX4_clear : ByteArray := prog_6_method_2_code
def yX4_clear : MethodName := ⟨RX4, "clear", "()V"⟩
abbrev cX4_signAt : ByteArray := prog_6_method_3_code
def yX4_signAt : MethodName := ⟨RX4, "signAt", "(I)I"⟩
abbrev cX4_write : ByteArray := prog_6_method_4_code
def yX4_write : MethodName := ⟨RX4, "write", "(I)V"⟩
abbrev cX4_writeText : ByteArray := prog_6_method_5_code
def yX4_writeText : MethodName := ⟨RX4, "writeText", "(Ljava/lang/String;)V"⟩
abbrev cX4_writeNumber : ByteArray := prog_6_method_6_code
def yX4_writeNumber : MethodName := ⟨RX4, "writeNumber", "(J)V"⟩
abbrev cX4_writeDigits : ByteArray := prog_6_method_7_code
def yX4_writeDigits : MethodName := ⟨RX4, "writeDigits", "(J)V"⟩
abbrev cX4_writeLength : ByteArray := prog_6_method_8_code
def yX4_writeLength : MethodName := ⟨RX4, "writeLength", "(J)V"⟩
abbrev cX4_writeFraction : ByteArray := prog_6_method_9_code
def yX4_writeFraction : MethodName := ⟨RX4, "writeFraction", "(J)V"⟩
def RX5 : String := "RegisterRows"
def TX5 : u_T := fun k => match k with
  | 0 => ("RegisterRows", "bank", "LRegisterRows$Bank;", true)
  | 1 => ("RegisterRows", "pile", "LRegisterRows$Pile;", true)
  | 2 => ("RegisterRows", "groups", "LRegisterRows$Groups;", true)
  | 3 => ("RegisterRows", "ended", "LRegisterRows$Ended;", true)
  | 4 => ("RegisterRows", "signs", "LRegisterRows$Signs;", true)
  | 5 => ("RegisterRows", "glueThatWaits", "[J", true)
  | 6 => ("RegisterRows", "rowThatWaits", "[J", true)
  | _ => ("RegisterRows", "made", "[J", true)
def tyX5 : Nat → FieldType := fun k => match k with
  | 0 => .object "RegisterRows$Bank"
  | 1 => .object "RegisterRows$Pile"
  | 2 => .object "RegisterRows$Groups"
  | 3 => .object "RegisterRows$Ended"
  | 4 => .object "RegisterRows$Signs"
  | 5 => .array .long
  | 6 => .array .long
  | _ => .array .long
abbrev wsX50 : List Cond := u_ws RX5 TX5 8
theorem nmX5 : ∀ a, a < 8 → ∀ b, b < 8 → a ≠ b → (TX5 a).2.1 ≠ (TX5 b).2.1 := by decide +kernel
theorem tyX5_ok : ∀ k, k < 8 → parseFieldDescriptor (TX5 k).2.2.1 = some (tyX5 k) := by decide +kernel
abbrev cX5_init : ByteArray := prog_1_method_1_code
def yX5_init : MethodName := ⟨RX5, "<init>", "()V"⟩
abbrev cX5_token : ByteArray := prog_1_method_2_code
def yX5_token : MethodName := ⟨RX5, "token", "(I)I"⟩
abbrev cX5_glue : ByteArray := prog_1_method_3_code
def yX5_glue : MethodName := ⟨RX5, "glue", "(JJIJI)V"⟩
abbrev cX5_set : ByteArray := prog_1_method_4_code
def yX5_set : MethodName := ⟨RX5, "set", "(IIJZ)I"⟩
abbrev cX5_get : ByteArray := prog_1_method_5_code
def yX5_get : MethodName := ⟨RX5, "get", "(II)J"⟩
abbrev cX5_part : ByteArray := prog_1_method_6_code
def yX5_part : MethodName := ⟨RX5, "part", "(II)J"⟩
abbrev cX5_at : ByteArray := prog_1_method_7_code
def yX5_at : MethodName := ⟨RX5, "at", "(II)I"⟩
abbrev cX5_add : ByteArray := prog_1_method_8_code
def yX5_add : MethodName := ⟨RX5, "add", "(IIJZ)I"⟩
abbrev cX5_multiply : ByteArray := prog_1_method_9_code
def yX5_multiply : MethodName := ⟨RX5, "multiply", "(IIJZ)I"⟩
abbrev cX5_divide : ByteArray := prog_1_method_10_code
def yX5_divide : MethodName := ⟨RX5, "divide", "(IIJZ)I"⟩
abbrev cX5_take : ByteArray := prog_1_method_11_code
def yX5_take : MethodName := ⟨RX5, "take", "(I)I"⟩
abbrev cX5_group : ByteArray := prog_1_method_12_code
def yX5_group : MethodName := ⟨RX5, "group", "()I"⟩
abbrev cX5_after : ByteArray := prog_1_method_13_code
def yX5_after : MethodName := ⟨RX5, "after", "(I)I"⟩
abbrev cX5_end : ByteArray := prog_1_method_14_code
def yX5_end : MethodName := ⟨RX5, "end", "()I"⟩
abbrev cX5_restored : ByteArray := prog_1_method_15_code
def yX5_restored : MethodName := ⟨RX5, "restored", "(II)I"⟩
abbrev cX5_behind : ByteArray := prog_1_method_16_code
def yX5_behind : MethodName := ⟨RX5, "behind", "(I)I"⟩
abbrev cX5_scaled : ByteArray := prog_1_method_17_code
def yX5_scaled : MethodName := ⟨RX5, "scaled", "(III)J"⟩
abbrev cX5_fraction : ByteArray := prog_1_method_18_code
def yX5_fraction : MethodName := ⟨RX5, "fraction", "(II)I"⟩
abbrev cX5_shown : ByteArray := prog_1_method_19_code
def yX5_shown : MethodName := ⟨RX5, "shown", "(III)I"⟩
abbrev cX5_told : ByteArray := prog_1_method_20_code
def yX5_told : MethodName := ⟨RX5, "told", "(II)I"⟩
abbrev cX5_within : ByteArray := prog_1_method_21_code
def yX5_within : MethodName := ⟨RX5, "within", "(JJJ)Z"⟩
abbrev cX5_isCount : ByteArray := prog_1_method_22_code
def yX5_isCount : MethodName := ⟨RX5, "isCount", "(J)Z"⟩
abbrev cX5_isLength : ByteArray := prog_1_method_23_code
def yX5_isLength : MethodName := ⟨RX5, "isLength", "(J)Z"⟩
abbrev cX5_checkKind : ByteArray := prog_1_method_24_code
def yX5_checkKind : MethodName := ⟨RX5, "checkKind", "(II)V"⟩
abbrev cX5_checkRegister : ByteArray := prog_1_method_25_code
def yX5_checkRegister : MethodName := ⟨RX5, "checkRegister", "(J)V"⟩
abbrev cX5_checkToken : ByteArray := prog_1_method_26_code
def yX5_checkToken : MethodName := ⟨RX5, "checkToken", "(I)V"⟩
abbrev cX5_makeGiven : ByteArray := prog_1_method_27_code
def yX5_makeGiven : MethodName := ⟨RX5, "makeGiven", "(IJ)V"⟩
abbrev cX5_madeFits : ByteArray := prog_1_method_28_code
def yX5_madeFits : MethodName := ⟨RX5, "madeFits", "(I)Z"⟩
abbrev cX5_putMade : ByteArray := prog_1_method_29_code
def yX5_putMade : MethodName := ⟨RX5, "putMade", "(IIZ)I"⟩
abbrev cX5_addGlue : ByteArray := prog_1_method_30_code
def yX5_addGlue : MethodName := ⟨RX5, "addGlue", "(I)V"⟩
abbrev cX5_addFlexible : ByteArray := prog_1_method_31_code
def yX5_addFlexible : MethodName := ⟨RX5, "addFlexible", "(IJJ)V"⟩
abbrev cX5_giveBackKept : ByteArray := prog_1_method_32_code
def yX5_giveBackKept : MethodName := ⟨RX5, "giveBackKept", "(I)V"⟩
abbrev cX5_inPoints : ByteArray := prog_1_method_33_code
def yX5_inPoints : MethodName := ⟨RX5, "inPoints", "(JJJJ)J"⟩
abbrev cX5_writeRegister : ByteArray := prog_1_method_34_code
def yX5_writeRegister : MethodName := ⟨RX5, "writeRegister", "(II)V"⟩
abbrev cX5_writeGlue : ByteArray := prog_1_method_35_code
def yX5_writeGlue : MethodName := ⟨RX5, "writeGlue", "(I)V"⟩
abbrev cX5_writeFlexible : ByteArray := prog_1_method_36_code
def yX5_writeFlexible : MethodName := ⟨RX5, "writeFlexible", "(Ljava/lang/String;I)V"⟩
abbrev cX5_orderName : ByteArray := prog_1_method_37_code
def yX5_orderName : MethodName := ⟨RX5, "orderName", "(J)Ljava/lang/String;"⟩
abbrev cX5_writeRow : ByteArray := prog_1_method_38_code
def yX5_writeRow : MethodName := ⟨RX5, "writeRow", "(I)V"⟩
def RX6 : String := "RegisterRowsModel"
def TX6 : u_T := fun k => match k with
  | 0 => ("RegisterRowsModel", "thrown", "I", false)
  | 1 => ("RegisterRowsModel", "cells", "[J", true)
  | 2 => ("RegisterRowsModel", "levels", "[I", true)
  | 3 => ("RegisterRowsModel", "depth", "I", false)
  | 4 => ("RegisterRowsModel", "kept", "I", false)
  | 5 => ("RegisterRowsModel", "keptCells", "[J", true)
  | 6 => ("RegisterRowsModel", "keptOf", "[I", true)
  | 7 => ("RegisterRowsModel", "keptLevel", "[I", true)
  | 8 => ("RegisterRowsModel", "keptDepth", "[I", true)
  | 9 => ("RegisterRowsModel", "waitingGlue", "[J", true)
  | 10 => ("RegisterRowsModel", "waitingRow", "[J", true)
  | 11 => ("RegisterRowsModel", "value", "[J", true)
  | 12 => ("RegisterRowsModel", "told", "I", false)
  | 13 => ("RegisterRowsModel", "toldToken", "[I", true)
  | 14 => ("RegisterRowsModel", "toldDepth", "[I", true)
  | 15 => ("RegisterRowsModel", "gone", "I", false)
  | 16 => ("RegisterRowsModel", "goneOf", "[I", true)
  | 17 => ("RegisterRowsModel", "goneAgain", "[I", true)
  | 18 => ("RegisterRowsModel", "behind", "I", false)
  | 19 => ("RegisterRowsModel", "behindToken", "[I", true)
  | 20 => ("RegisterRowsModel", "size", "I", false)
  | 21 => ("RegisterRowsModel", "text", "[I", true)
  | 22 => ("RegisterRowsModel", "backSize", "I", false)
  | _ => ("RegisterRowsModel", "back", "[I", true)
def tyX6 : Nat → FieldType := fun k => match k with
  | 0 => .int
  | 1 => .array .long
  | 2 => .array .int
  | 3 => .int
  | 4 => .int
  | 5 => .array .long
  | 6 => .array .int
  | 7 => .array .int
  | 8 => .array .int
  | 9 => .array .long
  | 10 => .array .long
  | 11 => .array .long
  | 12 => .int
  | 13 => .array .int
  | 14 => .array .int
  | 15 => .int
  | 16 => .array .int
  | 17 => .array .int
  | 18 => .int
  | 19 => .array .int
  | 20 => .int
  | 21 => .array .int
  | 22 => .int
  | _ => .array .int
abbrev wsX60 : List Cond := u_ws RX6 TX6 24
theorem nmX6 : ∀ a, a < 24 → ∀ b, b < 24 → a ≠ b → (TX6 a).2.1 ≠ (TX6 b).2.1 := by decide +kernel
theorem tyX6_ok : ∀ k, k < 24 → parseFieldDescriptor (TX6 k).2.2.1 = some (tyX6 k) := by decide +kernel
abbrev cX6_init : ByteArray := prog_8_method_1_code
def yX6_init : MethodName := ⟨RX6, "<init>", "()V"⟩
abbrev cX6_thrown : ByteArray := prog_8_method_2_code
def yX6_thrown : MethodName := ⟨RX6, "thrown", "()I"⟩
abbrev cX6_in : ByteArray := prog_8_method_3_code
def yX6_in : MethodName := ⟨RX6, "in", "(JJJ)Z"⟩
abbrev cX6_isKind : ByteArray := prog_8_method_4_code
def yX6_isKind : MethodName := ⟨RX6, "isKind", "(I)Z"⟩
abbrev cX6_isRegister : ByteArray := prog_8_method_5_code
def yX6_isRegister : MethodName := ⟨RX6, "isRegister", "(I)Z"⟩
abbrev cX6_isLength : ByteArray := prog_8_method_6_code
def yX6_isLength : MethodName := ⟨RX6, "isLength", "(J)Z"⟩
abbrev cX6_token : ByteArray := prog_8_method_7_code
def yX6_token : MethodName := ⟨RX6, "token", "(I)I"⟩
abbrev cX6_glue : ByteArray := prog_8_method_8_code
def yX6_glue : MethodName := ⟨RX6, "glue", "(JJIJI)V"⟩
abbrev cX6_isWithin : ByteArray := prog_8_method_9_code
def yX6_isWithin : MethodName := ⟨RX6, "isWithin", "(I)Z"⟩
abbrev cX6_isFull : ByteArray := prog_8_method_10_code
def yX6_isFull : MethodName := ⟨RX6, "isFull", "(IZ)Z"⟩
abbrev cX6_put : ByteArray := prog_8_method_11_code
def yX6_put : MethodName := ⟨RX6, "put", "(IZ)V"⟩
abbrev cX6_finish : ByteArray := prog_8_method_12_code
def yX6_finish : MethodName := ⟨RX6, "finish", "(IIZI)I"⟩
abbrev cX6_fetch : ByteArray := prog_8_method_13_code
def yX6_fetch : MethodName := ⟨RX6, "fetch", "(II)V"⟩
abbrev cX6_set : ByteArray := prog_8_method_14_code
def yX6_set : MethodName := ⟨RX6, "set", "(IIJZ)I"⟩
abbrev cX6_addPart : ByteArray := prog_8_method_15_code
def yX6_addPart : MethodName := ⟨RX6, "addPart", "(II)V"⟩
abbrev cX6_add : ByteArray := prog_8_method_16_code
def yX6_add : MethodName := ⟨RX6, "add", "(IIJZ)I"⟩
abbrev cX6_scale : ByteArray := prog_8_method_17_code
def yX6_scale : MethodName := ⟨RX6, "scale", "(IJZ)V"⟩
abbrev cX6_multiply : ByteArray := prog_8_method_18_code
def yX6_multiply : MethodName := ⟨RX6, "multiply", "(IIJZ)I"⟩
abbrev cX6_divide : ByteArray := prog_8_method_19_code
def yX6_divide : MethodName := ⟨RX6, "divide", "(IIJZ)I"⟩
abbrev cX6_take : ByteArray := prog_8_method_20_code
def yX6_take : MethodName := ⟨RX6, "take", "(I)I"⟩
abbrev cX6_group : ByteArray := prog_8_method_21_code
def yX6_group : MethodName := ⟨RX6, "group", "()I"⟩
abbrev cX6_after : ByteArray := prog_8_method_22_code
def yX6_after : MethodName := ⟨RX6, "after", "(I)I"⟩
abbrev cX6_end : ByteArray := prog_8_method_23_code
def yX6_end : MethodName := ⟨RX6, "end", "()I"⟩
abbrev cX6_restored : ByteArray := prog_8_method_24_code
def yX6_restored : MethodName := ⟨RX6, "restored", "(II)I"⟩
abbrev cX6_behind : ByteArray := prog_8_method_25_code
def yX6_behind : MethodName := ⟨RX6, "behind", "(I)I"⟩
abbrev cX6_get : ByteArray := prog_8_method_26_code
def yX6_get : MethodName := ⟨RX6, "get", "(II)J"⟩
abbrev cX6_part : ByteArray := prog_8_method_27_code
def yX6_part : MethodName := ⟨RX6, "part", "(II)J"⟩
abbrev cX6_at : ByteArray := prog_8_method_28_code
def yX6_at : MethodName := ⟨RX6, "at", "(II)I"⟩
abbrev cX6_told : ByteArray := prog_8_method_29_code
def yX6_told : MethodName := ⟨RX6, "told", "(II)I"⟩
abbrev cX6_upOf : ByteArray := prog_8_method_30_code
def yX6_upOf : MethodName := ⟨RX6, "upOf", "(I)J"⟩
abbrev cX6_lowOf : ByteArray := prog_8_method_31_code
def yX6_lowOf : MethodName := ⟨RX6, "lowOf", "(I)J"⟩
abbrev cX6_scaled : ByteArray := prog_8_method_32_code
def yX6_scaled : MethodName := ⟨RX6, "scaled", "(III)J"⟩
abbrev cX6_fraction : ByteArray := prog_8_method_33_code
def yX6_fraction : MethodName := ⟨RX6, "fraction", "(II)I"⟩
abbrev cX6_say : ByteArray := prog_8_method_34_code
def yX6_say : MethodName := ⟨RX6, "say", "(I)V"⟩
abbrev cX6_sayNumber : ByteArray := prog_8_method_35_code
def yX6_sayNumber : MethodName := ⟨RX6, "sayNumber", "(J)V"⟩
abbrev cX6_sayLength : ByteArray := prog_8_method_36_code
def yX6_sayLength : MethodName := ⟨RX6, "sayLength", "(J)V"⟩
abbrev cX6_sayOrder : ByteArray := prog_8_method_37_code
def yX6_sayOrder : MethodName := ⟨RX6, "sayOrder", "(J)V"⟩
abbrev cX6_sayWord : ByteArray := prog_8_method_38_code
def yX6_sayWord : MethodName := ⟨RX6, "sayWord", "(Z)V"⟩
abbrev cX6_sayGlue : ByteArray := prog_8_method_39_code
def yX6_sayGlue : MethodName := ⟨RX6, "sayGlue", "(I)V"⟩
abbrev cX6_sayVoid : ByteArray := prog_8_method_40_code
def yX6_sayVoid : MethodName := ⟨RX6, "sayVoid", "()V"⟩
abbrev cX6_shown : ByteArray := prog_8_method_41_code
def yX6_shown : MethodName := ⟨RX6, "shown", "(III)I"⟩
def RJx00060 : String := "java/lang/ArrayIndexOutOfBoundsException"
def TJx00060 : u_T := fun k => match k with
  | 0 => ("java/lang/Throwable", "backtrace", "Ljava/lang/Object;", false)
  | 1 => ("java/lang/Throwable", "detailMessage", "Ljava/lang/String;", false)
  | 2 => ("java/lang/Throwable", "cause", "Ljava/lang/Throwable;", false)
  | 3 => ("java/lang/Throwable", "stackTrace", "[Ljava/lang/StackTraceElement;", false)
  | 4 => ("java/lang/Throwable", "depth", "I", false)
  | _ => ("java/lang/Throwable", "suppressedExceptions", "Ljava/util/List;", false)
def tyJx00060 : Nat → FieldType := fun k => match k with
  | 0 => .object "java/lang/Object"
  | 1 => .object "java/lang/String"
  | 2 => .object "java/lang/Throwable"
  | 3 => .array (.object "java/lang/StackTraceElement")
  | 4 => .int
  | _ => .object "java/util/List"
abbrev wsJx000600 : List Cond := u_ws RJx00060 TJx00060 6
theorem nmJx00060 : ∀ a, a < 6 → ∀ b, b < 6 → a ≠ b → (TJx00060 a).2.1 ≠ (TJx00060 b).2.1 := by decide +kernel
theorem tyJx00060_ok : ∀ k, k < 6 → parseFieldDescriptor (TJx00060 k).2.2.1 = some (tyJx00060 k) := by decide +kernel
abbrev cJx00060_init_a7421 : ByteArray := prog_10_method_2_code
def yJx00060_init_a7421 : MethodName := ⟨RJx00060, "<init>", "(Ljava/lang/String;)V"⟩
def RJ0 : String := "java/lang/String"
def TJ0 : u_T := fun k => match k with
  | 0 => ("java/lang/String", "value", "[B", true)
  | _ => ("java/lang/String", "coder", "B", true)
def tyJ0 : Nat → FieldType := fun k => match k with
  | 0 => .array .byte
  | _ => .byte
abbrev wsJ00 : List Cond := u_ws RJ0 TJ0 2
theorem nmJ0 : ∀ a, a < 2 → ∀ b, b < 2 → a ≠ b → (TJ0 a).2.1 ≠ (TJ0 b).2.1 := by decide +kernel
theorem tyJ0_ok : ∀ k, k < 2 → parseFieldDescriptor (TJ0 k).2.2.1 = some (tyJ0 k) := by decide +kernel
abbrev cJ0_length_8abf5 : ByteArray := prog_16_method_54_code
def yJ0_length_8abf5 : MethodName := ⟨RJ0, "length", "()I"⟩
abbrev cJ0_charAt_5068e : ByteArray := prog_16_method_56_code
def yJ0_charAt_5068e : MethodName := ⟨RJ0, "charAt", "(I)C"⟩
abbrev cJ0_coder_7d493 : ByteArray := prog_16_method_152_code
def yJ0_coder_7d493 : MethodName := ⟨RJ0, "coder", "()B"⟩
abbrev cJ0_isLatin1_aae02 : ByteArray := prog_16_method_154_code
def yJ0_isLatin1_aae02 : MethodName := ⟨RJ0, "isLatin1", "()Z"⟩
abbrev cJ0_checkIndex_df160 : ByteArray := prog_16_method_155_code
def yJ0_checkIndex_df160 : MethodName := ⟨RJ0, "checkIndex", "(II)V"⟩
def RJ1 : String := "java/lang/StringLatin1"
def TJ1 : u_T := fun k => match k with
  | _ => ("", "", "", false)
def tyJ1 : Nat → FieldType := fun k => match k with
  | _ => .int
abbrev wsJ10 : List Cond := u_ws RJ1 TJ1 0
theorem nmJ1 : ∀ a, a < 0 → ∀ b, b < 0 → a ≠ b → (TJ1 a).2.1 ≠ (TJ1 b).2.1 := by decide +kernel
theorem tyJ1_ok : ∀ k, k < 0 → parseFieldDescriptor (TJ1 k).2.2.1 = some (tyJ1 k) := by decide +kernel
abbrev cJ1_charAt_3b067 : ByteArray := prog_17_method_2_code
def yJ1_charAt_3b067 : MethodName := ⟨RJ1, "charAt", "([BI)C"⟩
def RJ2 : String := "java/lang/StringUTF16"
def TJ2 : u_T := fun k => match k with
  | _ => ("", "", "", false)
def tyJ2 : Nat → FieldType := fun k => match k with
  | _ => .int
abbrev wsJ20 : List Cond := u_ws RJ2 TJ2 0
theorem nmJ2 : ∀ a, a < 0 → ∀ b, b < 0 → a ≠ b → (TJ2 a).2.1 ≠ (TJ2 b).2.1 := by decide +kernel
theorem tyJ2_ok : ∀ k, k < 0 → parseFieldDescriptor (TJ2 k).2.2.1 = some (tyJ2 k) := by decide +kernel
abbrev cJ2_getChar_3b067 : ByteArray := prog_18_method_5_code
def yJ2_getChar_3b067 : MethodName := ⟨RJ2, "getChar", "([BI)C"⟩
abbrev cJ2_length_9d52b : ByteArray := prog_18_method_6_code
def yJ2_length_9d52b : MethodName := ⟨RJ2, "length", "([B)I"⟩
abbrev cJ2_charAt_3b067 : ByteArray := prog_18_method_83_code
def yJ2_charAt_3b067 : MethodName := ⟨RJ2, "charAt", "([BI)C"⟩
abbrev cJ2_checkIndex_2214a : ByteArray := prog_18_method_91_code
def yJ2_checkIndex_2214a : MethodName := ⟨RJ2, "checkIndex", "(I[B)V"⟩
def RJ10 : String := "java/lang/System"
def TJ10 : u_T := fun k => match k with
  | _ => ("", "", "", false)
def tyJ10 : Nat → FieldType := fun k => match k with
  | _ => .int
abbrev wsJ100 : List Cond := u_ws RJ10 TJ10 0
theorem nmJ10 : ∀ a, a < 0 → ∀ b, b < 0 → a ≠ b → (TJ10 a).2.1 ≠ (TJ10 b).2.1 := by decide +kernel
theorem tyJ10_ok : ∀ k, k < 0 → parseFieldDescriptor (TJ10 k).2.2.1 = some (tyJ10 k) := by decide +kernel
def RJ3 : String := "jdk/internal/util/Preconditions"
def TJ3 : u_T := fun k => match k with
  | _ => ("", "", "", false)
def tyJ3 : Nat → FieldType := fun k => match k with
  | _ => .int
abbrev wsJ30 : List Cond := u_ws RJ3 TJ3 0
theorem nmJ3 : ∀ a, a < 0 → ∀ b, b < 0 → a ≠ b → (TJ3 a).2.1 ≠ (TJ3 b).2.1 := by decide +kernel
theorem tyJ3_ok : ∀ k, k < 0 → parseFieldDescriptor (TJ3 k).2.2.1 = some (tyJ3 k) := by decide +kernel
abbrev cJ3_checkIndex_8e157 : ByteArray := prog_22_method_11_code
def yJ3_checkIndex_8e157 : MethodName := ⟨RJ3, "checkIndex", "(IILjava/util/function/BiFunction;)I"⟩
def RL : String := "RegisterRowsLaw"
abbrev cL_token : ByteArray := method_3_code
def yL_token : MethodName := ⟨RL, "token", "(LRegisterRows;I[J)I"⟩
abbrev cL_glue : ByteArray := method_4_code
def yL_glue : MethodName := ⟨RL, "glue", "(LRegisterRows;JJIJI)I"⟩
abbrev cL_set : ByteArray := method_5_code
def yL_set : MethodName := ⟨RL, "set", "(LRegisterRows;IIJZ[J)I"⟩
abbrev cL_get : ByteArray := method_6_code
def yL_get : MethodName := ⟨RL, "get", "(LRegisterRows;II[J)I"⟩
abbrev cL_part : ByteArray := method_7_code
def yL_part : MethodName := ⟨RL, "part", "(LRegisterRows;II[J)I"⟩
abbrev cL_at : ByteArray := method_8_code
def yL_at : MethodName := ⟨RL, "at", "(LRegisterRows;II[J)I"⟩
abbrev cL_add : ByteArray := method_9_code
def yL_add : MethodName := ⟨RL, "add", "(LRegisterRows;IIJZ[J)I"⟩
abbrev cL_multiply : ByteArray := method_10_code
def yL_multiply : MethodName := ⟨RL, "multiply", "(LRegisterRows;IIJZ[J)I"⟩
abbrev cL_divide : ByteArray := method_11_code
def yL_divide : MethodName := ⟨RL, "divide", "(LRegisterRows;IIJZ[J)I"⟩
abbrev cL_take : ByteArray := method_12_code
def yL_take : MethodName := ⟨RL, "take", "(LRegisterRows;I[J)I"⟩
abbrev cL_group : ByteArray := method_13_code
def yL_group : MethodName := ⟨RL, "group", "(LRegisterRows;[J)I"⟩
abbrev cL_after : ByteArray := method_14_code
def yL_after : MethodName := ⟨RL, "after", "(LRegisterRows;I[J)I"⟩
abbrev cL_end : ByteArray := method_15_code
def yL_end : MethodName := ⟨RL, "end", "(LRegisterRows;[J)I"⟩
abbrev cL_restored : ByteArray := method_16_code
def yL_restored : MethodName := ⟨RL, "restored", "(LRegisterRows;II[J)I"⟩
abbrev cL_scaled : ByteArray := method_17_code
def yL_scaled : MethodName := ⟨RL, "scaled", "(LRegisterRows;III[J)I"⟩
abbrev cL_fraction : ByteArray := method_18_code
def yL_fraction : MethodName := ⟨RL, "fraction", "(LRegisterRows;II[J)I"⟩
abbrev cL_shown : ByteArray := method_19_code
def yL_shown : MethodName := ⟨RL, "shown", "(LRegisterRows;III[J)I"⟩
abbrev cL_told : ByteArray := method_20_code
def yL_told : MethodName := ⟨RL, "told", "(LRegisterRows;II[J)I"⟩
abbrev cL_law : ByteArray := code
def yL_law : MethodName := ⟨RL, "law", "([I)Z"⟩
abbrev vwCl : List vw_C := [(RJ0, TJ0, 2), (RJx00060, TJx00060, 6), (RX0, TX0, 2), (RX1, TX1, 7), (RX2, TX2, 5), (RX3, TX3, 5), (RX4, TX4, 2), (RX5, TX5, 8), (RX6, TX6, 24)]
def bW_0 : List Cond := [Cond.initialized RL, Cond.initialized RX5, Cond.initialized RX0, Cond.initialized RX3, Cond.initialized RX2, Cond.initialized RX1, Cond.initialized RX4, Cond.initialized RX6, Cond.initialized "java/lang/Throwable", Cond.initialized "java/lang/Exception", Cond.initialized "java/lang/RuntimeException", Cond.initialized "java/lang/IllegalArgumentException", Cond.initialized "java/lang/IndexOutOfBoundsException", Cond.initialized RJx00060, Cond.initialized RJ0, Cond.initialized RJ10, Cond.initialized "java/lang/UnsupportedOperationException", Cond.initialized "java/lang/ArithmeticException", Cond.initialized "java/lang/IllegalStateException", Cond.initialized RJ1, Cond.initialized RJ3, Cond.initialized RJ2, Cond.classLink RL 8 RX5, Cond.instantiable RX5 8]
def bW_1 : List Cond := [Cond.methodLink RL 81 yX5_init, Cond.instanceMethod yX5_init, Cond.code yX5_init cX5_init 1 none, Cond.methodLink RX5 1 ⟨"java/lang/Object", "<init>", "()V"⟩, Cond.instanceMethod ⟨"java/lang/Object", "<init>", "()V"⟩, Cond.code ⟨"java/lang/Object", "<init>", "()V"⟩ object_method_1_code 1 none, Cond.classLink RX5 7 RX0, Cond.instantiable RX0 2, Cond.methodLink RX5 9 yX0_init, Cond.instanceMethod yX0_init, Cond.code yX0_init cX0_init 2 none, Cond.methodLink RX0 3 ⟨"java/lang/Object", "<init>", "()V"⟩, Cond.methodLink RX0 19 yX0_home, Cond.static yX0_home, Cond.code yX0_home cX0_home 2 (some (.int)), Cond.constantLong RX0 23 (-1), Cond.fieldLink RX0 9 "RegisterRows$Bank" "cells" "[J", Cond.fieldLink RX3 36 "RegisterRows$Bank" "cells" "[J", Cond.fieldLink RX5 99 "RegisterRows$Bank" "cells" "[J", Cond.fieldLink RX0 15 "RegisterRows$Bank" "levels" "[I", Cond.fieldLink RX3 29 "RegisterRows$Bank" "levels" "[I", Cond.fieldLink RX5 246 "RegisterRows$Bank" "levels" "[I", Cond.laysFinal RX0 "RegisterRows$Bank" "cells" "[J", Cond.laysFinal RX0 "RegisterRows$Bank" "levels" "[I"]
def bW_2 : List Cond := [Cond.superclass RX0 "java/lang/Object", Cond.arrayClass .long, Cond.arrayClass .int, Cond.classLink RX5 16 RX3, Cond.instantiable RX3 5, Cond.instanceMethod yX3_init, Cond.code yX3_init cX3_init 1 none, Cond.methodLink RX3 3 ⟨"java/lang/Object", "<init>", "()V"⟩, Cond.fieldLink RX3 9 "RegisterRows$Pile" "kinds" "[I", Cond.fieldLink RX5 292 "RegisterRows$Pile" "kinds" "[I", Cond.fieldLink RX3 15 "RegisterRows$Pile" "registers" "[I", Cond.fieldLink RX5 293 "RegisterRows$Pile" "registers" "[I", Cond.fieldLink RX3 18 "RegisterRows$Pile" "levels" "[I", Cond.fieldLink RX5 295 "RegisterRows$Pile" "levels" "[I", Cond.fieldLink RX3 21 "RegisterRows$Pile" "cells" "[J", Cond.fieldLink RX5 294 "RegisterRows$Pile" "cells" "[J", Cond.fieldLink RX3 25 "RegisterRows$Pile" "many" "I", Cond.fieldLink RX5 143 "RegisterRows$Pile" "many" "I", Cond.laysFinal RX3 "RegisterRows$Pile" "kinds" "[I", Cond.laysFinal RX3 "RegisterRows$Pile" "registers" "[I", Cond.laysFinal RX3 "RegisterRows$Pile" "levels" "[I", Cond.laysFinal RX3 "RegisterRows$Pile" "cells" "[J", Cond.lays RX3 "RegisterRows$Pile" "many" "I", Cond.superclass RX3 "java/lang/Object"]
def bW_3 : List Cond := [Cond.classLink RX5 23 RX2, Cond.instantiable RX2 5, Cond.instanceMethod yX2_init, Cond.code yX2_init cX2_init 1 none, Cond.methodLink RX2 3 ⟨"java/lang/Object", "<init>", "()V"⟩, Cond.fieldLink RX2 9 "RegisterRows$Groups" "firstsKept" "[I", Cond.fieldLink RX2 15 "RegisterRows$Groups" "firstTokens" "[I", Cond.fieldLink RX2 18 "RegisterRows$Groups" "tokens" "[I", Cond.fieldLink RX1 41 "RegisterRows$Groups" "tokens" "[I", Cond.fieldLink RX2 21 "RegisterRows$Groups" "depth" "I", Cond.fieldLink RX5 134 "RegisterRows$Groups" "depth" "I", Cond.fieldLink RX2 25 "RegisterRows$Groups" "many" "I", Cond.fieldLink RX1 40 "RegisterRows$Groups" "many" "I", Cond.fieldLink RX5 154 "RegisterRows$Groups" "many" "I", Cond.laysFinal RX2 "RegisterRows$Groups" "firstsKept" "[I", Cond.laysFinal RX2 "RegisterRows$Groups" "firstTokens" "[I", Cond.laysFinal RX2 "RegisterRows$Groups" "tokens" "[I", Cond.lays RX2 "RegisterRows$Groups" "depth" "I", Cond.lays RX2 "RegisterRows$Groups" "many" "I", Cond.superclass RX2 "java/lang/Object", Cond.classLink RX5 30 RX1, Cond.instantiable RX1 7, Cond.instanceMethod yX1_init, Cond.code yX1_init cX1_init 1 none]
def bW_4 : List Cond := [Cond.methodLink RX1 3 ⟨"java/lang/Object", "<init>", "()V"⟩, Cond.fieldLink RX1 9 "RegisterRows$Ended" "kinds" "[I", Cond.fieldLink RX5 188 "RegisterRows$Ended" "kinds" "[I", Cond.fieldLink RX1 15 "RegisterRows$Ended" "registers" "[I", Cond.fieldLink RX5 192 "RegisterRows$Ended" "registers" "[I", Cond.fieldLink RX1 18 "RegisterRows$Ended" "again" "[I", Cond.fieldLink RX5 195 "RegisterRows$Ended" "again" "[I", Cond.fieldLink RX1 21 "RegisterRows$Ended" "tokens" "[I", Cond.fieldLink RX5 201 "RegisterRows$Ended" "tokens" "[I", Cond.fieldLink RX1 24 "RegisterRows$Ended" "many" "I", Cond.fieldLink RX5 183 "RegisterRows$Ended" "many" "I", Cond.fieldLink RX1 28 "RegisterRows$Ended" "back" "I", Cond.fieldLink RX5 180 "RegisterRows$Ended" "back" "I", Cond.fieldLink RX1 31 "RegisterRows$Ended" "manyTokens" "I", Cond.fieldLink RX5 198 "RegisterRows$Ended" "manyTokens" "I", Cond.laysFinal RX1 "RegisterRows$Ended" "kinds" "[I", Cond.laysFinal RX1 "RegisterRows$Ended" "registers" "[I", Cond.laysFinal RX1 "RegisterRows$Ended" "again" "[I", Cond.laysFinal RX1 "RegisterRows$Ended" "tokens" "[I", Cond.lays RX1 "RegisterRows$Ended" "many" "I", Cond.lays RX1 "RegisterRows$Ended" "back" "I", Cond.lays RX1 "RegisterRows$Ended" "manyTokens" "I", Cond.superclass RX1 "java/lang/Object", Cond.classLink RX5 37 RX4]
def bW_5 : List Cond := [Cond.instantiable RX4 2, Cond.instanceMethod yX4_init, Cond.code yX4_init cX4_init 1 none, Cond.methodLink RX4 3 ⟨"java/lang/Object", "<init>", "()V"⟩, Cond.fieldLink RX4 9 "RegisterRows$Signs" "signs" "[I", Cond.fieldLink RX4 15 "RegisterRows$Signs" "many" "I", Cond.laysFinal RX4 "RegisterRows$Signs" "signs" "[I", Cond.lays RX4 "RegisterRows$Signs" "many" "I", Cond.superclass RX4 "java/lang/Object", Cond.fieldLink RX5 10 "RegisterRows" "bank" "LRegisterRows$Bank;", Cond.fieldLink RX5 19 "RegisterRows" "pile" "LRegisterRows$Pile;", Cond.fieldLink RX5 26 "RegisterRows" "groups" "LRegisterRows$Groups;", Cond.fieldLink RX5 33 "RegisterRows" "ended" "LRegisterRows$Ended;", Cond.fieldLink RX5 40 "RegisterRows" "signs" "LRegisterRows$Signs;", Cond.fieldLink RX5 44 "RegisterRows" "glueThatWaits" "[J", Cond.fieldLink RX5 48 "RegisterRows" "rowThatWaits" "[J", Cond.fieldLink RX5 51 "RegisterRows" "made" "[J", Cond.laysFinal RX5 "RegisterRows" "bank" "LRegisterRows$Bank;", Cond.laysFinal RX5 "RegisterRows" "pile" "LRegisterRows$Pile;", Cond.laysFinal RX5 "RegisterRows" "groups" "LRegisterRows$Groups;", Cond.laysFinal RX5 "RegisterRows" "ended" "LRegisterRows$Ended;", Cond.laysFinal RX5 "RegisterRows" "signs" "LRegisterRows$Signs;", Cond.laysFinal RX5 "RegisterRows" "glueThatWaits" "[J", Cond.laysFinal RX5 "RegisterRows" "rowThatWaits" "[J"]
def bW_6 : List Cond := [Cond.laysFinal RX5 "RegisterRows" "made" "[J", Cond.superclass RX5 "java/lang/Object", Cond.methodLink RL 136 yX5_behind, Cond.instanceMethod yX5_behind, Cond.selects RX5 yX5_behind yX5_behind, Cond.code yX5_behind cX5_behind 2 (some (.int)), Cond.methodLink RL 85 yL_token, Cond.static yL_token, Cond.codeWith yL_token cL_token 4 (some (.int)) [(0, 9, 12, 13)], Cond.classLink RL 13 "java/lang/IllegalArgumentException", Cond.methodLink RL 7 yX5_token, Cond.instanceMethod yX5_token, Cond.selects RX5 yX5_token yX5_token, Cond.code yX5_token cX5_token 3 (some (.int)), Cond.methodLink RX5 54 yX5_checkToken, Cond.static yX5_checkToken, Cond.code yX5_checkToken cX5_checkToken 1 none, Cond.constantLong RX5 264 (255), Cond.methodLink RX5 71 yX5_within, Cond.static yX5_within, Cond.code yX5_within cX5_within 6 (some (.boolean)), Cond.classLink RX5 62 "java/lang/IllegalArgumentException", Cond.instantiable "java/lang/IllegalArgumentException" 6, Cond.selects "java/lang/IllegalArgumentException" ⟨"java/lang/Throwable", "fillInStackTrace", "(I)Ljava/lang/Throwable;"⟩ ⟨"java/lang/Throwable", "fillInStackTrace", "(I)Ljava/lang/Throwable;"⟩]
def bW_7 : List Cond := [Cond.selects "java/lang/IllegalArgumentException" ⟨"java/lang/Throwable", "fillInStackTrace", "()Ljava/lang/Throwable;"⟩ ⟨"java/lang/Throwable", "fillInStackTrace", "()Ljava/lang/Throwable;"⟩, Cond.lays "java/lang/IllegalArgumentException" "java/lang/Throwable" "cause" "Ljava/lang/Throwable;", Cond.lays "java/lang/Throwable" "java/lang/Throwable" "cause" "Ljava/lang/Throwable;", Cond.lays "java/lang/IllegalArgumentException" "java/lang/Throwable" "stackTrace" "[Ljava/lang/StackTraceElement;", Cond.lays "java/lang/Throwable" "java/lang/Throwable" "stackTrace" "[Ljava/lang/StackTraceElement;", Cond.lays "java/lang/IllegalArgumentException" "java/lang/Throwable" "suppressedExceptions" "Ljava/util/List;", Cond.lays "java/lang/Throwable" "java/lang/Throwable" "suppressedExceptions" "Ljava/util/List;", Cond.lays "java/lang/IllegalArgumentException" "java/lang/Throwable" "detailMessage" "Ljava/lang/String;", Cond.lays "java/lang/Throwable" "java/lang/Throwable" "detailMessage" "Ljava/lang/String;", Cond.lays "java/lang/IllegalArgumentException" "java/lang/Throwable" "backtrace" "Ljava/lang/Object;", Cond.lays "java/lang/Throwable" "java/lang/Throwable" "backtrace" "Ljava/lang/Object;", Cond.fieldLink "java/lang/Throwable" 198 "java/lang/Throwable" "backtrace" "Ljava/lang/Object;", Cond.superclass "java/lang/Throwable" "java/lang/Object", Cond.instanceMethod ⟨"java/lang/Throwable", "<init>", "()V"⟩, Cond.code ⟨"java/lang/Throwable", "<init>", "()V"⟩ prog_20_method_1_code 1 none, Cond.methodLink "java/lang/Throwable" 1 ⟨"java/lang/Object", "<init>", "()V"⟩, Cond.fieldLink "java/lang/Throwable" 13 "java/lang/Throwable" "UNASSIGNED_STACK" "[Ljava/lang/StackTraceElement;", Cond.fieldLink "java/lang/Throwable" 20 "java/lang/Throwable" "SUPPRESSED_SENTINEL" "Ljava/util/List;", Cond.methodLink "java/lang/Throwable" 27 ⟨"java/lang/Throwable", "fillInStackTrace", "()Ljava/lang/Throwable;"⟩, Cond.instanceMethod ⟨"java/lang/Throwable", "fillInStackTrace", "()Ljava/lang/Throwable;"⟩, Cond.sameMethod "java/lang/Throwable" "java/lang/Throwable" "fillInStackTrace" "()Ljava/lang/Throwable;", Cond.selects "java/lang/ArithmeticException" ⟨"java/lang/Throwable", "fillInStackTrace", "()Ljava/lang/Throwable;"⟩ ⟨"java/lang/Throwable", "fillInStackTrace", "()Ljava/lang/Throwable;"⟩, Cond.selects RJx00060 ⟨"java/lang/Throwable", "fillInStackTrace", "()Ljava/lang/Throwable;"⟩ ⟨"java/lang/Throwable", "fillInStackTrace", "()Ljava/lang/Throwable;"⟩, Cond.selects "java/lang/IllegalStateException" ⟨"java/lang/Throwable", "fillInStackTrace", "()Ljava/lang/Throwable;"⟩ ⟨"java/lang/Throwable", "fillInStackTrace", "()Ljava/lang/Throwable;"⟩]
def bW_8 : List Cond := [Cond.selects "java/lang/IndexOutOfBoundsException" ⟨"java/lang/Throwable", "fillInStackTrace", "()Ljava/lang/Throwable;"⟩ ⟨"java/lang/Throwable", "fillInStackTrace", "()Ljava/lang/Throwable;"⟩, Cond.selects "java/lang/UnsupportedOperationException" ⟨"java/lang/Throwable", "fillInStackTrace", "()Ljava/lang/Throwable;"⟩ ⟨"java/lang/Throwable", "fillInStackTrace", "()Ljava/lang/Throwable;"⟩, Cond.codeSync ⟨"java/lang/Throwable", "fillInStackTrace", "()Ljava/lang/Throwable;"⟩ prog_20_method_18_code 1 (some (.object "java/lang/Throwable")), Cond.methodLink "java/lang/Throwable" 202 ⟨"java/lang/Throwable", "fillInStackTrace", "(I)Ljava/lang/Throwable;"⟩, Cond.instanceMethod ⟨"java/lang/Throwable", "fillInStackTrace", "(I)Ljava/lang/Throwable;"⟩, Cond.instantiable "java/lang/Throwable" 6, Cond.native ⟨"java/lang/Throwable", "fillInStackTrace", "(I)Ljava/lang/Throwable;"⟩, Cond.methodLink RX5 66 ⟨"java/lang/IllegalArgumentException", "<init>", "(Ljava/lang/String;)V"⟩, Cond.instanceMethod ⟨"java/lang/IllegalArgumentException", "<init>", "(Ljava/lang/String;)V"⟩, Cond.code ⟨"java/lang/IllegalArgumentException", "<init>", "(Ljava/lang/String;)V"⟩ prog_12_method_2_code 2 none, Cond.methodLink "java/lang/IllegalArgumentException" 7 ⟨"java/lang/RuntimeException", "<init>", "(Ljava/lang/String;)V"⟩, Cond.instanceMethod ⟨"java/lang/RuntimeException", "<init>", "(Ljava/lang/String;)V"⟩, Cond.code ⟨"java/lang/RuntimeException", "<init>", "(Ljava/lang/String;)V"⟩ prog_15_method_2_code 2 none, Cond.methodLink "java/lang/RuntimeException" 7 ⟨"java/lang/Exception", "<init>", "(Ljava/lang/String;)V"⟩, Cond.instanceMethod ⟨"java/lang/Exception", "<init>", "(Ljava/lang/String;)V"⟩, Cond.code ⟨"java/lang/Exception", "<init>", "(Ljava/lang/String;)V"⟩ prog_11_method_2_code 2 none, Cond.methodLink "java/lang/Exception" 7 ⟨"java/lang/Throwable", "<init>", "(Ljava/lang/String;)V"⟩, Cond.instanceMethod ⟨"java/lang/Throwable", "<init>", "(Ljava/lang/String;)V"⟩, Cond.code ⟨"java/lang/Throwable", "<init>", "(Ljava/lang/String;)V"⟩ prog_20_method_2_code 2 none, Cond.fieldLink "java/lang/Throwable" 198 "java/lang/Throwable" "backtrace" "Ljava/lang/Object;", Cond.fieldLink "java/lang/Throwable" 31 "java/lang/Throwable" "detailMessage" "Ljava/lang/String;", Cond.fieldLink "java/lang/Throwable" 7 "java/lang/Throwable" "cause" "Ljava/lang/Throwable;", Cond.fieldLink "java/lang/Throwable" 17 "java/lang/Throwable" "stackTrace" "[Ljava/lang/StackTraceElement;", Cond.fieldLink "java/lang/Throwable" 24 "java/lang/Throwable" "suppressedExceptions" "Ljava/util/List;"]
def bW_9 : List Cond := [Cond.lays "java/lang/IllegalArgumentException" "java/lang/Throwable" "depth" "I", Cond.superclass "java/lang/IllegalArgumentException" "java/lang/RuntimeException", Cond.arrayClass .byte, Cond.methodLink RL 93 yL_glue, Cond.static yL_glue, Cond.codeWith yL_glue cL_glue 10 (some (.int)) [(0, 12, 15, 13)], Cond.methodLink RL 15 yX5_glue, Cond.instanceMethod yX5_glue, Cond.selects RX5 yX5_glue yX5_glue, Cond.code yX5_glue cX5_glue 9 none, Cond.methodLink RX5 58 yX5_isLength, Cond.static yX5_isLength, Cond.code yX5_isLength cX5_isLength 2 (some (.boolean)), Cond.constantLong RX5 256 (-1073741823), Cond.constantLong RX5 204 (1073741823), Cond.constantLong RX5 69 (3), Cond.methodLink RL 97 yL_set, Cond.static yL_set, Cond.codeWith yL_set cL_set 8 (some (.int)) [(0, 14, 17, 13), (0, 14, 21, 23), (0, 14, 25, 25)], Cond.classLink RL 23 "java/lang/IndexOutOfBoundsException", Cond.instantiable RJx00060 6, Cond.instanceMethod yJx00060_init_a7421, Cond.code yJx00060_init_a7421 cJx00060_init_a7421 2 none, Cond.methodLink RJx00060 7 ⟨"java/lang/IndexOutOfBoundsException", "<init>", "(Ljava/lang/String;)V"⟩]
def bW_10 : List Cond := [Cond.instanceMethod ⟨"java/lang/IndexOutOfBoundsException", "<init>", "(Ljava/lang/String;)V"⟩, Cond.code ⟨"java/lang/IndexOutOfBoundsException", "<init>", "(Ljava/lang/String;)V"⟩ prog_14_method_2_code 2 none, Cond.methodLink "java/lang/IndexOutOfBoundsException" 7 ⟨"java/lang/RuntimeException", "<init>", "(Ljava/lang/String;)V"⟩, Cond.lays RJx00060 "java/lang/Throwable" "backtrace" "Ljava/lang/Object;", Cond.lays RJx00060 "java/lang/Throwable" "detailMessage" "Ljava/lang/String;", Cond.lays RJx00060 "java/lang/Throwable" "cause" "Ljava/lang/Throwable;", Cond.lays RJx00060 "java/lang/Throwable" "stackTrace" "[Ljava/lang/StackTraceElement;", Cond.lays RJx00060 "java/lang/Throwable" "depth" "I", Cond.lays RJx00060 "java/lang/Throwable" "suppressedExceptions" "Ljava/util/List;", Cond.superclass RJx00060 "java/lang/IndexOutOfBoundsException", Cond.selects RJx00060 ⟨"java/lang/Throwable", "fillInStackTrace", "(I)Ljava/lang/Throwable;"⟩ ⟨"java/lang/Throwable", "fillInStackTrace", "(I)Ljava/lang/Throwable;"⟩, Cond.instantiable RJ0 4, Cond.laysFinal RJ0 "java/lang/String" "value" "[B", Cond.laysFinal RJ0 "java/lang/String" "coder" "B", Cond.classLink RL 25 "java/lang/UnsupportedOperationException", Cond.methodLink RL 19 yX5_set, Cond.instanceMethod yX5_set, Cond.selects RX5 yX5_set yX5_set, Cond.code yX5_set cX5_set 7 (some (.int)), Cond.methodLink RX5 77 yX5_checkKind, Cond.static yX5_checkKind, Cond.code yX5_checkKind cX5_checkKind 2 none, Cond.constantLong RX5 81 (-1), Cond.constantLong RX5 83 (999)]
def bW_11 : List Cond := [Cond.methodLink RX5 87 yX5_checkRegister, Cond.static yX5_checkRegister, Cond.code yX5_checkRegister cX5_checkRegister 2 none, Cond.constantLong RX5 260 (31), Cond.classLink RX5 108 "java/lang/IndexOutOfBoundsException", Cond.instantiable "java/lang/IndexOutOfBoundsException" 6, Cond.selects "java/lang/IndexOutOfBoundsException" ⟨"java/lang/Throwable", "fillInStackTrace", "(I)Ljava/lang/Throwable;"⟩ ⟨"java/lang/Throwable", "fillInStackTrace", "(I)Ljava/lang/Throwable;"⟩, Cond.lays "java/lang/IndexOutOfBoundsException" "java/lang/Throwable" "cause" "Ljava/lang/Throwable;", Cond.lays "java/lang/IndexOutOfBoundsException" "java/lang/Throwable" "stackTrace" "[Ljava/lang/StackTraceElement;", Cond.lays "java/lang/IndexOutOfBoundsException" "java/lang/Throwable" "suppressedExceptions" "Ljava/util/List;", Cond.lays "java/lang/IndexOutOfBoundsException" "java/lang/Throwable" "detailMessage" "Ljava/lang/String;", Cond.lays "java/lang/IndexOutOfBoundsException" "java/lang/Throwable" "backtrace" "Ljava/lang/Object;", Cond.methodLink RX5 112 ⟨"java/lang/IndexOutOfBoundsException", "<init>", "(Ljava/lang/String;)V"⟩, Cond.lays "java/lang/IndexOutOfBoundsException" "java/lang/Throwable" "depth" "I", Cond.superclass "java/lang/IndexOutOfBoundsException" "java/lang/RuntimeException", Cond.methodLink RX5 91 yX5_makeGiven, Cond.instanceMethod yX5_makeGiven, Cond.code yX5_makeGiven cX5_makeGiven 4 none, Cond.methodLink RX5 268 ⟨"java/lang/System", "arraycopy", "(Ljava/lang/Object;ILjava/lang/Object;II)V"⟩, Cond.static ⟨"java/lang/System", "arraycopy", "(Ljava/lang/Object;ILjava/lang/Object;II)V"⟩, Cond.native ⟨"java/lang/System", "arraycopy", "(Ljava/lang/Object;ILjava/lang/Object;II)V"⟩, Cond.methodLink RX5 95 yX5_putMade, Cond.instanceMethod yX5_putMade, Cond.code yX5_putMade cX5_putMade 5 (some (.int))]
def bW_12 : List Cond := [Cond.methodLink RX5 274 yX5_madeFits, Cond.instanceMethod yX5_madeFits, Cond.code yX5_madeFits cX5_madeFits 2 (some (.boolean)), Cond.methodLink RX5 126 yX5_isCount, Cond.static yX5_isCount, Cond.code yX5_isCount cX5_isCount 2 (some (.boolean)), Cond.constantLong RX5 252 (-2147483647), Cond.constantLong RX5 254 (2147483647), Cond.methodLink RX5 249 yX0_place, Cond.static yX0_place, Cond.code yX0_place cX0_place 2 (some (.int)), Cond.classLink RX5 138 "java/lang/UnsupportedOperationException", Cond.instantiable "java/lang/UnsupportedOperationException" 6, Cond.selects "java/lang/UnsupportedOperationException" ⟨"java/lang/Throwable", "fillInStackTrace", "(I)Ljava/lang/Throwable;"⟩ ⟨"java/lang/Throwable", "fillInStackTrace", "(I)Ljava/lang/Throwable;"⟩, Cond.lays "java/lang/UnsupportedOperationException" "java/lang/Throwable" "cause" "Ljava/lang/Throwable;", Cond.lays "java/lang/UnsupportedOperationException" "java/lang/Throwable" "stackTrace" "[Ljava/lang/StackTraceElement;", Cond.lays "java/lang/UnsupportedOperationException" "java/lang/Throwable" "suppressedExceptions" "Ljava/util/List;", Cond.lays "java/lang/UnsupportedOperationException" "java/lang/Throwable" "detailMessage" "Ljava/lang/String;", Cond.lays "java/lang/UnsupportedOperationException" "java/lang/Throwable" "backtrace" "Ljava/lang/Object;", Cond.methodLink RX5 142 ⟨"java/lang/UnsupportedOperationException", "<init>", "(Ljava/lang/String;)V"⟩, Cond.instanceMethod ⟨"java/lang/UnsupportedOperationException", "<init>", "(Ljava/lang/String;)V"⟩, Cond.code ⟨"java/lang/UnsupportedOperationException", "<init>", "(Ljava/lang/String;)V"⟩ prog_21_method_2_code 2 none, Cond.methodLink "java/lang/UnsupportedOperationException" 7 ⟨"java/lang/RuntimeException", "<init>", "(Ljava/lang/String;)V"⟩, Cond.lays "java/lang/UnsupportedOperationException" "java/lang/Throwable" "depth" "I"]
def bW_13 : List Cond := [Cond.superclass "java/lang/UnsupportedOperationException" "java/lang/RuntimeException", Cond.methodLink RX5 280 yX3_keep, Cond.instanceMethod yX3_keep, Cond.selects RX3 yX3_keep yX3_keep, Cond.code yX3_keep cX3_keep 4 none, Cond.methodLink RX3 32 yX0_place, Cond.methodLink RX3 37 yX0_home, Cond.methodLink RX3 43 ⟨"java/lang/System", "arraycopy", "(Ljava/lang/Object;ILjava/lang/Object;II)V"⟩, Cond.methodLink RX5 284 yX0_copyFrom, Cond.instanceMethod yX0_copyFrom, Cond.selects RX0 yX0_copyFrom yX0_copyFrom, Cond.code yX0_copyFrom cX0_copyFrom 5 none, Cond.methodLink RX0 31 ⟨"java/lang/System", "arraycopy", "(Ljava/lang/Object;ILjava/lang/Object;II)V"⟩, Cond.methodLink RL 101 yL_get, Cond.static yL_get, Cond.codeWith yL_get cL_get 5 (some (.int)) [(0, 9, 12, 13), (0, 9, 16, 23)], Cond.methodLink RL 27 yX5_get, Cond.instanceMethod yX5_get, Cond.selects RX5 yX5_get yX5_get, Cond.code yX5_get cX5_get 3 (some (.long)), Cond.methodLink RX5 102 yX0_home, Cond.methodLink RL 105 yL_part, Cond.static yL_part, Cond.codeWith yL_part cL_part 5 (some (.int)) [(0, 9, 12, 23)]]
def bW_14 : List Cond := [Cond.methodLink RL 31 yX5_part, Cond.instanceMethod yX5_part, Cond.selects RX5 yX5_part yX5_part, Cond.code yX5_part cX5_part 3 (some (.long)), Cond.constantLong RX5 106 (4), Cond.methodLink RL 108 yL_at, Cond.static yL_at, Cond.codeWith yL_at cL_at 5 (some (.int)) [(0, 10, 13, 23)], Cond.methodLink RL 34 yX5_at, Cond.instanceMethod yX5_at, Cond.selects RX5 yX5_at yX5_at, Cond.code yX5_at cX5_at 4 (some (.int)), Cond.methodLink RL 111 yL_add, Cond.static yL_add, Cond.codeWith yL_add cL_add 8 (some (.int)) [(0, 14, 17, 13), (0, 14, 21, 23), (0, 14, 25, 25)], Cond.methodLink RL 38 yX5_add, Cond.instanceMethod yX5_add, Cond.selects RX5 yX5_add yX5_add, Cond.code yX5_add cX5_add 6 (some (.int)), Cond.methodLink RX5 115 yX0_copyTo, Cond.instanceMethod yX0_copyTo, Cond.selects RX0 yX0_copyTo yX0_copyTo, Cond.code yX0_copyTo cX0_copyTo 4 none, Cond.methodLink RX5 119 yX5_addGlue]
def bW_15 : List Cond := [Cond.instanceMethod yX5_addGlue, Cond.code yX5_addGlue cX5_addGlue 2 none, Cond.methodLink RX5 288 yX5_addFlexible, Cond.instanceMethod yX5_addFlexible, Cond.code yX5_addFlexible cX5_addFlexible 8 none, Cond.constantLong RX5 122 (-4294967294), Cond.constantLong RX5 124 (4294967294), Cond.methodLink RL 114 yL_multiply, Cond.static yL_multiply, Cond.codeWith yL_multiply cL_multiply 8 (some (.int)) [(0, 14, 17, 13), (0, 14, 21, 23), (0, 14, 25, 25)], Cond.methodLink RL 41 yX5_multiply, Cond.instanceMethod yX5_multiply, Cond.selects RX5 yX5_multiply yX5_multiply, Cond.code yX5_multiply cX5_multiply 6 (some (.int)), Cond.methodLink RL 117 yL_divide, Cond.static yL_divide, Cond.codeWith yL_divide cL_divide 8 (some (.int)) [(0, 14, 17, 13), (0, 14, 21, 23), (0, 14, 25, 47), (0, 14, 29, 25)], Cond.classLink RL 47 "java/lang/ArithmeticException", Cond.instantiable "java/lang/ArithmeticException" 6, Cond.instanceMethod ⟨"java/lang/ArithmeticException", "<init>", "(Ljava/lang/String;)V"⟩, Cond.code ⟨"java/lang/ArithmeticException", "<init>", "(Ljava/lang/String;)V"⟩ prog_9_method_2_code 2 none, Cond.methodLink "java/lang/ArithmeticException" 7 ⟨"java/lang/RuntimeException", "<init>", "(Ljava/lang/String;)V"⟩, Cond.lays "java/lang/ArithmeticException" "java/lang/Throwable" "backtrace" "Ljava/lang/Object;", Cond.lays "java/lang/ArithmeticException" "java/lang/Throwable" "detailMessage" "Ljava/lang/String;"]
def bW_16 : List Cond := [Cond.lays "java/lang/ArithmeticException" "java/lang/Throwable" "cause" "Ljava/lang/Throwable;", Cond.lays "java/lang/ArithmeticException" "java/lang/Throwable" "stackTrace" "[Ljava/lang/StackTraceElement;", Cond.lays "java/lang/ArithmeticException" "java/lang/Throwable" "depth" "I", Cond.lays "java/lang/ArithmeticException" "java/lang/Throwable" "suppressedExceptions" "Ljava/util/List;", Cond.superclass "java/lang/ArithmeticException" "java/lang/RuntimeException", Cond.selects "java/lang/ArithmeticException" ⟨"java/lang/Throwable", "fillInStackTrace", "(I)Ljava/lang/Throwable;"⟩ ⟨"java/lang/Throwable", "fillInStackTrace", "(I)Ljava/lang/Throwable;"⟩, Cond.methodLink RL 44 yX5_divide, Cond.instanceMethod yX5_divide, Cond.selects RX5 yX5_divide yX5_divide, Cond.code yX5_divide cX5_divide 6 (some (.int)), Cond.classLink RX5 129 "java/lang/ArithmeticException", Cond.methodLink RX5 133 ⟨"java/lang/ArithmeticException", "<init>", "(Ljava/lang/String;)V"⟩, Cond.methodLink RL 120 yL_take, Cond.static yL_take, Cond.codeWith yL_take cL_take 4 (some (.int)) [(0, 9, 12, 23)], Cond.methodLink RL 49 yX5_take, Cond.instanceMethod yX5_take, Cond.selects RX5 yX5_take yX5_take, Cond.code yX5_take cX5_take 4 (some (.int)), Cond.methodLink RL 123 yL_group, Cond.static yL_group, Cond.codeWith yL_group cL_group 3 (some (.int)) [(0, 8, 11, 25)], Cond.methodLink RL 52 yX5_group, Cond.instanceMethod yX5_group]
def bW_17 : List Cond := [Cond.selects RX5 yX5_group yX5_group, Cond.code yX5_group cX5_group 1 (some (.int)), Cond.methodLink RX5 146 yX2_open, Cond.instanceMethod yX2_open, Cond.selects RX2 yX2_open yX2_open, Cond.code yX2_open cX2_open 2 none, Cond.methodLink RL 127 yL_after, Cond.static yL_after, Cond.codeWith yL_after cL_after 4 (some (.int)) [(0, 9, 12, 13), (0, 9, 15, 59), (0, 9, 18, 25)], Cond.classLink RL 59 "java/lang/IllegalStateException", Cond.methodLink RL 56 yX5_after, Cond.instanceMethod yX5_after, Cond.selects RX5 yX5_after yX5_after, Cond.code yX5_after cX5_after 2 (some (.int)), Cond.classLink RX5 149 "java/lang/IllegalStateException", Cond.instantiable "java/lang/IllegalStateException" 6, Cond.selects "java/lang/IllegalStateException" ⟨"java/lang/Throwable", "fillInStackTrace", "(I)Ljava/lang/Throwable;"⟩ ⟨"java/lang/Throwable", "fillInStackTrace", "(I)Ljava/lang/Throwable;"⟩, Cond.lays "java/lang/IllegalStateException" "java/lang/Throwable" "cause" "Ljava/lang/Throwable;", Cond.lays "java/lang/IllegalStateException" "java/lang/Throwable" "stackTrace" "[Ljava/lang/StackTraceElement;", Cond.lays "java/lang/IllegalStateException" "java/lang/Throwable" "suppressedExceptions" "Ljava/util/List;", Cond.lays "java/lang/IllegalStateException" "java/lang/Throwable" "detailMessage" "Ljava/lang/String;", Cond.lays "java/lang/IllegalStateException" "java/lang/Throwable" "backtrace" "Ljava/lang/Object;", Cond.methodLink RX5 153 ⟨"java/lang/IllegalStateException", "<init>", "(Ljava/lang/String;)V"⟩, Cond.instanceMethod ⟨"java/lang/IllegalStateException", "<init>", "(Ljava/lang/String;)V"⟩]
def bW_18 : List Cond := [Cond.code ⟨"java/lang/IllegalStateException", "<init>", "(Ljava/lang/String;)V"⟩ prog_13_method_2_code 2 none, Cond.methodLink "java/lang/IllegalStateException" 7 ⟨"java/lang/RuntimeException", "<init>", "(Ljava/lang/String;)V"⟩, Cond.lays "java/lang/IllegalStateException" "java/lang/Throwable" "depth" "I", Cond.superclass "java/lang/IllegalStateException" "java/lang/RuntimeException", Cond.methodLink RX5 157 yX2_append, Cond.instanceMethod yX2_append, Cond.selects RX2 yX2_append yX2_append, Cond.code yX2_append cX2_append 2 none, Cond.methodLink RX5 160 yX2_firstToken, Cond.instanceMethod yX2_firstToken, Cond.selects RX2 yX2_firstToken yX2_firstToken, Cond.code yX2_firstToken cX2_firstToken 1 (some (.int)), Cond.methodLink RL 130 yL_end, Cond.static yL_end, Cond.codeWith yL_end cL_end 3 (some (.int)) [(0, 8, 11, 59)], Cond.methodLink RL 61 yX5_end, Cond.instanceMethod yX5_end, Cond.selects RX5 yX5_end yX5_end, Cond.code yX5_end cX5_end 1 (some (.int)), Cond.methodLink RX5 164 yX1_clear, Cond.instanceMethod yX1_clear, Cond.selects RX1 yX1_clear yX1_clear, Cond.code yX1_clear cX1_clear 1 none, Cond.methodLink RX5 167 yX2_firstKept]
def bW_19 : List Cond := [Cond.instanceMethod yX2_firstKept, Cond.selects RX2 yX2_firstKept yX2_firstKept, Cond.code yX2_firstKept cX2_firstKept 1 (some (.int)), Cond.methodLink RX5 170 yX5_giveBackKept, Cond.instanceMethod yX5_giveBackKept, Cond.code yX5_giveBackKept cX5_giveBackKept 7 none, Cond.methodLink RX5 296 yX1_append, Cond.instanceMethod yX1_append, Cond.selects RX1 yX1_append yX1_append, Cond.code yX1_append cX1_append 4 none, Cond.methodLink RX5 173 yX1_copyTokens, Cond.instanceMethod yX1_copyTokens, Cond.selects RX1 yX1_copyTokens yX1_copyTokens, Cond.code yX1_copyTokens cX1_copyTokens 3 none, Cond.methodLink RX1 34 yX2_firstToken, Cond.methodLink RX1 42 yX1_appendToken, Cond.instanceMethod yX1_appendToken, Cond.selects RX1 yX1_appendToken yX1_appendToken, Cond.code yX1_appendToken cX1_appendToken 2 none, Cond.methodLink RX5 177 yX2_close, Cond.instanceMethod yX2_close, Cond.selects RX2 yX2_close yX2_close, Cond.code yX2_close cX2_close 1 none, Cond.methodLink RX2 28 yX2_firstToken]
def bW_20 : List Cond := [Cond.methodLink RL 133 yL_restored, Cond.static yL_restored, Cond.codeWith yL_restored cL_restored 5 (some (.int)) [(0, 10, 13, 23)], Cond.methodLink RL 64 yX5_restored, Cond.instanceMethod yX5_restored, Cond.selects RX5 yX5_restored yX5_restored, Cond.code yX5_restored cX5_restored 3 (some (.int)), Cond.constantLong RX5 184 (2), Cond.methodLink RL 140 yL_scaled, Cond.static yL_scaled, Cond.codeWith yL_scaled cL_scaled 6 (some (.int)) [(0, 11, 14, 13)], Cond.methodLink RL 67 yX5_scaled, Cond.instanceMethod yX5_scaled, Cond.selects RX5 yX5_scaled yX5_scaled, Cond.code yX5_scaled cX5_scaled 6 (some (.long)), Cond.constantLong RX5 206 (8), Cond.constantLong RX5 210 (65535), Cond.fieldLink RX5 214 "RegisterRows" "NUMERATORS" "[J", Cond.fieldLink RX5 217 "RegisterRows" "DENOMINATORS" "[J", Cond.methodLink RX5 220 yX5_inPoints, Cond.static yX5_inPoints, Cond.code yX5_inPoints cX5_inPoints 12 (some (.long)), Cond.constantLong RX5 299 (65536), Cond.methodLink RL 144 yL_fraction]
def bW_21 : List Cond := [Cond.static yL_fraction, Cond.codeWith yL_fraction cL_fraction 5 (some (.int)) [(0, 10, 13, 13)], Cond.methodLink RL 71 yX5_fraction, Cond.instanceMethod yX5_fraction, Cond.selects RX5 yX5_fraction yX5_fraction, Cond.code yX5_fraction cX5_fraction 7 (some (.int)), Cond.constantLong RX5 224 (9), Cond.constantLong RX5 228 (131072), Cond.constantLong RX5 230 (10), Cond.methodLink RL 147 yL_shown, Cond.static yL_shown, Cond.codeWith yL_shown cL_shown 6 (some (.int)) [(0, 12, 15, 13), (0, 12, 19, 23)], Cond.methodLink RL 74 yX5_shown, Cond.instanceMethod yX5_shown, Cond.selects RX5 yX5_shown yX5_shown, Cond.code yX5_shown cX5_shown 4 (some (.int)), Cond.methodLink RX5 234 yX4_clear, Cond.instanceMethod yX4_clear, Cond.selects RX4 yX4_clear yX4_clear, Cond.code yX4_clear cX4_clear 1 none, Cond.methodLink RX5 235 yX5_writeRegister, Cond.instanceMethod yX5_writeRegister, Cond.code yX5_writeRegister cX5_writeRegister 3 none, Cond.methodLink RX5 301 yX4_writeNumber]
def bW_22 : List Cond := [Cond.instanceMethod yX4_writeNumber, Cond.selects RX4 yX4_writeNumber yX4_writeNumber, Cond.code yX4_writeNumber cX4_writeNumber 3 none, Cond.methodLink RX4 29 yX4_write, Cond.instanceMethod yX4_write, Cond.selects RX4 yX4_write yX4_write, Cond.code yX4_write cX4_write 2 none, Cond.methodLink RX4 33 yX4_writeDigits, Cond.instanceMethod yX4_writeDigits, Cond.selects RX4 yX4_writeDigits yX4_writeDigits, Cond.code yX4_writeDigits cX4_writeDigits 6 none, Cond.constantLong RX4 37 (10), Cond.methodLink RX5 304 yX4_writeLength, Cond.instanceMethod yX4_writeLength, Cond.selects RX4 yX4_writeLength yX4_writeLength, Cond.code yX4_writeLength cX4_writeLength 5 none, Cond.constantLong RX4 39 (65536), Cond.methodLink RX4 41 yX4_writeFraction, Cond.instanceMethod yX4_writeFraction, Cond.selects RX4 yX4_writeFraction yX4_writeFraction, Cond.code yX4_writeFraction cX4_writeFraction 8 none, Cond.constantLong RX4 44 (5), Cond.constantLong RX4 46 (17232), Cond.methodLink RX5 307 yX5_writeGlue]
def bW_23 : List Cond := [Cond.instanceMethod yX5_writeGlue, Cond.code yX5_writeGlue cX5_writeGlue 2 none, Cond.methodLink RX5 315 yX4_writeText, Cond.instanceMethod yX4_writeText, Cond.selects RX4 yX4_writeText yX4_writeText, Cond.code yX4_writeText cX4_writeText 3 none, Cond.methodLink RX4 19 yJ0_length_8abf5, Cond.instanceMethod yJ0_length_8abf5, Cond.selects RJ0 yJ0_length_8abf5 yJ0_length_8abf5, Cond.code yJ0_length_8abf5 cJ0_length_8abf5 1 (some (.int)), Cond.methodLink RJ0 335 yJ0_coder_7d493, Cond.instanceMethod yJ0_coder_7d493, Cond.selects RJ0 yJ0_coder_7d493 yJ0_coder_7d493, Cond.code yJ0_coder_7d493 cJ0_coder_7d493 1 (some (.byte)), Cond.fieldLink RJ0 38 "java/lang/String" "COMPACT_STRINGS" "Z", Cond.methodLink RX4 25 yJ0_charAt_5068e, Cond.instanceMethod yJ0_charAt_5068e, Cond.selects RJ0 yJ0_charAt_5068e yJ0_charAt_5068e, Cond.code yJ0_charAt_5068e cJ0_charAt_5068e 2 (some (.char)), Cond.methodLink RJ0 492 yJ0_isLatin1_aae02, Cond.instanceMethod yJ0_isLatin1_aae02, Cond.selects RJ0 yJ0_isLatin1_aae02 yJ0_isLatin1_aae02, Cond.code yJ0_isLatin1_aae02 cJ0_isLatin1_aae02 1 (some (.boolean)), Cond.methodLink RJ0 495 yJ1_charAt_3b067]
def bW_24 : List Cond := [Cond.static yJ1_charAt_3b067, Cond.code yJ1_charAt_3b067 cJ1_charAt_3b067 2 (some (.char)), Cond.methodLink RJ1 9 yJ0_checkIndex_df160, Cond.static yJ0_checkIndex_df160, Cond.code yJ0_checkIndex_df160 cJ0_checkIndex_df160 2 none, Cond.fieldLink RJ0 1053 "jdk/internal/util/Preconditions" "SIOOBE_FORMATTER" "Ljava/util/function/BiFunction;", Cond.methodLink RJ0 1059 yJ3_checkIndex_8e157, Cond.static yJ3_checkIndex_8e157, Cond.code yJ3_checkIndex_8e157 cJ3_checkIndex_8e157 3 (some (.int)), Cond.methodLink RJ0 498 yJ2_charAt_3b067, Cond.static yJ2_charAt_3b067, Cond.code yJ2_charAt_3b067 cJ2_charAt_3b067 2 (some (.char)), Cond.methodLink RJ2 67 yJ2_checkIndex_2214a, Cond.static yJ2_checkIndex_2214a, Cond.code yJ2_checkIndex_2214a cJ2_checkIndex_2214a 2 none, Cond.methodLink RJ2 48 yJ2_length_9d52b, Cond.static yJ2_length_9d52b, Cond.code yJ2_length_9d52b cJ2_length_9d52b 1 (some (.int)), Cond.methodLink RJ2 414 yJ0_checkIndex_df160, Cond.methodLink RJ2 71 yJ2_getChar_3b067, Cond.static yJ2_getChar_3b067, Cond.code yJ2_getChar_3b067 cJ2_getChar_3b067 2 (some (.char)), Cond.fieldLink RJ2 44 "java/lang/StringUTF16" "$assertionsDisabled" "Z", Cond.fieldLink RJ2 59 "java/lang/StringUTF16" "HI_BYTE_SHIFT" "I"]
def bW_25 : List Cond := [Cond.fieldLink RJ2 63 "java/lang/StringUTF16" "LO_BYTE_SHIFT" "I", Cond.methodLink RX5 322 yX5_writeFlexible, Cond.instanceMethod yX5_writeFlexible, Cond.code yX5_writeFlexible cX5_writeFlexible 3 none, Cond.methodLink RX5 328 yX5_orderName, Cond.static yX5_orderName, Cond.code yX5_orderName cX5_orderName 2 (some (.object "java/lang/String")), Cond.methodLink RX5 310 yX5_writeRow, Cond.instanceMethod yX5_writeRow, Cond.code yX5_writeRow cX5_writeRow 3 none, Cond.methodLink RX5 338 yX4_write, Cond.methodLink RX5 238 yX4_signAt, Cond.instanceMethod yX4_signAt, Cond.selects RX4 yX4_signAt yX4_signAt, Cond.code yX4_signAt cX4_signAt 2 (some (.int)), Cond.methodLink RL 150 yL_told, Cond.static yL_told, Cond.codeWith yL_told cL_told 5 (some (.int)) [(0, 10, 13, 13), (0, 10, 17, 23)], Cond.methodLink RL 78 yX5_told, Cond.instanceMethod yX5_told, Cond.selects RX5 yX5_told yX5_told, Cond.code yX5_told cX5_told 3 (some (.int)), Cond.constantLong RX5 242 (14), Cond.classLink RL 82 RX6]
def bW_26 : List Cond := [Cond.instantiable RX6 24, Cond.methodLink RL 84 yX6_init, Cond.instanceMethod yX6_init, Cond.code yX6_init cX6_init 2 none, Cond.methodLink RX6 1 ⟨"java/lang/Object", "<init>", "()V"⟩, Cond.constantLong RX6 59 (-1), Cond.fieldLink RX6 61 "RegisterRowsModel" "thrown" "I", Cond.fieldLink RX6 7 "RegisterRowsModel" "cells" "[J", Cond.fieldLink RX6 13 "RegisterRowsModel" "levels" "[I", Cond.fieldLink RX6 91 "RegisterRowsModel" "depth" "I", Cond.fieldLink RX6 94 "RegisterRowsModel" "kept" "I", Cond.fieldLink RX6 17 "RegisterRowsModel" "keptCells" "[J", Cond.fieldLink RX6 20 "RegisterRowsModel" "keptOf" "[I", Cond.fieldLink RX6 23 "RegisterRowsModel" "keptLevel" "[I", Cond.fieldLink RX6 26 "RegisterRowsModel" "keptDepth" "[I", Cond.fieldLink RX6 29 "RegisterRowsModel" "waitingGlue" "[J", Cond.fieldLink RX6 32 "RegisterRowsModel" "waitingRow" "[J", Cond.fieldLink RX6 35 "RegisterRowsModel" "value" "[J", Cond.fieldLink RX6 138 "RegisterRowsModel" "told" "I", Cond.fieldLink RX6 38 "RegisterRowsModel" "toldToken" "[I", Cond.fieldLink RX6 41 "RegisterRowsModel" "toldDepth" "[I", Cond.fieldLink RX6 141 "RegisterRowsModel" "gone" "I", Cond.fieldLink RX6 44 "RegisterRowsModel" "goneOf" "[I", Cond.fieldLink RX6 47 "RegisterRowsModel" "goneAgain" "[I"]
def bW_27 : List Cond := [Cond.fieldLink RX6 144 "RegisterRowsModel" "behind" "I", Cond.fieldLink RX6 50 "RegisterRowsModel" "behindToken" "[I", Cond.fieldLink RX6 186 "RegisterRowsModel" "size" "I", Cond.fieldLink RX6 53 "RegisterRowsModel" "text" "[I", Cond.fieldLink RX6 193 "RegisterRowsModel" "backSize" "I", Cond.fieldLink RX6 56 "RegisterRowsModel" "back" "[I", Cond.lays RX6 "RegisterRowsModel" "thrown" "I", Cond.laysFinal RX6 "RegisterRowsModel" "cells" "[J", Cond.laysFinal RX6 "RegisterRowsModel" "levels" "[I", Cond.lays RX6 "RegisterRowsModel" "depth" "I", Cond.lays RX6 "RegisterRowsModel" "kept" "I", Cond.laysFinal RX6 "RegisterRowsModel" "keptCells" "[J", Cond.laysFinal RX6 "RegisterRowsModel" "keptOf" "[I", Cond.laysFinal RX6 "RegisterRowsModel" "keptLevel" "[I", Cond.laysFinal RX6 "RegisterRowsModel" "keptDepth" "[I", Cond.laysFinal RX6 "RegisterRowsModel" "waitingGlue" "[J", Cond.laysFinal RX6 "RegisterRowsModel" "waitingRow" "[J", Cond.laysFinal RX6 "RegisterRowsModel" "value" "[J", Cond.lays RX6 "RegisterRowsModel" "told" "I", Cond.laysFinal RX6 "RegisterRowsModel" "toldToken" "[I", Cond.laysFinal RX6 "RegisterRowsModel" "toldDepth" "[I", Cond.lays RX6 "RegisterRowsModel" "gone" "I", Cond.laysFinal RX6 "RegisterRowsModel" "goneOf" "[I", Cond.laysFinal RX6 "RegisterRowsModel" "goneAgain" "[I"]
def bW_28 : List Cond := [Cond.lays RX6 "RegisterRowsModel" "behind" "I", Cond.laysFinal RX6 "RegisterRowsModel" "behindToken" "[I", Cond.lays RX6 "RegisterRowsModel" "size" "I", Cond.laysFinal RX6 "RegisterRowsModel" "text" "[I", Cond.lays RX6 "RegisterRowsModel" "backSize" "I", Cond.laysFinal RX6 "RegisterRowsModel" "back" "[I", Cond.superclass RX6 "java/lang/Object", Cond.methodLink RL 153 yX6_thrown, Cond.instanceMethod yX6_thrown, Cond.selects RX6 yX6_thrown yX6_thrown, Cond.code yX6_thrown cX6_thrown 1 (some (.int)), Cond.methodLink RL 90 yX6_token, Cond.instanceMethod yX6_token, Cond.selects RX6 yX6_token yX6_token, Cond.code yX6_token cX6_token 2 (some (.int)), Cond.constantLong RX6 77 (255), Cond.methodLink RX6 67 yX6_in, Cond.static yX6_in, Cond.code yX6_in cX6_in 6 (some (.boolean)), Cond.constantLong RX6 79 (20), Cond.methodLink RL 96 yX6_glue, Cond.instanceMethod yX6_glue, Cond.selects RX6 yX6_glue yX6_glue, Cond.code yX6_glue cX6_glue 10 none]
def bW_29 : List Cond := [Cond.methodLink RX6 81 yX6_isLength, Cond.static yX6_isLength, Cond.code yX6_isLength cX6_isLength 2 (some (.boolean)), Cond.constantLong RX6 73 (-1073741823), Cond.constantLong RX6 75 (1073741823), Cond.constantLong RX6 85 (3), Cond.methodLink RL 100 yX6_set, Cond.instanceMethod yX6_set, Cond.selects RX6 yX6_set yX6_set, Cond.code yX6_set cX6_set 7 (some (.int)), Cond.methodLink RX6 109 yX6_isKind, Cond.static yX6_isKind, Cond.code yX6_isKind cX6_isKind 1 (some (.boolean)), Cond.constantLong RX6 65 (4), Cond.constantLong RX6 112 (999), Cond.methodLink RX6 114 yX6_isRegister, Cond.static yX6_isRegister, Cond.code yX6_isRegister cX6_isRegister 1 (some (.boolean)), Cond.constantLong RX6 71 (31), Cond.methodLink RX6 117 yX6_finish, Cond.instanceMethod yX6_finish, Cond.code yX6_finish cX6_finish 6 (some (.int)), Cond.methodLink RX6 97 yX6_isWithin, Cond.instanceMethod yX6_isWithin]
def bW_30 : List Cond := [Cond.code yX6_isWithin cX6_isWithin 2 (some (.boolean)), Cond.constantLong RX6 87 (-2147483647), Cond.constantLong RX6 89 (2147483647), Cond.methodLink RX6 101 yX6_isFull, Cond.instanceMethod yX6_isFull, Cond.code yX6_isFull cX6_isFull 3 (some (.boolean)), Cond.methodLink RX6 105 yX6_put, Cond.instanceMethod yX6_put, Cond.code yX6_put cX6_put 4 none, Cond.methodLink RL 113 yX6_add, Cond.instanceMethod yX6_add, Cond.selects RX6 yX6_add yX6_add, Cond.code yX6_add cX6_add 6 (some (.int)), Cond.constantLong RX6 121 (2), Cond.methodLink RX6 123 yX6_fetch, Cond.instanceMethod yX6_fetch, Cond.code yX6_fetch cX6_fetch 4 none, Cond.methodLink RX6 127 yX6_addPart, Cond.instanceMethod yX6_addPart, Cond.code yX6_addPart cX6_addPart 9 none, Cond.constantLong RX6 130 (-6442450941), Cond.constantLong RX6 132 (6442450941), Cond.methodLink RL 116 yX6_multiply, Cond.instanceMethod yX6_multiply]
def bW_31 : List Cond := [Cond.selects RX6 yX6_multiply yX6_multiply, Cond.code yX6_multiply cX6_multiply 6 (some (.int)), Cond.methodLink RX6 134 yX6_scale, Cond.instanceMethod yX6_scale, Cond.code yX6_scale cX6_scale 6 none, Cond.methodLink RL 119 yX6_divide, Cond.instanceMethod yX6_divide, Cond.selects RX6 yX6_divide yX6_divide, Cond.code yX6_divide cX6_divide 6 (some (.int)), Cond.methodLink RL 122 yX6_take, Cond.instanceMethod yX6_take, Cond.selects RX6 yX6_take yX6_take, Cond.code yX6_take cX6_take 4 (some (.int)), Cond.methodLink RL 126 yX6_group, Cond.instanceMethod yX6_group, Cond.selects RX6 yX6_group yX6_group, Cond.code yX6_group cX6_group 1 (some (.int)), Cond.methodLink RL 129 yX6_after, Cond.instanceMethod yX6_after, Cond.selects RX6 yX6_after yX6_after, Cond.code yX6_after cX6_after 4 (some (.int)), Cond.methodLink RL 132 yX6_end, Cond.instanceMethod yX6_end, Cond.selects RX6 yX6_end yX6_end]
def bW_32 : List Cond := [Cond.code yX6_end cX6_end 4 (some (.int)), Cond.methodLink RL 135 yX6_restored, Cond.instanceMethod yX6_restored, Cond.selects RX6 yX6_restored yX6_restored, Cond.code yX6_restored cX6_restored 3 (some (.int)), Cond.methodLink RL 139 yX6_behind, Cond.instanceMethod yX6_behind, Cond.selects RX6 yX6_behind yX6_behind, Cond.code yX6_behind cX6_behind 2 (some (.int)), Cond.methodLink RL 104 yX6_get, Cond.instanceMethod yX6_get, Cond.selects RX6 yX6_get yX6_get, Cond.code yX6_get cX6_get 3 (some (.long)), Cond.methodLink RL 107 yX6_part, Cond.instanceMethod yX6_part, Cond.selects RX6 yX6_part yX6_part, Cond.code yX6_part cX6_part 3 (some (.long)), Cond.methodLink RL 110 yX6_at, Cond.instanceMethod yX6_at, Cond.selects RX6 yX6_at yX6_at, Cond.code yX6_at cX6_at 4 (some (.int)), Cond.methodLink RL 152 yX6_told, Cond.instanceMethod yX6_told, Cond.selects RX6 yX6_told yX6_told]
def bW_33 : List Cond := [Cond.code yX6_told cX6_told 4 (some (.int)), Cond.constantLong RX6 147 (10), Cond.constantLong RX6 149 (14), Cond.methodLink RL 143 yX6_scaled, Cond.instanceMethod yX6_scaled, Cond.selects RX6 yX6_scaled yX6_scaled, Cond.code yX6_scaled cX6_scaled 10 (some (.long)), Cond.constantLong RX6 169 (65535), Cond.constantLong RX6 171 (8), Cond.methodLink RX6 173 yX6_upOf, Cond.static yX6_upOf, Cond.code yX6_upOf cX6_upOf 1 (some (.long)), Cond.constantLong RX6 151 (12), Cond.constantLong RX6 153 (1238), Cond.constantLong RX6 155 (14856), Cond.constantLong RX6 157 (7227), Cond.constantLong RX6 177 (65536), Cond.methodLink RX6 179 yX6_lowOf, Cond.static yX6_lowOf, Cond.code yX6_lowOf cX6_lowOf 1 (some (.long)), Cond.constantLong RX6 159 (100), Cond.constantLong RX6 161 (254), Cond.constantLong RX6 163 (2540), Cond.constantLong RX6 165 (7200)]
def bW_34 : List Cond := [Cond.constantLong RX6 167 (1157), Cond.methodLink RL 146 yX6_fraction, Cond.instanceMethod yX6_fraction, Cond.selects RX6 yX6_fraction yX6_fraction, Cond.code yX6_fraction cX6_fraction 10 (some (.int)), Cond.constantLong RX6 182 (9), Cond.constantLong RX6 184 (131072), Cond.methodLink RL 149 yX6_shown, Cond.instanceMethod yX6_shown, Cond.selects RX6 yX6_shown yX6_shown, Cond.code yX6_shown cX6_shown 6 (some (.int)), Cond.methodLink RX6 206 yX6_sayLength, Cond.instanceMethod yX6_sayLength, Cond.code yX6_sayLength cX6_sayLength 10 none, Cond.methodLink RX6 189 yX6_say, Cond.instanceMethod yX6_say, Cond.code yX6_say cX6_say 2 none, Cond.methodLink RX6 198 yX6_sayNumber, Cond.instanceMethod yX6_sayNumber, Cond.code yX6_sayNumber cX6_sayNumber 5 none, Cond.constantLong RX6 196 (48), Cond.constantLong RX6 202 (5), Cond.constantLong RX6 204 (17232), Cond.methodLink RX6 216 yX6_sayGlue]
def bW_35 : List Cond := [Cond.instanceMethod yX6_sayGlue, Cond.code yX6_sayGlue cX6_sayGlue 3 none, Cond.methodLink RX6 209 yX6_sayOrder, Cond.instanceMethod yX6_sayOrder, Cond.code yX6_sayOrder cX6_sayOrder 4 none, Cond.methodLink RX6 212 yX6_sayWord, Cond.instanceMethod yX6_sayWord, Cond.code yX6_sayWord cX6_sayWord 2 none, Cond.methodLink RX6 219 yX6_sayVoid, Cond.instanceMethod yX6_sayVoid, Cond.code yX6_sayVoid cX6_sayVoid 1 none, Cond.constantLong RL 91 (4294967295), Cond.sameMethod "java/lang/Throwable" "java/lang/Throwable" "fillInStackTrace" "(I)Ljava/lang/Throwable;", Cond.fieldLink RJ0 9 "java/lang/String" "value" "[B", Cond.fieldLink RJ0 15 "java/lang/String" "coder" "B", Cond.selects "java/lang/Throwable" ⟨"java/lang/Throwable", "fillInStackTrace", "(I)Ljava/lang/Throwable;"⟩ ⟨"java/lang/Throwable", "fillInStackTrace", "(I)Ljava/lang/Throwable;"⟩, Cond.selects RX5 yX5_makeGiven yX5_makeGiven, Cond.selects RX5 yX5_putMade yX5_putMade, Cond.selects RX5 yX5_madeFits yX5_madeFits, Cond.selects RX5 yX5_addGlue yX5_addGlue, Cond.selects RX5 yX5_addFlexible yX5_addFlexible, Cond.selects RX5 yX5_giveBackKept yX5_giveBackKept, Cond.selects RX5 yX5_writeRegister yX5_writeRegister, Cond.selects RX5 yX5_writeGlue yX5_writeGlue]
def bW_36 : List Cond := [Cond.selects RX5 yX5_writeFlexible yX5_writeFlexible, Cond.selects RX5 yX5_writeRow yX5_writeRow, Cond.selects RX6 yX6_finish yX6_finish, Cond.selects RX6 yX6_isWithin yX6_isWithin, Cond.selects RX6 yX6_isFull yX6_isFull, Cond.selects RX6 yX6_put yX6_put, Cond.selects RX6 yX6_fetch yX6_fetch, Cond.selects RX6 yX6_addPart yX6_addPart, Cond.selects RX6 yX6_scale yX6_scale, Cond.selects RX6 yX6_sayLength yX6_sayLength, Cond.selects RX6 yX6_say yX6_say, Cond.selects RX6 yX6_sayNumber yX6_sayNumber, Cond.selects RX6 yX6_sayGlue yX6_sayGlue, Cond.selects RX6 yX6_sayOrder yX6_sayOrder, Cond.selects RX6 yX6_sayWord yX6_sayWord, Cond.selects RX6 yX6_sayVoid yX6_sayVoid]
def bG_0 : List Cond := bW_0 ++ (bW_1 ++ (bW_2 ++ (bW_3 ++ (bW_4 ++ (bW_5 ++ (bW_6 ++ (bW_7)))))))
def bG_1 : List Cond := bW_8 ++ (bW_9 ++ (bW_10 ++ (bW_11 ++ (bW_12 ++ (bW_13 ++ (bW_14 ++ (bW_15)))))))
def bG_2 : List Cond := bW_16 ++ (bW_17 ++ (bW_18 ++ (bW_19 ++ (bW_20 ++ (bW_21 ++ (bW_22 ++ (bW_23)))))))
def bG_3 : List Cond := bW_24 ++ (bW_25 ++ (bW_26 ++ (bW_27 ++ (bW_28 ++ (bW_29 ++ (bW_30 ++ (bW_31)))))))
def bG_4 : List Cond := bW_32 ++ (bW_33 ++ (bW_34 ++ (bW_35 ++ (bW_36))))
/-- the good words of the tables: every method takes all of them -/
def bigW : List Cond := bG_0 ++ (bG_1 ++ (bG_2 ++ (bG_3 ++ (bG_4))))
theorem bi_0 : ∀ w ∈ bW_0, w ∈ bigW := fun w h => List.mem_append_left _ (List.mem_append_left _ (h))
theorem bi_1 : ∀ w ∈ bW_1, w ∈ bigW := fun w h => List.mem_append_left _ (List.mem_append_right _ (List.mem_append_left _ (h)))
theorem bi_2 : ∀ w ∈ bW_2, w ∈ bigW := fun w h => List.mem_append_left _ (List.mem_append_right _ (List.mem_append_right _ (List.mem_append_left _ (h))))
theorem bi_3 : ∀ w ∈ bW_3, w ∈ bigW := fun w h => List.mem_append_left _ (List.mem_append_right _ (List.mem_append_right _ (List.mem_append_right _ (List.mem_append_left _ (h)))))
theorem bi_4 : ∀ w ∈ bW_4, w ∈ bigW := fun w h => List.mem_append_left _ (List.mem_append_right _ (List.mem_append_right _ (List.mem_append_right _ (List.mem_append_right _ (List.mem_append_left _ (h))))))
theorem bi_5 : ∀ w ∈ bW_5, w ∈ bigW := fun w h => List.mem_append_left _ (List.mem_append_right _ (List.mem_append_right _ (List.mem_append_right _ (List.mem_append_right _ (List.mem_append_right _ (List.mem_append_left _ (h)))))))
theorem bi_6 : ∀ w ∈ bW_6, w ∈ bigW := fun w h => List.mem_append_left _ (List.mem_append_right _ (List.mem_append_right _ (List.mem_append_right _ (List.mem_append_right _ (List.mem_append_right _ (List.mem_append_right _ (List.mem_append_left _ (h))))))))
theorem bi_7 : ∀ w ∈ bW_7, w ∈ bigW := fun w h => List.mem_append_left _ (List.mem_append_right _ (List.mem_append_right _ (List.mem_append_right _ (List.mem_append_right _ (List.mem_append_right _ (List.mem_append_right _ (List.mem_append_right _ (h))))))))
theorem bi_8 : ∀ w ∈ bW_8, w ∈ bigW := fun w h => List.mem_append_right _ (List.mem_append_left _ (List.mem_append_left _ (h)))
theorem bi_9 : ∀ w ∈ bW_9, w ∈ bigW := fun w h => List.mem_append_right _ (List.mem_append_left _ (List.mem_append_right _ (List.mem_append_left _ (h))))
theorem bi_10 : ∀ w ∈ bW_10, w ∈ bigW := fun w h => List.mem_append_right _ (List.mem_append_left _ (List.mem_append_right _ (List.mem_append_right _ (List.mem_append_left _ (h)))))
theorem bi_11 : ∀ w ∈ bW_11, w ∈ bigW := fun w h => List.mem_append_right _ (List.mem_append_left _ (List.mem_append_right _ (List.mem_append_right _ (List.mem_append_right _ (List.mem_append_left _ (h))))))
theorem bi_12 : ∀ w ∈ bW_12, w ∈ bigW := fun w h => List.mem_append_right _ (List.mem_append_left _ (List.mem_append_right _ (List.mem_append_right _ (List.mem_append_right _ (List.mem_append_right _ (List.mem_append_left _ (h)))))))
theorem bi_13 : ∀ w ∈ bW_13, w ∈ bigW := fun w h => List.mem_append_right _ (List.mem_append_left _ (List.mem_append_right _ (List.mem_append_right _ (List.mem_append_right _ (List.mem_append_right _ (List.mem_append_right _ (List.mem_append_left _ (h))))))))
theorem bi_14 : ∀ w ∈ bW_14, w ∈ bigW := fun w h => List.mem_append_right _ (List.mem_append_left _ (List.mem_append_right _ (List.mem_append_right _ (List.mem_append_right _ (List.mem_append_right _ (List.mem_append_right _ (List.mem_append_right _ (List.mem_append_left _ (h)))))))))
theorem bi_15 : ∀ w ∈ bW_15, w ∈ bigW := fun w h => List.mem_append_right _ (List.mem_append_left _ (List.mem_append_right _ (List.mem_append_right _ (List.mem_append_right _ (List.mem_append_right _ (List.mem_append_right _ (List.mem_append_right _ (List.mem_append_right _ (h)))))))))
theorem bi_16 : ∀ w ∈ bW_16, w ∈ bigW := fun w h => List.mem_append_right _ (List.mem_append_right _ (List.mem_append_left _ (List.mem_append_left _ (h))))
theorem bi_17 : ∀ w ∈ bW_17, w ∈ bigW := fun w h => List.mem_append_right _ (List.mem_append_right _ (List.mem_append_left _ (List.mem_append_right _ (List.mem_append_left _ (h)))))
theorem bi_18 : ∀ w ∈ bW_18, w ∈ bigW := fun w h => List.mem_append_right _ (List.mem_append_right _ (List.mem_append_left _ (List.mem_append_right _ (List.mem_append_right _ (List.mem_append_left _ (h))))))
theorem bi_19 : ∀ w ∈ bW_19, w ∈ bigW := fun w h => List.mem_append_right _ (List.mem_append_right _ (List.mem_append_left _ (List.mem_append_right _ (List.mem_append_right _ (List.mem_append_right _ (List.mem_append_left _ (h)))))))
theorem bi_20 : ∀ w ∈ bW_20, w ∈ bigW := fun w h => List.mem_append_right _ (List.mem_append_right _ (List.mem_append_left _ (List.mem_append_right _ (List.mem_append_right _ (List.mem_append_right _ (List.mem_append_right _ (List.mem_append_left _ (h))))))))
theorem bi_21 : ∀ w ∈ bW_21, w ∈ bigW := fun w h => List.mem_append_right _ (List.mem_append_right _ (List.mem_append_left _ (List.mem_append_right _ (List.mem_append_right _ (List.mem_append_right _ (List.mem_append_right _ (List.mem_append_right _ (List.mem_append_left _ (h)))))))))
theorem bi_22 : ∀ w ∈ bW_22, w ∈ bigW := fun w h => List.mem_append_right _ (List.mem_append_right _ (List.mem_append_left _ (List.mem_append_right _ (List.mem_append_right _ (List.mem_append_right _ (List.mem_append_right _ (List.mem_append_right _ (List.mem_append_right _ (List.mem_append_left _ (h))))))))))
theorem bi_23 : ∀ w ∈ bW_23, w ∈ bigW := fun w h => List.mem_append_right _ (List.mem_append_right _ (List.mem_append_left _ (List.mem_append_right _ (List.mem_append_right _ (List.mem_append_right _ (List.mem_append_right _ (List.mem_append_right _ (List.mem_append_right _ (List.mem_append_right _ (h))))))))))
theorem bi_24 : ∀ w ∈ bW_24, w ∈ bigW := fun w h => List.mem_append_right _ (List.mem_append_right _ (List.mem_append_right _ (List.mem_append_left _ (List.mem_append_left _ (h)))))
theorem bi_25 : ∀ w ∈ bW_25, w ∈ bigW := fun w h => List.mem_append_right _ (List.mem_append_right _ (List.mem_append_right _ (List.mem_append_left _ (List.mem_append_right _ (List.mem_append_left _ (h))))))
theorem bi_26 : ∀ w ∈ bW_26, w ∈ bigW := fun w h => List.mem_append_right _ (List.mem_append_right _ (List.mem_append_right _ (List.mem_append_left _ (List.mem_append_right _ (List.mem_append_right _ (List.mem_append_left _ (h)))))))
theorem bi_27 : ∀ w ∈ bW_27, w ∈ bigW := fun w h => List.mem_append_right _ (List.mem_append_right _ (List.mem_append_right _ (List.mem_append_left _ (List.mem_append_right _ (List.mem_append_right _ (List.mem_append_right _ (List.mem_append_left _ (h))))))))
theorem bi_28 : ∀ w ∈ bW_28, w ∈ bigW := fun w h => List.mem_append_right _ (List.mem_append_right _ (List.mem_append_right _ (List.mem_append_left _ (List.mem_append_right _ (List.mem_append_right _ (List.mem_append_right _ (List.mem_append_right _ (List.mem_append_left _ (h)))))))))
theorem bi_29 : ∀ w ∈ bW_29, w ∈ bigW := fun w h => List.mem_append_right _ (List.mem_append_right _ (List.mem_append_right _ (List.mem_append_left _ (List.mem_append_right _ (List.mem_append_right _ (List.mem_append_right _ (List.mem_append_right _ (List.mem_append_right _ (List.mem_append_left _ (h))))))))))
theorem bi_30 : ∀ w ∈ bW_30, w ∈ bigW := fun w h => List.mem_append_right _ (List.mem_append_right _ (List.mem_append_right _ (List.mem_append_left _ (List.mem_append_right _ (List.mem_append_right _ (List.mem_append_right _ (List.mem_append_right _ (List.mem_append_right _ (List.mem_append_right _ (List.mem_append_left _ (h)))))))))))
theorem bi_31 : ∀ w ∈ bW_31, w ∈ bigW := fun w h => List.mem_append_right _ (List.mem_append_right _ (List.mem_append_right _ (List.mem_append_left _ (List.mem_append_right _ (List.mem_append_right _ (List.mem_append_right _ (List.mem_append_right _ (List.mem_append_right _ (List.mem_append_right _ (List.mem_append_right _ (h)))))))))))
theorem bi_32 : ∀ w ∈ bW_32, w ∈ bigW := fun w h => List.mem_append_right _ (List.mem_append_right _ (List.mem_append_right _ (List.mem_append_right _ (List.mem_append_left _ (h)))))
theorem bi_33 : ∀ w ∈ bW_33, w ∈ bigW := fun w h => List.mem_append_right _ (List.mem_append_right _ (List.mem_append_right _ (List.mem_append_right _ (List.mem_append_right _ (List.mem_append_left _ (h))))))
theorem bi_34 : ∀ w ∈ bW_34, w ∈ bigW := fun w h => List.mem_append_right _ (List.mem_append_right _ (List.mem_append_right _ (List.mem_append_right _ (List.mem_append_right _ (List.mem_append_right _ (List.mem_append_left _ (h)))))))
theorem bi_35 : ∀ w ∈ bW_35, w ∈ bigW := fun w h => List.mem_append_right _ (List.mem_append_right _ (List.mem_append_right _ (List.mem_append_right _ (List.mem_append_right _ (List.mem_append_right _ (List.mem_append_right _ (List.mem_append_left _ (h))))))))
theorem bi_36 : ∀ w ∈ bW_36, w ∈ bigW := fun w h => List.mem_append_right _ (List.mem_append_right _ (List.mem_append_right _ (List.mem_append_right _ (List.mem_append_right _ (List.mem_append_right _ (List.mem_append_right _ (List.mem_append_right _ (h))))))))
theorem bg_0 : bW_0.all goodWord = true := by decide +kernel
theorem bg_1 : bW_1.all goodWord = true := by decide +kernel
theorem bg_2 : bW_2.all goodWord = true := by decide +kernel
theorem bg_3 : bW_3.all goodWord = true := by decide +kernel
theorem bg_4 : bW_4.all goodWord = true := by decide +kernel
theorem bg_5 : bW_5.all goodWord = true := by decide +kernel
theorem bg_6 : bW_6.all goodWord = true := by decide +kernel
theorem bg_7 : bW_7.all goodWord = true := by decide +kernel
theorem bg_8 : bW_8.all goodWord = true := by decide +kernel
theorem bg_9 : bW_9.all goodWord = true := by decide +kernel
theorem bg_10 : bW_10.all goodWord = true := by decide +kernel
theorem bg_11 : bW_11.all goodWord = true := by decide +kernel
theorem bg_12 : bW_12.all goodWord = true := by decide +kernel
theorem bg_13 : bW_13.all goodWord = true := by decide +kernel
theorem bg_14 : bW_14.all goodWord = true := by decide +kernel
theorem bg_15 : bW_15.all goodWord = true := by decide +kernel
theorem bg_16 : bW_16.all goodWord = true := by decide +kernel
theorem bg_17 : bW_17.all goodWord = true := by decide +kernel
theorem bg_18 : bW_18.all goodWord = true := by decide +kernel
theorem bg_19 : bW_19.all goodWord = true := by decide +kernel
theorem bg_20 : bW_20.all goodWord = true := by decide +kernel
theorem bg_21 : bW_21.all goodWord = true := by decide +kernel
theorem bg_22 : bW_22.all goodWord = true := by decide +kernel
theorem bg_23 : bW_23.all goodWord = true := by decide +kernel
theorem bg_24 : bW_24.all goodWord = true := by decide +kernel
theorem bg_25 : bW_25.all goodWord = true := by decide +kernel
theorem bg_26 : bW_26.all goodWord = true := by decide +kernel
theorem bg_27 : bW_27.all goodWord = true := by decide +kernel
theorem bg_28 : bW_28.all goodWord = true := by decide +kernel
theorem bg_29 : bW_29.all goodWord = true := by decide +kernel
theorem bg_30 : bW_30.all goodWord = true := by decide +kernel
theorem bg_31 : bW_31.all goodWord = true := by decide +kernel
theorem bg_32 : bW_32.all goodWord = true := by decide +kernel
theorem bg_33 : bW_33.all goodWord = true := by decide +kernel
theorem bg_34 : bW_34.all goodWord = true := by decide +kernel
theorem bg_35 : bW_35.all goodWord = true := by decide +kernel
theorem bg_36 : bW_36.all goodWord = true := by decide +kernel
theorem all_app {a b : List Cond} (ha : a.all goodWord = true) (hb : b.all goodWord = true) : (a ++ b).all goodWord = true := by rw [List.all_append, ha, hb]; rfl
theorem bgG_0 : bG_0.all goodWord = true := all_app bg_0 (all_app bg_1 (all_app bg_2 (all_app bg_3 (all_app bg_4 (all_app bg_5 (all_app bg_6 (bg_7)))))))
theorem bgG_1 : bG_1.all goodWord = true := all_app bg_8 (all_app bg_9 (all_app bg_10 (all_app bg_11 (all_app bg_12 (all_app bg_13 (all_app bg_14 (bg_15)))))))
theorem bgG_2 : bG_2.all goodWord = true := all_app bg_16 (all_app bg_17 (all_app bg_18 (all_app bg_19 (all_app bg_20 (all_app bg_21 (all_app bg_22 (bg_23)))))))
theorem bgG_3 : bG_3.all goodWord = true := all_app bg_24 (all_app bg_25 (all_app bg_26 (all_app bg_27 (all_app bg_28 (all_app bg_29 (all_app bg_30 (bg_31)))))))
theorem bgG_4 : bG_4.all goodWord = true := all_app bg_32 (all_app bg_33 (all_app bg_34 (all_app bg_35 (bg_36))))
theorem bigW_good : bigW.all goodWord = true := all_app bgG_0 (all_app bgG_1 (all_app bgG_2 (all_app bgG_3 (bgG_4))))
