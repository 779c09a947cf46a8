/-! ===== BEGIN printed: names, fields, word lists, decode rows ===== -/
def RX0 : String := "CatalogueHarvester$FarCatalogue"
def TX0 : u_T := fun k => match k with
  | 0 => ("CatalogueHarvester$FarCatalogue", "records", "LCatalogueHarvester$Records;", true)
  | 1 => ("CatalogueHarvester$FarCatalogue", "isTold", "[Z", true)
  | 2 => ("CatalogueHarvester$FarCatalogue", "toldStamps", "[I", true)
  | 3 => ("CatalogueHarvester$FarCatalogue", "removalDays", "[I", true)
  | 4 => ("CatalogueHarvester$FarCatalogue", "unit", "I", false)
  | _ => ("CatalogueHarvester$FarCatalogue", "deletes", "I", false)
def tyX0 : Nat → FieldType := fun k => match k with
  | 0 => .object "CatalogueHarvester$Records"
  | 1 => .array .boolean
  | 2 => .array .int
  | 3 => .array .int
  | 4 => .int
  | _ => .int
abbrev wsX00 : List Cond := u_ws RX0 TX0 6
theorem nmX0 : ∀ a, a < 6 → ∀ b, b < 6 → a ≠ b → (TX0 a).2.1 ≠ (TX0 b).2.1 := by decide +kernel
theorem tyX0_ok : ∀ k, k < 6 → parseFieldDescriptor (TX0 k).2.2.1 = some (tyX0 k) := by decide +kernel
abbrev cX0_init : ByteArray := prog_2_method_1_code
def yX0_init : MethodName := ⟨RX0, "<init>", "()V"⟩
abbrev cX0_stampOfDay : ByteArray := prog_2_method_2_code
def yX0_stampOfDay : MethodName := ⟨RX0, "stampOfDay", "(I)I"⟩
abbrev cX0_change : ByteArray := prog_2_method_3_code
def yX0_change : MethodName := ⟨RX0, "change", "(IIII)I"⟩
abbrev cX0_delete : ByteArray := prog_2_method_4_code
def yX0_delete : MethodName := ⟨RX0, "delete", "(II)Z"⟩
abbrev cX0_forgetToldDeletes : ByteArray := prog_2_method_5_code
def yX0_forgetToldDeletes : MethodName := ⟨RX0, "forgetToldDeletes", "(I)V"⟩
abbrev cX0_countTold : ByteArray := prog_2_method_6_code
def yX0_countTold : MethodName := ⟨RX0, "countTold", "()I"⟩
abbrev cX0_listedStamp : ByteArray := prog_2_method_7_code
def yX0_listedStamp : MethodName := ⟨RX0, "listedStamp", "(I)I"⟩
abbrev cX0_nextListed : ByteArray := prog_2_method_8_code
def yX0_nextListed : MethodName := ⟨RX0, "nextListed", "(III)I"⟩
def RX1 : String := "CatalogueHarvester$Harvest"
def TX1 : u_T := fun k => match k with
  | 0 => ("CatalogueHarvester$Harvest", "far", "LCatalogueHarvester$FarCatalogue;", true)
  | 1 => ("CatalogueHarvester$Harvest", "store", "LCatalogueHarvester$Records;", true)
  | 2 => ("CatalogueHarvester$Harvest", "mark", "I", false)
  | 3 => ("CatalogueHarvester$Harvest", "hasOpenList", "Z", false)
  | 4 => ("CatalogueHarvester$Harvest", "isFullList", "Z", false)
  | 5 => ("CatalogueHarvester$Harvest", "openingDay", "I", false)
  | 6 => ("CatalogueHarvester$Harvest", "tokenDay", "I", false)
  | 7 => ("CatalogueHarvester$Harvest", "placeStamp", "I", false)
  | 8 => ("CatalogueHarvester$Harvest", "placeRecord", "I", false)
  | _ => ("CatalogueHarvester$Harvest", "isTakenOver", "[Z", true)
def tyX1 : Nat → FieldType := fun k => match k with
  | 0 => .object "CatalogueHarvester$FarCatalogue"
  | 1 => .object "CatalogueHarvester$Records"
  | 2 => .int
  | 3 => .boolean
  | 4 => .boolean
  | 5 => .int
  | 6 => .int
  | 7 => .int
  | 8 => .int
  | _ => .array .boolean
abbrev wsX10 : List Cond := u_ws RX1 TX1 10
theorem nmX1 : ∀ a, a < 10 → ∀ b, b < 10 → a ≠ b → (TX1 a).2.1 ≠ (TX1 b).2.1 := by decide +kernel
theorem tyX1_ok : ∀ k, k < 10 → parseFieldDescriptor (TX1 k).2.2.1 = some (tyX1 k) := by decide +kernel
abbrev cX1_init : ByteArray := prog_3_method_1_code
def yX1_init : MethodName := ⟨RX1, "<init>", "()V"⟩
abbrev cX1_begin : ByteArray := prog_3_method_2_code
def yX1_begin : MethodName := ⟨RX1, "begin", "(ZI)V"⟩
abbrev cX1_firstStamp : ByteArray := prog_3_method_3_code
def yX1_firstStamp : MethodName := ⟨RX1, "firstStamp", "()I"⟩
abbrev cX1_takePage : ByteArray := prog_3_method_4_code
def yX1_takePage : MethodName := ⟨RX1, "takePage", "(I)I"⟩
abbrev cX1_nextOfList : ByteArray := prog_3_method_5_code
def yX1_nextOfList : MethodName := ⟨RX1, "nextOfList", "()I"⟩
abbrev cX1_takeOver : ByteArray := prog_3_method_6_code
def yX1_takeOver : MethodName := ⟨RX1, "takeOver", "(I)V"⟩
abbrev cX1_finish : ByteArray := prog_3_method_7_code
def yX1_finish : MethodName := ⟨RX1, "finish", "()V"⟩
abbrev cX1_dropWhatIsGone : ByteArray := prog_3_method_8_code
def yX1_dropWhatIsGone : MethodName := ⟨RX1, "dropWhatIsGone", "()V"⟩
def RX2 : String := "CatalogueHarvester$Records"
def TX2 : u_T := fun k => match k with
  | 0 => ("CatalogueHarvester$Records", "isThere", "[Z", true)
  | 1 => ("CatalogueHarvester$Records", "works", "[I", true)
  | 2 => ("CatalogueHarvester$Records", "values", "[I", true)
  | _ => ("CatalogueHarvester$Records", "stamps", "[I", true)
def tyX2 : Nat → FieldType := fun k => match k with
  | 0 => .array .boolean
  | 1 => .array .int
  | 2 => .array .int
  | _ => .array .int
abbrev wsX20 : List Cond := u_ws RX2 TX2 4
theorem nmX2 : ∀ a, a < 4 → ∀ b, b < 4 → a ≠ b → (TX2 a).2.1 ≠ (TX2 b).2.1 := by decide +kernel
theorem tyX2_ok : ∀ k, k < 4 → parseFieldDescriptor (TX2 k).2.2.1 = some (tyX2 k) := by decide +kernel
abbrev cX2_init : ByteArray := prog_4_method_1_code
def yX2_init : MethodName := ⟨RX2, "<init>", "()V"⟩
abbrev cX2_keep : ByteArray := prog_4_method_2_code
def yX2_keep : MethodName := ⟨RX2, "keep", "(IIII)V"⟩
abbrev cX2_drop : ByteArray := prog_4_method_3_code
def yX2_drop : MethodName := ⟨RX2, "drop", "(I)V"⟩
abbrev cX2_count : ByteArray := prog_4_method_4_code
def yX2_count : MethodName := ⟨RX2, "count", "()I"⟩
abbrev cX2_countOfWork : ByteArray := prog_4_method_5_code
def yX2_countOfWork : MethodName := ⟨RX2, "countOfWork", "(I)I"⟩
abbrev cX2_countUnlike : ByteArray := prog_4_method_6_code
def yX2_countUnlike : MethodName := ⟨RX2, "countUnlike", "(LCatalogueHarvester$Records;)I"⟩
abbrev cX2_isLike : ByteArray := prog_4_method_7_code
def yX2_isLike : MethodName := ⟨RX2, "isLike", "(LCatalogueHarvester$Records;I)Z"⟩
abbrev cX2_latestOfWork : ByteArray := prog_4_method_8_code
def yX2_latestOfWork : MethodName := ⟨RX2, "latestOfWork", "(I)I"⟩
def RX3 : String := "CatalogueHarvester"
def TX3 : u_T := fun k => match k with
  | 0 => ("CatalogueHarvester", "harvests", "[LCatalogueHarvester$Harvest;", true)
  | _ => ("CatalogueHarvester", "today", "I", false)
def tyX3 : Nat → FieldType := fun k => match k with
  | 0 => .array (.object "CatalogueHarvester$Harvest")
  | _ => .int
abbrev wsX30 : List Cond := u_ws RX3 TX3 2
theorem nmX3 : ∀ a, a < 2 → ∀ b, b < 2 → a ≠ b → (TX3 a).2.1 ≠ (TX3 b).2.1 := by decide +kernel
theorem tyX3_ok : ∀ k, k < 2 → parseFieldDescriptor (TX3 k).2.2.1 = some (tyX3 k) := by decide +kernel
abbrev cX3_init : ByteArray := prog_1_method_1_code
def yX3_init : MethodName := ⟨RX3, "<init>", "()V"⟩
abbrev cX3_setCatalogue : ByteArray := prog_1_method_2_code
def yX3_setCatalogue : MethodName := ⟨RX3, "setCatalogue", "(III)I"⟩
abbrev cX3_put : ByteArray := prog_1_method_3_code
def yX3_put : MethodName := ⟨RX3, "put", "(IIII)I"⟩
abbrev cX3_remove : ByteArray := prog_1_method_4_code
def yX3_remove : MethodName := ⟨RX3, "remove", "(II)Z"⟩
abbrev cX3_pass : ByteArray := prog_1_method_5_code
def yX3_pass : MethodName := ⟨RX3, "pass", "(I)I"⟩
abbrev cX3_today : ByteArray := prog_1_method_6_code
def yX3_today : MethodName := ⟨RX3, "today", "()I"⟩
abbrev cX3_far : ByteArray := prog_1_method_7_code
def yX3_far : MethodName := ⟨RX3, "far", "(I)I"⟩
abbrev cX3_told : ByteArray := prog_1_method_8_code
def yX3_told : MethodName := ⟨RX3, "told", "(I)I"⟩
abbrev cX3_open : ByteArray := prog_1_method_9_code
def yX3_open : MethodName := ⟨RX3, "open", "(IZ)I"⟩
abbrev cX3_read : ByteArray := prog_1_method_10_code
def yX3_read : MethodName := ⟨RX3, "read", "(I)I"⟩
abbrev cX3_isOpen : ByteArray := prog_1_method_11_code
def yX3_isOpen : MethodName := ⟨RX3, "isOpen", "(I)Z"⟩
abbrev cX3_mark : ByteArray := prog_1_method_12_code
def yX3_mark : MethodName := ⟨RX3, "mark", "(I)I"⟩
abbrev cX3_stored : ByteArray := prog_1_method_13_code
def yX3_stored : MethodName := ⟨RX3, "stored", "(II)I"⟩
abbrev cX3_held : ByteArray := prog_1_method_14_code
def yX3_held : MethodName := ⟨RX3, "held", "(I)I"⟩
abbrev cX3_wrong : ByteArray := prog_1_method_15_code
def yX3_wrong : MethodName := ⟨RX3, "wrong", "(I)I"⟩
abbrev cX3_copies : ByteArray := prog_1_method_16_code
def yX3_copies : MethodName := ⟨RX3, "copies", "(I)I"⟩
abbrev cX3_best : ByteArray := prog_1_method_17_code
def yX3_best : MethodName := ⟨RX3, "best", "(I)I"⟩
abbrev cX3_harvestOf : ByteArray := prog_1_method_18_code
def yX3_harvestOf : MethodName := ⟨RX3, "harvestOf", "(I)LCatalogueHarvester$Harvest;"⟩
abbrev cX3_refuseRecord : ByteArray := prog_1_method_19_code
def yX3_refuseRecord : MethodName := ⟨RX3, "refuseRecord", "(I)V"⟩
abbrev cX3_refuseOutside : ByteArray := prog_1_method_20_code
def yX3_refuseOutside : MethodName := ⟨RX3, "refuseOutside", "(III)V"⟩
def RX4 : String := "CatalogueHarvesterModel"
def TX4 : u_T := fun k => match k with
  | _ => ("", "", "", false)
def tyX4 : Nat → FieldType := fun k => match k with
  | _ => .int
abbrev wsX40 : List Cond := u_ws RX4 TX4 0
theorem nmX4 : ∀ a, a < 0 → ∀ b, b < 0 → a ≠ b → (TX4 a).2.1 ≠ (TX4 b).2.1 := by decide +kernel
theorem tyX4_ok : ∀ k, k < 0 → parseFieldDescriptor (TX4 k).2.2.1 = some (tyX4 k) := by decide +kernel
def RJ0 : String := "java/lang/String"
def TJ0 : u_T := fun k => match k with
  | _ => ("", "", "", false)
def tyJ0 : Nat → FieldType := fun k => match k with
  | _ => .int
abbrev wsJ00 : List Cond := u_ws RJ0 TJ0 0
theorem nmJ0 : ∀ a, a < 0 → ∀ b, b < 0 → a ≠ b → (TJ0 a).2.1 ≠ (TJ0 b).2.1 := by decide +kernel
theorem tyJ0_ok : ∀ k, k < 0 → parseFieldDescriptor (TJ0 k).2.2.1 = some (tyJ0 k) := by decide +kernel
def RL : String := "CatalogueHarvesterLaw"
abbrev cL_dice : ByteArray := method_2_code
def yL_dice : MethodName := ⟨RL, "dice", "([II)I"⟩
abbrev cL_far : ByteArray := method_3_code
def yL_far : MethodName := ⟨RL, "far", "(LCatalogueHarvester;IIIII)I"⟩
abbrev cL_near : ByteArray := method_4_code
def yL_near : MethodName := ⟨RL, "near", "(LCatalogueHarvester;III)I"⟩
abbrev cL_all : ByteArray := method_5_code
def yL_all : MethodName := ⟨RL, "all", "(LCatalogueHarvester;)J"⟩
abbrev cL_stampOf : ByteArray := method_6_code
def yL_stampOf : MethodName := ⟨RL, "stampOf", "(I)I"⟩
abbrev cL_areAll : ByteArray := method_7_code
def yL_areAll : MethodName := ⟨RL, "areAll", "(LCatalogueHarvester;[I[I[I)Z"⟩
abbrev cL_isRefused : ByteArray := method_8_code
def yL_isRefused : MethodName := ⟨RL, "isRefused", "(LCatalogueHarvester;[I[II)Z"⟩
abbrev cL_clear : ByteArray := method_9_code
def yL_clear : MethodName := ⟨RL, "clear", "([I[I[III)V"⟩
abbrev cL_isPut : ByteArray := method_10_code
def yL_isPut : MethodName := ⟨RL, "isPut", "(LCatalogueHarvester;[I[IIIII)Z"⟩
abbrev cL_isRemoved : ByteArray := method_11_code
def yL_isRemoved : MethodName := ⟨RL, "isRemoved", "(LCatalogueHarvester;[I[I[III)Z"⟩
abbrev cL_isRound : ByteArray := method_12_code
def yL_isRound : MethodName := ⟨RL, "isRound", "(LCatalogueHarvester;[I[I[IIZ)Z"⟩
abbrev cL_isPage : ByteArray := method_13_code
def yL_isPage : MethodName := ⟨RL, "isPage", "(LCatalogueHarvester;[I[I[II)Z"⟩
abbrev cL_isKnown : ByteArray := method_14_code
def yL_isKnown : MethodName := ⟨RL, "isKnown", "(LCatalogueHarvester;[I[I[II)Z"⟩
abbrev cL_law : ByteArray := code
def yL_law : MethodName := ⟨RL, "law", "([I)Z"⟩
def wsX2_init : List Cond := .code yX2_init cX2_init 1 none :: ([.methodLink RX2 3 objectInit, .instanceMethod objectInit, .code objectInit ⟨#[0xb1]⟩ 1 none, .arrayClass .boolean, .fieldLink RX2 9 "CatalogueHarvester$Records" "isThere" "[Z", .arrayClass .int, .fieldLink RX2 15 "CatalogueHarvester$Records" "works" "[I", .fieldLink RX2 19 "CatalogueHarvester$Records" "values" "[I", .fieldLink RX2 22 "CatalogueHarvester$Records" "stamps" "[I"] ++ wsX20)
def wsX0_init : List Cond := .code yX0_init cX0_init 1 none :: ([.methodLink RX0 3 objectInit, .instanceMethod objectInit, .code objectInit ⟨#[0xb1]⟩ 1 none, .classLink RX0 9 RX2, .instantiable RX2 4, .initialized RX2, .fieldLink RX0 12 "CatalogueHarvester$FarCatalogue" "records" "LCatalogueHarvester$Records;", .arrayClass .boolean, .fieldLink RX0 18 "CatalogueHarvester$FarCatalogue" "isTold" "[Z", .arrayClass .int, .fieldLink RX0 22 "CatalogueHarvester$FarCatalogue" "toldStamps" "[I", .fieldLink RX0 26 "CatalogueHarvester$FarCatalogue" "removalDays" "[I", .fieldLink RX0 29 "CatalogueHarvester$FarCatalogue" "unit" "I", .fieldLink RX0 33 "CatalogueHarvester$FarCatalogue" "deletes" "I", .instanceMethod yX2_init, .code yX2_init cX2_init 1 none, .methodLink RX2 3 objectInit, .fieldLink RX2 9 "CatalogueHarvester$Records" "isThere" "[Z", .fieldLink RX2 15 "CatalogueHarvester$Records" "works" "[I", .fieldLink RX2 19 "CatalogueHarvester$Records" "values" "[I", .fieldLink RX2 22 "CatalogueHarvester$Records" "stamps" "[I"] ++ wsX20 ++ wsX00)
def wsX0_stampOfDay : List Cond := .code yX0_stampOfDay cX0_stampOfDay 2 (some .int) :: ([.fieldLink RX0 29 "CatalogueHarvester$FarCatalogue" "unit" "I"] ++ wsX00)
def wsX2_keep : List Cond := .code yX2_keep cX2_keep 5 none :: ([.fieldLink RX2 9 "CatalogueHarvester$Records" "isThere" "[Z", .fieldLink RX2 15 "CatalogueHarvester$Records" "works" "[I", .fieldLink RX2 19 "CatalogueHarvester$Records" "values" "[I", .fieldLink RX2 22 "CatalogueHarvester$Records" "stamps" "[I"] ++ wsX20)
def wsX0_change : List Cond := .code yX0_change cX0_change 6 (some .int) :: ([.fieldLink RX0 12 "CatalogueHarvester$FarCatalogue" "records" "LCatalogueHarvester$Records;", .fieldLink RX0 18 "CatalogueHarvester$FarCatalogue" "isTold" "[Z", .methodLink RX0 36 yX0_stampOfDay, .instanceMethod yX0_stampOfDay, .selects RX0 yX0_stampOfDay yX0_stampOfDay, .initialized RX0, .code yX0_stampOfDay cX0_stampOfDay 2 (some .int), .fieldLink RX0 29 "CatalogueHarvester$FarCatalogue" "unit" "I", .methodLink RX0 40 yX2_keep, .instanceMethod yX2_keep, .selects RX2 yX2_keep yX2_keep, .initialized RX2, .code yX2_keep cX2_keep 5 none, .fieldLink RX2 9 "CatalogueHarvester$Records" "isThere" "[Z", .fieldLink RX2 15 "CatalogueHarvester$Records" "works" "[I", .fieldLink RX2 19 "CatalogueHarvester$Records" "values" "[I", .fieldLink RX2 22 "CatalogueHarvester$Records" "stamps" "[I"] ++ wsX00 ++ wsX20)
def wsX2_drop : List Cond := .code yX2_drop cX2_drop 2 none :: ([.fieldLink RX2 9 "CatalogueHarvester$Records" "isThere" "[Z"] ++ wsX20)
def wsX0_delete : List Cond := .code yX0_delete cX0_delete 3 (some .boolean) :: ([.fieldLink RX0 12 "CatalogueHarvester$FarCatalogue" "records" "LCatalogueHarvester$Records;", .fieldLink RX0 18 "CatalogueHarvester$FarCatalogue" "isTold" "[Z", .fieldLink RX0 33 "CatalogueHarvester$FarCatalogue" "deletes" "I", .fieldLink RX0 22 "CatalogueHarvester$FarCatalogue" "toldStamps" "[I", .fieldLink RX0 26 "CatalogueHarvester$FarCatalogue" "removalDays" "[I", .methodLink RX0 44 yX2_drop, .instanceMethod yX2_drop, .selects RX2 yX2_drop yX2_drop, .initialized RX2, .code yX2_drop cX2_drop 2 none, .fieldLink RX2 9 "CatalogueHarvester$Records" "isThere" "[Z", .methodLink RX0 36 yX0_stampOfDay, .instanceMethod yX0_stampOfDay, .selects RX0 yX0_stampOfDay yX0_stampOfDay, .initialized RX0, .code yX0_stampOfDay cX0_stampOfDay 2 (some .int), .fieldLink RX0 29 "CatalogueHarvester$FarCatalogue" "unit" "I"] ++ wsX00 ++ wsX20)
def wsX0_forgetToldDeletes : List Cond := .code yX0_forgetToldDeletes cX0_forgetToldDeletes 4 none :: ([.fieldLink RX0 26 "CatalogueHarvester$FarCatalogue" "removalDays" "[I", .fieldLink RX0 33 "CatalogueHarvester$FarCatalogue" "deletes" "I", .fieldLink RX0 18 "CatalogueHarvester$FarCatalogue" "isTold" "[Z"] ++ wsX00)
def wsX0_countTold : List Cond := .code yX0_countTold cX0_countTold 3 (some .int) :: ([.fieldLink RX0 18 "CatalogueHarvester$FarCatalogue" "isTold" "[Z"] ++ wsX00)
def wsX0_listedStamp : List Cond := .code yX0_listedStamp cX0_listedStamp 2 (some .int) :: ([.fieldLink RX0 12 "CatalogueHarvester$FarCatalogue" "records" "LCatalogueHarvester$Records;", .fieldLink RX0 48 "CatalogueHarvester$Records" "isThere" "[Z", .fieldLink RX0 51 "CatalogueHarvester$Records" "stamps" "[I", .fieldLink RX0 18 "CatalogueHarvester$FarCatalogue" "isTold" "[Z", .fieldLink RX0 22 "CatalogueHarvester$FarCatalogue" "toldStamps" "[I"] ++ wsX00 ++ wsX20)
def wsX0_nextListed : List Cond := .code yX0_nextListed cX0_nextListed 10 (some .int) :: ([.methodLink RX0 54 yX0_listedStamp, .instanceMethod yX0_listedStamp, .selects RX0 yX0_listedStamp yX0_listedStamp, .initialized RX0, .code yX0_listedStamp cX0_listedStamp 2 (some .int), .fieldLink RX0 12 "CatalogueHarvester$FarCatalogue" "records" "LCatalogueHarvester$Records;", .fieldLink RX0 48 "CatalogueHarvester$Records" "isThere" "[Z", .fieldLink RX0 51 "CatalogueHarvester$Records" "stamps" "[I", .fieldLink RX0 18 "CatalogueHarvester$FarCatalogue" "isTold" "[Z", .fieldLink RX0 22 "CatalogueHarvester$FarCatalogue" "toldStamps" "[I"] ++ wsX00 ++ wsX20)
def wsX1_init_r1 : List Cond := [Cond.methodLink RX1 3 objectInit, Cond.instanceMethod objectInit, Cond.code objectInit ⟨#[0xb1]⟩ 1 none, Cond.classLink RX1 9 RX0, Cond.instantiable RX0 6, Cond.initialized RX0, Cond.fieldLink RX1 12 "CatalogueHarvester$Harvest" "far" "LCatalogueHarvester$FarCatalogue;", Cond.classLink RX1 18 RX2, Cond.instantiable RX2 4, Cond.initialized RX2, Cond.fieldLink RX1 21 "CatalogueHarvester$Harvest" "store" "LCatalogueHarvester$Records;", Cond.fieldLink RX1 25 "CatalogueHarvester$Harvest" "mark" "I", Cond.fieldLink RX1 29 "CatalogueHarvester$Harvest" "hasOpenList" "Z", Cond.fieldLink RX1 33 "CatalogueHarvester$Harvest" "isFullList" "Z", Cond.fieldLink RX1 36 "CatalogueHarvester$Harvest" "openingDay" "I", Cond.fieldLink RX1 39 "CatalogueHarvester$Harvest" "tokenDay" "I", Cond.fieldLink RX1 42 "CatalogueHarvester$Harvest" "placeStamp" "I", Cond.fieldLink RX1 45 "CatalogueHarvester$Harvest" "placeRecord" "I", Cond.arrayClass .boolean, Cond.fieldLink RX1 48 "CatalogueHarvester$Harvest" "isTakenOver" "[Z", Cond.instanceMethod yX0_init, Cond.code yX0_init cX0_init 1 none, Cond.methodLink RX0 3 objectInit, Cond.classLink RX0 9 RX2]
def wsX1_init_r2 : List Cond := [Cond.fieldLink RX0 12 "CatalogueHarvester$FarCatalogue" "records" "LCatalogueHarvester$Records;", Cond.fieldLink RX0 18 "CatalogueHarvester$FarCatalogue" "isTold" "[Z", Cond.arrayClass .int, Cond.fieldLink RX0 22 "CatalogueHarvester$FarCatalogue" "toldStamps" "[I", Cond.fieldLink RX0 26 "CatalogueHarvester$FarCatalogue" "removalDays" "[I", Cond.fieldLink RX0 29 "CatalogueHarvester$FarCatalogue" "unit" "I", Cond.fieldLink RX0 33 "CatalogueHarvester$FarCatalogue" "deletes" "I", Cond.instanceMethod yX2_init, Cond.code yX2_init cX2_init 1 none, Cond.methodLink RX2 3 objectInit, Cond.fieldLink RX2 9 "CatalogueHarvester$Records" "isThere" "[Z", Cond.fieldLink RX2 15 "CatalogueHarvester$Records" "works" "[I", Cond.fieldLink RX2 19 "CatalogueHarvester$Records" "values" "[I", Cond.fieldLink RX2 22 "CatalogueHarvester$Records" "stamps" "[I"]
def wsX1_init : List Cond := .code yX1_init cX1_init 1 none :: ((wsX1_init_r1 ++ wsX1_init_r2) ++ wsX00 ++ wsX10 ++ wsX20)
def wsX1_begin : List Cond := .code yX1_begin cX1_begin 4 none :: ([.fieldLink RX1 29 "CatalogueHarvester$Harvest" "hasOpenList" "Z", .fieldLink RX1 33 "CatalogueHarvester$Harvest" "isFullList" "Z", .fieldLink RX1 36 "CatalogueHarvester$Harvest" "openingDay" "I", .fieldLink RX1 39 "CatalogueHarvester$Harvest" "tokenDay" "I", .fieldLink RX1 42 "CatalogueHarvester$Harvest" "placeStamp" "I", .fieldLink RX1 45 "CatalogueHarvester$Harvest" "placeRecord" "I", .fieldLink RX1 48 "CatalogueHarvester$Harvest" "isTakenOver" "[Z"] ++ wsX10)
def wsX1_firstStamp : List Cond := .code yX1_firstStamp cX1_firstStamp 1 (some .int) :: ([.fieldLink RX1 33 "CatalogueHarvester$Harvest" "isFullList" "Z", .fieldLink RX1 25 "CatalogueHarvester$Harvest" "mark" "I"] ++ wsX10)
def wsX1_nextOfList : List Cond := .code yX1_nextOfList cX1_nextOfList 1 (some .int) :: ([.fieldLink RX1 12 "CatalogueHarvester$Harvest" "far" "LCatalogueHarvester$FarCatalogue;", .fieldLink RX1 42 "CatalogueHarvester$Harvest" "placeStamp" "I", .fieldLink RX1 45 "CatalogueHarvester$Harvest" "placeRecord" "I", .methodLink RX1 67 yX1_firstStamp, .instanceMethod yX1_firstStamp, .selects RX1 yX1_firstStamp yX1_firstStamp, .initialized RX1, .code yX1_firstStamp cX1_firstStamp 1 (some .int), .fieldLink RX1 33 "CatalogueHarvester$Harvest" "isFullList" "Z", .fieldLink RX1 25 "CatalogueHarvester$Harvest" "mark" "I", .methodLink RX1 70 yX0_nextListed, .instanceMethod yX0_nextListed, .selects RX0 yX0_nextListed yX0_nextListed, .initialized RX0, .code yX0_nextListed cX0_nextListed 10 (some .int), .methodLink RX0 54 yX0_listedStamp, .instanceMethod yX0_listedStamp, .selects RX0 yX0_listedStamp yX0_listedStamp, .code yX0_listedStamp cX0_listedStamp 2 (some .int), .fieldLink RX0 12 "CatalogueHarvester$FarCatalogue" "records" "LCatalogueHarvester$Records;", .fieldLink RX0 48 "CatalogueHarvester$Records" "isThere" "[Z", .fieldLink RX0 51 "CatalogueHarvester$Records" "stamps" "[I", .fieldLink RX0 18 "CatalogueHarvester$FarCatalogue" "isTold" "[Z", .fieldLink RX0 22 "CatalogueHarvester$FarCatalogue" "toldStamps" "[I"] ++ wsX10 ++ wsX00 ++ wsX20)
def wsX1_takeOver_r1 : List Cond := [Cond.fieldLink RX1 12 "CatalogueHarvester$Harvest" "far" "LCatalogueHarvester$FarCatalogue;", Cond.fieldLink RX1 42 "CatalogueHarvester$Harvest" "placeStamp" "I", Cond.fieldLink RX1 45 "CatalogueHarvester$Harvest" "placeRecord" "I", Cond.fieldLink RX1 78 "CatalogueHarvester$FarCatalogue" "records" "LCatalogueHarvester$Records;", Cond.fieldLink RX1 81 "CatalogueHarvester$Records" "isThere" "[Z", Cond.fieldLink RX1 21 "CatalogueHarvester$Harvest" "store" "LCatalogueHarvester$Records;", Cond.fieldLink RX1 84 "CatalogueHarvester$Records" "works" "[I", Cond.fieldLink RX1 88 "CatalogueHarvester$Records" "values" "[I", Cond.fieldLink RX1 91 "CatalogueHarvester$Records" "stamps" "[I", Cond.fieldLink RX1 48 "CatalogueHarvester$Harvest" "isTakenOver" "[Z", Cond.methodLink RX1 74 yX0_listedStamp, Cond.instanceMethod yX0_listedStamp, Cond.selects RX0 yX0_listedStamp yX0_listedStamp, Cond.initialized RX0, Cond.code yX0_listedStamp cX0_listedStamp 2 (some .int), Cond.fieldLink RX0 12 "CatalogueHarvester$FarCatalogue" "records" "LCatalogueHarvester$Records;", Cond.fieldLink RX0 48 "CatalogueHarvester$Records" "isThere" "[Z", Cond.fieldLink RX0 51 "CatalogueHarvester$Records" "stamps" "[I", Cond.fieldLink RX0 18 "CatalogueHarvester$FarCatalogue" "isTold" "[Z", Cond.fieldLink RX0 22 "CatalogueHarvester$FarCatalogue" "toldStamps" "[I", Cond.methodLink RX1 94 yX2_keep, Cond.instanceMethod yX2_keep, Cond.selects RX2 yX2_keep yX2_keep, Cond.initialized RX2]
def wsX1_takeOver_r2 : List Cond := [Cond.code yX2_keep cX2_keep 5 none, Cond.fieldLink RX2 9 "CatalogueHarvester$Records" "isThere" "[Z", Cond.fieldLink RX2 15 "CatalogueHarvester$Records" "works" "[I", Cond.fieldLink RX2 19 "CatalogueHarvester$Records" "values" "[I", Cond.fieldLink RX2 22 "CatalogueHarvester$Records" "stamps" "[I", Cond.methodLink RX1 98 yX2_drop, Cond.instanceMethod yX2_drop, Cond.selects RX2 yX2_drop yX2_drop, Cond.code yX2_drop cX2_drop 2 none]
def wsX1_takeOver : List Cond := .code yX1_takeOver cX1_takeOver 3 none :: ((wsX1_takeOver_r1 ++ wsX1_takeOver_r2) ++ wsX10 ++ wsX00 ++ wsX20)
def wsX1_dropWhatIsGone : List Cond := .code yX1_dropWhatIsGone cX1_dropWhatIsGone 2 none :: ([.fieldLink RX1 48 "CatalogueHarvester$Harvest" "isTakenOver" "[Z", .fieldLink RX1 21 "CatalogueHarvester$Harvest" "store" "LCatalogueHarvester$Records;", .methodLink RX1 98 yX2_drop, .instanceMethod yX2_drop, .selects RX2 yX2_drop yX2_drop, .initialized RX2, .code yX2_drop cX2_drop 2 none, .fieldLink RX2 9 "CatalogueHarvester$Records" "isThere" "[Z"] ++ wsX10 ++ wsX20)
def wsX1_finish : List Cond := .code yX1_finish cX1_finish 1 none :: ([.fieldLink RX1 29 "CatalogueHarvester$Harvest" "hasOpenList" "Z", .fieldLink RX1 12 "CatalogueHarvester$Harvest" "far" "LCatalogueHarvester$FarCatalogue;", .fieldLink RX1 36 "CatalogueHarvester$Harvest" "openingDay" "I", .fieldLink RX1 25 "CatalogueHarvester$Harvest" "mark" "I", .fieldLink RX1 33 "CatalogueHarvester$Harvest" "isFullList" "Z", .methodLink RX1 101 yX0_stampOfDay, .instanceMethod yX0_stampOfDay, .selects RX0 yX0_stampOfDay yX0_stampOfDay, .initialized RX0, .code yX0_stampOfDay cX0_stampOfDay 2 (some .int), .fieldLink RX0 29 "CatalogueHarvester$FarCatalogue" "unit" "I", .methodLink RX1 104 yX1_dropWhatIsGone, .instanceMethod yX1_dropWhatIsGone, .selects RX1 yX1_dropWhatIsGone yX1_dropWhatIsGone, .initialized RX1, .code yX1_dropWhatIsGone cX1_dropWhatIsGone 2 none, .fieldLink RX1 48 "CatalogueHarvester$Harvest" "isTakenOver" "[Z", .fieldLink RX1 21 "CatalogueHarvester$Harvest" "store" "LCatalogueHarvester$Records;", .methodLink RX1 98 yX2_drop, .instanceMethod yX2_drop, .selects RX2 yX2_drop yX2_drop, .initialized RX2, .code yX2_drop cX2_drop 2 none, .fieldLink RX2 9 "CatalogueHarvester$Records" "isThere" "[Z"] ++ wsX10 ++ wsX00 ++ wsX20)
def wsX1_takePage_r1 : List Cond := [Cond.fieldLink RX1 39 "CatalogueHarvester$Harvest" "tokenDay" "I", Cond.fieldLink RX1 33 "CatalogueHarvester$Harvest" "isFullList" "Z", Cond.methodLink RX1 52 yX1_begin, Cond.instanceMethod yX1_begin, Cond.selects RX1 yX1_begin yX1_begin, Cond.initialized RX1, Cond.code yX1_begin cX1_begin 4 none, Cond.fieldLink RX1 29 "CatalogueHarvester$Harvest" "hasOpenList" "Z", Cond.fieldLink RX1 36 "CatalogueHarvester$Harvest" "openingDay" "I", Cond.fieldLink RX1 42 "CatalogueHarvester$Harvest" "placeStamp" "I", Cond.fieldLink RX1 45 "CatalogueHarvester$Harvest" "placeRecord" "I", Cond.fieldLink RX1 48 "CatalogueHarvester$Harvest" "isTakenOver" "[Z", Cond.methodLink RX1 56 yX1_nextOfList, Cond.instanceMethod yX1_nextOfList, Cond.selects RX1 yX1_nextOfList yX1_nextOfList, Cond.code yX1_nextOfList cX1_nextOfList 1 (some .int), Cond.fieldLink RX1 12 "CatalogueHarvester$Harvest" "far" "LCatalogueHarvester$FarCatalogue;", Cond.methodLink RX1 67 yX1_firstStamp, Cond.instanceMethod yX1_firstStamp, Cond.selects RX1 yX1_firstStamp yX1_firstStamp, Cond.code yX1_firstStamp cX1_firstStamp 1 (some .int), Cond.fieldLink RX1 25 "CatalogueHarvester$Harvest" "mark" "I", Cond.methodLink RX1 70 yX0_nextListed, Cond.instanceMethod yX0_nextListed]
def wsX1_takePage_r2 : List Cond := [Cond.selects RX0 yX0_nextListed yX0_nextListed, Cond.initialized RX0, Cond.code yX0_nextListed cX0_nextListed 10 (some .int), Cond.methodLink RX0 54 yX0_listedStamp, Cond.instanceMethod yX0_listedStamp, Cond.selects RX0 yX0_listedStamp yX0_listedStamp, Cond.code yX0_listedStamp cX0_listedStamp 2 (some .int), Cond.fieldLink RX0 12 "CatalogueHarvester$FarCatalogue" "records" "LCatalogueHarvester$Records;", Cond.fieldLink RX0 48 "CatalogueHarvester$Records" "isThere" "[Z", Cond.fieldLink RX0 51 "CatalogueHarvester$Records" "stamps" "[I", Cond.fieldLink RX0 18 "CatalogueHarvester$FarCatalogue" "isTold" "[Z", Cond.fieldLink RX0 22 "CatalogueHarvester$FarCatalogue" "toldStamps" "[I", Cond.methodLink RX1 60 yX1_takeOver, Cond.instanceMethod yX1_takeOver, Cond.selects RX1 yX1_takeOver yX1_takeOver, Cond.code yX1_takeOver cX1_takeOver 3 none, Cond.fieldLink RX1 78 "CatalogueHarvester$FarCatalogue" "records" "LCatalogueHarvester$Records;", Cond.fieldLink RX1 81 "CatalogueHarvester$Records" "isThere" "[Z", Cond.fieldLink RX1 21 "CatalogueHarvester$Harvest" "store" "LCatalogueHarvester$Records;", Cond.fieldLink RX1 84 "CatalogueHarvester$Records" "works" "[I", Cond.fieldLink RX1 88 "CatalogueHarvester$Records" "values" "[I", Cond.fieldLink RX1 91 "CatalogueHarvester$Records" "stamps" "[I", Cond.methodLink RX1 74 yX0_listedStamp, Cond.methodLink RX1 94 yX2_keep]
def wsX1_takePage_r3 : List Cond := [Cond.instanceMethod yX2_keep, Cond.selects RX2 yX2_keep yX2_keep, Cond.initialized RX2, Cond.code yX2_keep cX2_keep 5 none, Cond.fieldLink RX2 9 "CatalogueHarvester$Records" "isThere" "[Z", Cond.fieldLink RX2 15 "CatalogueHarvester$Records" "works" "[I", Cond.fieldLink RX2 19 "CatalogueHarvester$Records" "values" "[I", Cond.fieldLink RX2 22 "CatalogueHarvester$Records" "stamps" "[I", Cond.methodLink RX1 98 yX2_drop, Cond.instanceMethod yX2_drop, Cond.selects RX2 yX2_drop yX2_drop, Cond.code yX2_drop cX2_drop 2 none, Cond.methodLink RX1 64 yX1_finish, Cond.instanceMethod yX1_finish, Cond.selects RX1 yX1_finish yX1_finish, Cond.code yX1_finish cX1_finish 1 none, Cond.methodLink RX1 101 yX0_stampOfDay, Cond.instanceMethod yX0_stampOfDay, Cond.selects RX0 yX0_stampOfDay yX0_stampOfDay, Cond.code yX0_stampOfDay cX0_stampOfDay 2 (some .int), Cond.fieldLink RX0 29 "CatalogueHarvester$FarCatalogue" "unit" "I", Cond.methodLink RX1 104 yX1_dropWhatIsGone, Cond.instanceMethod yX1_dropWhatIsGone, Cond.selects RX1 yX1_dropWhatIsGone yX1_dropWhatIsGone]
def wsX1_takePage_r4 : List Cond := [Cond.code yX1_dropWhatIsGone cX1_dropWhatIsGone 2 none]
def wsX1_takePage : List Cond := .code yX1_takePage cX1_takePage 4 (some .int) :: ((wsX1_takePage_r1 ++ (wsX1_takePage_r2 ++ (wsX1_takePage_r3 ++ wsX1_takePage_r4))) ++ wsX10 ++ wsX00 ++ wsX20)
def wsX2_count : List Cond := .code yX2_count cX2_count 3 (some .int) :: ([.fieldLink RX2 9 "CatalogueHarvester$Records" "isThere" "[Z"] ++ wsX20)
def wsX2_countOfWork : List Cond := .code yX2_countOfWork cX2_countOfWork 4 (some .int) :: ([.fieldLink RX2 9 "CatalogueHarvester$Records" "isThere" "[Z", .fieldLink RX2 15 "CatalogueHarvester$Records" "works" "[I"] ++ wsX20)
def wsX2_isLike : List Cond := .code yX2_isLike cX2_isLike 3 (some .boolean) :: ([.fieldLink RX2 9 "CatalogueHarvester$Records" "isThere" "[Z", .fieldLink RX2 15 "CatalogueHarvester$Records" "works" "[I", .fieldLink RX2 19 "CatalogueHarvester$Records" "values" "[I", .fieldLink RX2 22 "CatalogueHarvester$Records" "stamps" "[I"] ++ wsX20)
def wsX2_countUnlike : List Cond := .code yX2_countUnlike cX2_countUnlike 4 (some .int) :: ([.methodLink RX2 25 yX2_isLike, .instanceMethod yX2_isLike, .selects RX2 yX2_isLike yX2_isLike, .initialized RX2, .code yX2_isLike cX2_isLike 3 (some .boolean), .fieldLink RX2 9 "CatalogueHarvester$Records" "isThere" "[Z", .fieldLink RX2 15 "CatalogueHarvester$Records" "works" "[I", .fieldLink RX2 19 "CatalogueHarvester$Records" "values" "[I", .fieldLink RX2 22 "CatalogueHarvester$Records" "stamps" "[I"] ++ wsX20)
def wsX2_latestOfWork : List Cond := .code yX2_latestOfWork cX2_latestOfWork 5 (some .int) :: ([.fieldLink RX2 9 "CatalogueHarvester$Records" "isThere" "[Z", .fieldLink RX2 15 "CatalogueHarvester$Records" "works" "[I", .fieldLink RX2 22 "CatalogueHarvester$Records" "stamps" "[I"] ++ wsX20)
def wsX3_init_r1 : List Cond := [Cond.methodLink RX3 1 objectInit, Cond.instanceMethod objectInit, Cond.code objectInit ⟨#[0xb1]⟩ 1 none, Cond.classLink RX3 9 RX1, Cond.fieldLink RX3 11 "CatalogueHarvester" "harvests" "[LCatalogueHarvester$Harvest;", Cond.instantiable RX1 10, Cond.initialized RX1, Cond.fieldLink RX3 16 "CatalogueHarvester" "today" "I", Cond.instanceMethod yX1_init, Cond.code yX1_init cX1_init 1 none, Cond.methodLink RX1 3 objectInit, Cond.classLink RX1 9 RX0, Cond.instantiable RX0 6, Cond.initialized RX0, Cond.fieldLink RX1 12 "CatalogueHarvester$Harvest" "far" "LCatalogueHarvester$FarCatalogue;", Cond.classLink RX1 18 RX2, Cond.instantiable RX2 4, Cond.initialized RX2, Cond.fieldLink RX1 21 "CatalogueHarvester$Harvest" "store" "LCatalogueHarvester$Records;", Cond.fieldLink RX1 25 "CatalogueHarvester$Harvest" "mark" "I", Cond.fieldLink RX1 29 "CatalogueHarvester$Harvest" "hasOpenList" "Z", Cond.fieldLink RX1 33 "CatalogueHarvester$Harvest" "isFullList" "Z", Cond.fieldLink RX1 36 "CatalogueHarvester$Harvest" "openingDay" "I", Cond.fieldLink RX1 39 "CatalogueHarvester$Harvest" "tokenDay" "I"]
def wsX3_init_r2 : List Cond := [Cond.fieldLink RX1 42 "CatalogueHarvester$Harvest" "placeStamp" "I", Cond.fieldLink RX1 45 "CatalogueHarvester$Harvest" "placeRecord" "I", Cond.arrayClass .boolean, Cond.fieldLink RX1 48 "CatalogueHarvester$Harvest" "isTakenOver" "[Z", Cond.instanceMethod yX0_init, Cond.code yX0_init cX0_init 1 none, Cond.methodLink RX0 3 objectInit, Cond.classLink RX0 9 RX2, Cond.fieldLink RX0 12 "CatalogueHarvester$FarCatalogue" "records" "LCatalogueHarvester$Records;", Cond.fieldLink RX0 18 "CatalogueHarvester$FarCatalogue" "isTold" "[Z", Cond.arrayClass .int, Cond.fieldLink RX0 22 "CatalogueHarvester$FarCatalogue" "toldStamps" "[I", Cond.fieldLink RX0 26 "CatalogueHarvester$FarCatalogue" "removalDays" "[I", Cond.fieldLink RX0 29 "CatalogueHarvester$FarCatalogue" "unit" "I", Cond.fieldLink RX0 33 "CatalogueHarvester$FarCatalogue" "deletes" "I", Cond.instanceMethod yX2_init, Cond.code yX2_init cX2_init 1 none, Cond.methodLink RX2 3 objectInit, Cond.fieldLink RX2 9 "CatalogueHarvester$Records" "isThere" "[Z", Cond.fieldLink RX2 15 "CatalogueHarvester$Records" "works" "[I", Cond.fieldLink RX2 19 "CatalogueHarvester$Records" "values" "[I", Cond.fieldLink RX2 22 "CatalogueHarvester$Records" "stamps" "[I"]
def wsX3_init : List Cond := .code yX3_init cX3_init 2 none :: ((wsX3_init_r1 ++ wsX3_init_r2) ++ wsX30 ++ wsX10 ++ wsX00 ++ wsX20)
def wsX3_harvestOf : List Cond := .code yX3_harvestOf cX3_harvestOf 3 (some (.object "CatalogueHarvester$Harvest")) :: ([.classLink RX3 121 "java/lang/IllegalArgumentException", .initialized "java/lang/IllegalArgumentException", .fieldLink RX3 11 "CatalogueHarvester" "harvests" "[LCatalogueHarvester$Harvest;"] ++ wsX30 ++ (vx_atS RX3 125 "java/lang/IllegalArgumentException" ["java/lang/RuntimeException", "java/lang/Exception"]).filter goodWord)
def wsX3_refuseOutside : List Cond := .code yX3_refuseOutside cX3_refuseOutside 3 none :: ([.classLink RX3 121 "java/lang/IllegalArgumentException", .initialized "java/lang/IllegalArgumentException"] ++ (vx_atS RX3 125 "java/lang/IllegalArgumentException" ["java/lang/RuntimeException", "java/lang/Exception"]).filter goodWord)
def wsX3_setCatalogue : List Cond := .code yX3_setCatalogue cX3_setCatalogue 6 (some .int) :: ([.fieldLink RX3 28 "CatalogueHarvester$Harvest" "far" "LCatalogueHarvester$FarCatalogue;", .fieldLink RX3 32 "CatalogueHarvester$FarCatalogue" "unit" "I", .fieldLink RX3 37 "CatalogueHarvester$FarCatalogue" "deletes" "I", .fieldLink RX3 16 "CatalogueHarvester" "today" "I", .methodLink RX3 20 yX3_harvestOf, .instanceMethod yX3_harvestOf, .selects RX3 yX3_harvestOf yX3_harvestOf, .initialized RX3, .code yX3_harvestOf cX3_harvestOf 3 (some (.object "CatalogueHarvester$Harvest")), .classLink RX3 121 "java/lang/IllegalArgumentException", .initialized "java/lang/IllegalArgumentException", .fieldLink RX3 11 "CatalogueHarvester" "harvests" "[LCatalogueHarvester$Harvest;", .methodLink RX3 24 yX3_refuseOutside, .static yX3_refuseOutside, .code yX3_refuseOutside cX3_refuseOutside 3 none, .methodLink RX3 40 yX0_forgetToldDeletes, .instanceMethod yX0_forgetToldDeletes, .selects RX0 yX0_forgetToldDeletes yX0_forgetToldDeletes, .initialized RX0, .code yX0_forgetToldDeletes cX0_forgetToldDeletes 4 none, .fieldLink RX0 26 "CatalogueHarvester$FarCatalogue" "removalDays" "[I", .fieldLink RX0 33 "CatalogueHarvester$FarCatalogue" "deletes" "I", .fieldLink RX0 18 "CatalogueHarvester$FarCatalogue" "isTold" "[Z"] ++ wsX10 ++ wsX00 ++ wsX30 ++ (vx_atS RX3 125 "java/lang/IllegalArgumentException" ["java/lang/RuntimeException", "java/lang/Exception"]).filter goodWord)
def wsX3_refuseRecord : List Cond := .code yX3_refuseRecord cX3_refuseRecord 1 none :: ([.methodLink RX3 24 yX3_refuseOutside, .static yX3_refuseOutside, .initialized RX3, .code yX3_refuseOutside cX3_refuseOutside 3 none, .classLink RX3 121 "java/lang/IllegalArgumentException", .initialized "java/lang/IllegalArgumentException"] ++ (vx_atS RX3 125 "java/lang/IllegalArgumentException" ["java/lang/RuntimeException", "java/lang/Exception"]).filter goodWord)
def wsX3_put_r1 : List Cond := [Cond.fieldLink RX3 28 "CatalogueHarvester$Harvest" "far" "LCatalogueHarvester$FarCatalogue;", Cond.fieldLink RX3 16 "CatalogueHarvester" "today" "I", Cond.methodLink RX3 20 yX3_harvestOf, Cond.instanceMethod yX3_harvestOf, Cond.selects RX3 yX3_harvestOf yX3_harvestOf, Cond.initialized RX3, Cond.code yX3_harvestOf cX3_harvestOf 3 (some (.object "CatalogueHarvester$Harvest")), Cond.classLink RX3 121 "java/lang/IllegalArgumentException", Cond.initialized "java/lang/IllegalArgumentException", Cond.fieldLink RX3 11 "CatalogueHarvester" "harvests" "[LCatalogueHarvester$Harvest;", Cond.methodLink RX3 44 yX3_refuseRecord, Cond.static yX3_refuseRecord, Cond.code yX3_refuseRecord cX3_refuseRecord 1 none, Cond.methodLink RX3 24 yX3_refuseOutside, Cond.static yX3_refuseOutside, Cond.code yX3_refuseOutside cX3_refuseOutside 3 none, Cond.methodLink RX3 47 yX0_change, Cond.instanceMethod yX0_change, Cond.selects RX0 yX0_change yX0_change, Cond.initialized RX0, Cond.code yX0_change cX0_change 6 (some .int), Cond.fieldLink RX0 12 "CatalogueHarvester$FarCatalogue" "records" "LCatalogueHarvester$Records;", Cond.fieldLink RX0 18 "CatalogueHarvester$FarCatalogue" "isTold" "[Z", Cond.methodLink RX0 36 yX0_stampOfDay]
def wsX3_put_r2 : List Cond := [Cond.instanceMethod yX0_stampOfDay, Cond.selects RX0 yX0_stampOfDay yX0_stampOfDay, Cond.code yX0_stampOfDay cX0_stampOfDay 2 (some .int), Cond.fieldLink RX0 29 "CatalogueHarvester$FarCatalogue" "unit" "I", Cond.methodLink RX0 40 yX2_keep, Cond.instanceMethod yX2_keep, Cond.selects RX2 yX2_keep yX2_keep, Cond.initialized RX2, Cond.code yX2_keep cX2_keep 5 none, Cond.fieldLink RX2 9 "CatalogueHarvester$Records" "isThere" "[Z", Cond.fieldLink RX2 15 "CatalogueHarvester$Records" "works" "[I", Cond.fieldLink RX2 19 "CatalogueHarvester$Records" "values" "[I", Cond.fieldLink RX2 22 "CatalogueHarvester$Records" "stamps" "[I"]
def wsX3_put : List Cond := .code yX3_put cX3_put 6 (some .int) :: ((wsX3_put_r1 ++ wsX3_put_r2) ++ wsX10 ++ wsX30 ++ wsX00 ++ wsX20 ++ (vx_atS RX3 125 "java/lang/IllegalArgumentException" ["java/lang/RuntimeException", "java/lang/Exception"]).filter goodWord)
def wsX3_remove_r1 : List Cond := [Cond.classLink RX3 61 "java/lang/IllegalStateException", Cond.initialized "java/lang/IllegalStateException", Cond.fieldLink RX3 28 "CatalogueHarvester$Harvest" "far" "LCatalogueHarvester$FarCatalogue;", Cond.fieldLink RX3 51 "CatalogueHarvester$FarCatalogue" "records" "LCatalogueHarvester$Records;", Cond.fieldLink RX3 55 "CatalogueHarvester$Records" "isThere" "[Z", Cond.fieldLink RX3 16 "CatalogueHarvester" "today" "I", Cond.methodLink RX3 20 yX3_harvestOf, Cond.instanceMethod yX3_harvestOf, Cond.selects RX3 yX3_harvestOf yX3_harvestOf, Cond.initialized RX3, Cond.code yX3_harvestOf cX3_harvestOf 3 (some (.object "CatalogueHarvester$Harvest")), Cond.classLink RX3 121 "java/lang/IllegalArgumentException", Cond.initialized "java/lang/IllegalArgumentException", Cond.fieldLink RX3 11 "CatalogueHarvester" "harvests" "[LCatalogueHarvester$Harvest;", Cond.methodLink RX3 44 yX3_refuseRecord, Cond.static yX3_refuseRecord, Cond.code yX3_refuseRecord cX3_refuseRecord 1 none, Cond.methodLink RX3 24 yX3_refuseOutside, Cond.static yX3_refuseOutside, Cond.code yX3_refuseOutside cX3_refuseOutside 3 none, Cond.methodLink RX3 68 yX0_delete, Cond.instanceMethod yX0_delete, Cond.selects RX0 yX0_delete yX0_delete, Cond.initialized RX0]
def wsX3_remove_r2 : List Cond := [Cond.code yX0_delete cX0_delete 3 (some .boolean), Cond.fieldLink RX0 12 "CatalogueHarvester$FarCatalogue" "records" "LCatalogueHarvester$Records;", Cond.fieldLink RX0 18 "CatalogueHarvester$FarCatalogue" "isTold" "[Z", Cond.fieldLink RX0 33 "CatalogueHarvester$FarCatalogue" "deletes" "I", Cond.fieldLink RX0 22 "CatalogueHarvester$FarCatalogue" "toldStamps" "[I", Cond.fieldLink RX0 26 "CatalogueHarvester$FarCatalogue" "removalDays" "[I", Cond.methodLink RX0 44 yX2_drop, Cond.instanceMethod yX2_drop, Cond.selects RX2 yX2_drop yX2_drop, Cond.initialized RX2, Cond.code yX2_drop cX2_drop 2 none, Cond.fieldLink RX2 9 "CatalogueHarvester$Records" "isThere" "[Z", Cond.methodLink RX0 36 yX0_stampOfDay, Cond.instanceMethod yX0_stampOfDay, Cond.selects RX0 yX0_stampOfDay yX0_stampOfDay, Cond.code yX0_stampOfDay cX0_stampOfDay 2 (some .int), Cond.fieldLink RX0 29 "CatalogueHarvester$FarCatalogue" "unit" "I"]
def wsX3_remove : List Cond := .code yX3_remove cX3_remove 4 (some .boolean) :: ((wsX3_remove_r1 ++ wsX3_remove_r2) ++ wsX10 ++ wsX00 ++ wsX20 ++ wsX30 ++ (vx_atS RX3 65 "java/lang/IllegalStateException" ["java/lang/RuntimeException", "java/lang/Exception"]).filter goodWord ++ (vx_atS RX3 125 "java/lang/IllegalArgumentException" ["java/lang/RuntimeException", "java/lang/Exception"]).filter goodWord)
def wsX3_pass : List Cond := .code yX3_pass cX3_pass 3 (some .int) :: ([.classLink RX3 61 "java/lang/IllegalStateException", .initialized "java/lang/IllegalStateException", .fieldLink RX3 16 "CatalogueHarvester" "today" "I", .fieldLink RX3 28 "CatalogueHarvester$Harvest" "far" "LCatalogueHarvester$FarCatalogue;", .methodLink RX3 24 yX3_refuseOutside, .static yX3_refuseOutside, .initialized RX3, .code yX3_refuseOutside cX3_refuseOutside 3 none, .classLink RX3 121 "java/lang/IllegalArgumentException", .initialized "java/lang/IllegalArgumentException", .methodLink RX3 20 yX3_harvestOf, .instanceMethod yX3_harvestOf, .selects RX3 yX3_harvestOf yX3_harvestOf, .code yX3_harvestOf cX3_harvestOf 3 (some (.object "CatalogueHarvester$Harvest")), .fieldLink RX3 11 "CatalogueHarvester" "harvests" "[LCatalogueHarvester$Harvest;", .methodLink RX3 40 yX0_forgetToldDeletes, .instanceMethod yX0_forgetToldDeletes, .selects RX0 yX0_forgetToldDeletes yX0_forgetToldDeletes, .initialized RX0, .code yX0_forgetToldDeletes cX0_forgetToldDeletes 4 none, .fieldLink RX0 26 "CatalogueHarvester$FarCatalogue" "removalDays" "[I", .fieldLink RX0 33 "CatalogueHarvester$FarCatalogue" "deletes" "I", .fieldLink RX0 18 "CatalogueHarvester$FarCatalogue" "isTold" "[Z"] ++ wsX30 ++ wsX10 ++ wsX00 ++ (vx_atS RX3 65 "java/lang/IllegalStateException" ["java/lang/RuntimeException", "java/lang/Exception"]).filter goodWord ++ (vx_atS RX3 125 "java/lang/IllegalArgumentException" ["java/lang/RuntimeException", "java/lang/Exception"]).filter goodWord)
def wsX3_today : List Cond := .code yX3_today cX3_today 1 (some .int) :: ([.fieldLink RX3 16 "CatalogueHarvester" "today" "I"] ++ wsX30)
def wsX3_far : List Cond := .code yX3_far cX3_far 2 (some .int) :: ([.fieldLink RX3 28 "CatalogueHarvester$Harvest" "far" "LCatalogueHarvester$FarCatalogue;", .fieldLink RX3 51 "CatalogueHarvester$FarCatalogue" "records" "LCatalogueHarvester$Records;", .methodLink RX3 20 yX3_harvestOf, .instanceMethod yX3_harvestOf, .selects RX3 yX3_harvestOf yX3_harvestOf, .initialized RX3, .code yX3_harvestOf cX3_harvestOf 3 (some (.object "CatalogueHarvester$Harvest")), .classLink RX3 121 "java/lang/IllegalArgumentException", .initialized "java/lang/IllegalArgumentException", .fieldLink RX3 11 "CatalogueHarvester" "harvests" "[LCatalogueHarvester$Harvest;", .methodLink RX3 74 yX2_count, .instanceMethod yX2_count, .selects RX2 yX2_count yX2_count, .initialized RX2, .code yX2_count cX2_count 3 (some .int), .fieldLink RX2 9 "CatalogueHarvester$Records" "isThere" "[Z"] ++ wsX10 ++ wsX00 ++ wsX30 ++ wsX20 ++ (vx_atS RX3 125 "java/lang/IllegalArgumentException" ["java/lang/RuntimeException", "java/lang/Exception"]).filter goodWord)
def wsX3_told : List Cond := .code yX3_told cX3_told 2 (some .int) :: ([.fieldLink RX3 28 "CatalogueHarvester$Harvest" "far" "LCatalogueHarvester$FarCatalogue;", .methodLink RX3 20 yX3_harvestOf, .instanceMethod yX3_harvestOf, .selects RX3 yX3_harvestOf yX3_harvestOf, .initialized RX3, .code yX3_harvestOf cX3_harvestOf 3 (some (.object "CatalogueHarvester$Harvest")), .classLink RX3 121 "java/lang/IllegalArgumentException", .initialized "java/lang/IllegalArgumentException", .fieldLink RX3 11 "CatalogueHarvester" "harvests" "[LCatalogueHarvester$Harvest;", .methodLink RX3 78 yX0_countTold, .instanceMethod yX0_countTold, .selects RX0 yX0_countTold yX0_countTold, .initialized RX0, .code yX0_countTold cX0_countTold 3 (some .int), .fieldLink RX0 18 "CatalogueHarvester$FarCatalogue" "isTold" "[Z"] ++ wsX10 ++ wsX30 ++ wsX00 ++ (vx_atS RX3 125 "java/lang/IllegalArgumentException" ["java/lang/RuntimeException", "java/lang/Exception"]).filter goodWord)
def wsX3_open_r1 : List Cond := [Cond.fieldLink RX3 16 "CatalogueHarvester" "today" "I", Cond.methodLink RX3 20 yX3_harvestOf, Cond.instanceMethod yX3_harvestOf, Cond.selects RX3 yX3_harvestOf yX3_harvestOf, Cond.initialized RX3, Cond.code yX3_harvestOf cX3_harvestOf 3 (some (.object "CatalogueHarvester$Harvest")), Cond.classLink RX3 121 "java/lang/IllegalArgumentException", Cond.initialized "java/lang/IllegalArgumentException", Cond.fieldLink RX3 11 "CatalogueHarvester" "harvests" "[LCatalogueHarvester$Harvest;", Cond.methodLink RX3 81 yX1_begin, Cond.instanceMethod yX1_begin, Cond.selects RX1 yX1_begin yX1_begin, Cond.initialized RX1, Cond.code yX1_begin cX1_begin 4 none, Cond.fieldLink RX1 29 "CatalogueHarvester$Harvest" "hasOpenList" "Z", Cond.fieldLink RX1 33 "CatalogueHarvester$Harvest" "isFullList" "Z", Cond.fieldLink RX1 36 "CatalogueHarvester$Harvest" "openingDay" "I", Cond.fieldLink RX1 39 "CatalogueHarvester$Harvest" "tokenDay" "I", Cond.fieldLink RX1 42 "CatalogueHarvester$Harvest" "placeStamp" "I", Cond.fieldLink RX1 45 "CatalogueHarvester$Harvest" "placeRecord" "I", Cond.fieldLink RX1 48 "CatalogueHarvester$Harvest" "isTakenOver" "[Z", Cond.methodLink RX3 85 yX1_firstStamp, Cond.instanceMethod yX1_firstStamp, Cond.selects RX1 yX1_firstStamp yX1_firstStamp]
def wsX3_open_r2 : List Cond := [Cond.code yX1_firstStamp cX1_firstStamp 1 (some .int), Cond.fieldLink RX1 25 "CatalogueHarvester$Harvest" "mark" "I"]
def wsX3_open : List Cond := .code yX3_open cX3_open 4 (some .int) :: ((wsX3_open_r1 ++ wsX3_open_r2) ++ wsX30 ++ wsX10 ++ (vx_atS RX3 125 "java/lang/IllegalArgumentException" ["java/lang/RuntimeException", "java/lang/Exception"]).filter goodWord)
def wsX3_read_r1 : List Cond := [Cond.classLink RX3 61 "java/lang/IllegalStateException", Cond.initialized "java/lang/IllegalStateException", Cond.fieldLink RX3 88 "CatalogueHarvester$Harvest" "hasOpenList" "Z", Cond.fieldLink RX3 16 "CatalogueHarvester" "today" "I", Cond.methodLink RX3 20 yX3_harvestOf, Cond.instanceMethod yX3_harvestOf, Cond.selects RX3 yX3_harvestOf yX3_harvestOf, Cond.initialized RX3, Cond.code yX3_harvestOf cX3_harvestOf 3 (some (.object "CatalogueHarvester$Harvest")), Cond.classLink RX3 121 "java/lang/IllegalArgumentException", Cond.initialized "java/lang/IllegalArgumentException", Cond.fieldLink RX3 11 "CatalogueHarvester" "harvests" "[LCatalogueHarvester$Harvest;", Cond.methodLink RX3 94 yX1_takePage, Cond.instanceMethod yX1_takePage, Cond.selects RX1 yX1_takePage yX1_takePage, Cond.initialized RX1, Cond.code yX1_takePage cX1_takePage 4 (some .int), Cond.fieldLink RX1 39 "CatalogueHarvester$Harvest" "tokenDay" "I", Cond.fieldLink RX1 33 "CatalogueHarvester$Harvest" "isFullList" "Z", Cond.methodLink RX1 52 yX1_begin, Cond.instanceMethod yX1_begin, Cond.selects RX1 yX1_begin yX1_begin, Cond.code yX1_begin cX1_begin 4 none, Cond.fieldLink RX1 29 "CatalogueHarvester$Harvest" "hasOpenList" "Z"]
def wsX3_read_r2 : List Cond := [Cond.fieldLink RX1 36 "CatalogueHarvester$Harvest" "openingDay" "I", Cond.fieldLink RX1 42 "CatalogueHarvester$Harvest" "placeStamp" "I", Cond.fieldLink RX1 45 "CatalogueHarvester$Harvest" "placeRecord" "I", Cond.fieldLink RX1 48 "CatalogueHarvester$Harvest" "isTakenOver" "[Z", Cond.methodLink RX1 56 yX1_nextOfList, Cond.instanceMethod yX1_nextOfList, Cond.selects RX1 yX1_nextOfList yX1_nextOfList, Cond.code yX1_nextOfList cX1_nextOfList 1 (some .int), Cond.fieldLink RX1 12 "CatalogueHarvester$Harvest" "far" "LCatalogueHarvester$FarCatalogue;", Cond.methodLink RX1 67 yX1_firstStamp, Cond.instanceMethod yX1_firstStamp, Cond.selects RX1 yX1_firstStamp yX1_firstStamp, Cond.code yX1_firstStamp cX1_firstStamp 1 (some .int), Cond.fieldLink RX1 25 "CatalogueHarvester$Harvest" "mark" "I", Cond.methodLink RX1 70 yX0_nextListed, Cond.instanceMethod yX0_nextListed, Cond.selects RX0 yX0_nextListed yX0_nextListed, Cond.initialized RX0, Cond.code yX0_nextListed cX0_nextListed 10 (some .int), Cond.methodLink RX0 54 yX0_listedStamp, Cond.instanceMethod yX0_listedStamp, Cond.selects RX0 yX0_listedStamp yX0_listedStamp, Cond.code yX0_listedStamp cX0_listedStamp 2 (some .int), Cond.fieldLink RX0 12 "CatalogueHarvester$FarCatalogue" "records" "LCatalogueHarvester$Records;"]
def wsX3_read_r3 : List Cond := [Cond.fieldLink RX0 48 "CatalogueHarvester$Records" "isThere" "[Z", Cond.fieldLink RX0 51 "CatalogueHarvester$Records" "stamps" "[I", Cond.fieldLink RX0 18 "CatalogueHarvester$FarCatalogue" "isTold" "[Z", Cond.fieldLink RX0 22 "CatalogueHarvester$FarCatalogue" "toldStamps" "[I", Cond.methodLink RX1 60 yX1_takeOver, Cond.instanceMethod yX1_takeOver, Cond.selects RX1 yX1_takeOver yX1_takeOver, Cond.code yX1_takeOver cX1_takeOver 3 none, Cond.fieldLink RX1 78 "CatalogueHarvester$FarCatalogue" "records" "LCatalogueHarvester$Records;", Cond.fieldLink RX1 81 "CatalogueHarvester$Records" "isThere" "[Z", Cond.fieldLink RX1 21 "CatalogueHarvester$Harvest" "store" "LCatalogueHarvester$Records;", Cond.fieldLink RX1 84 "CatalogueHarvester$Records" "works" "[I", Cond.fieldLink RX1 88 "CatalogueHarvester$Records" "values" "[I", Cond.fieldLink RX1 91 "CatalogueHarvester$Records" "stamps" "[I", Cond.methodLink RX1 74 yX0_listedStamp, Cond.methodLink RX1 94 yX2_keep, Cond.instanceMethod yX2_keep, Cond.selects RX2 yX2_keep yX2_keep, Cond.initialized RX2, Cond.code yX2_keep cX2_keep 5 none, Cond.fieldLink RX2 9 "CatalogueHarvester$Records" "isThere" "[Z", Cond.fieldLink RX2 15 "CatalogueHarvester$Records" "works" "[I", Cond.fieldLink RX2 19 "CatalogueHarvester$Records" "values" "[I", Cond.fieldLink RX2 22 "CatalogueHarvester$Records" "stamps" "[I"]
def wsX3_read_r4 : List Cond := [Cond.methodLink RX1 98 yX2_drop, Cond.instanceMethod yX2_drop, Cond.selects RX2 yX2_drop yX2_drop, Cond.code yX2_drop cX2_drop 2 none, Cond.methodLink RX1 64 yX1_finish, Cond.instanceMethod yX1_finish, Cond.selects RX1 yX1_finish yX1_finish, Cond.code yX1_finish cX1_finish 1 none, Cond.methodLink RX1 101 yX0_stampOfDay, Cond.instanceMethod yX0_stampOfDay, Cond.selects RX0 yX0_stampOfDay yX0_stampOfDay, Cond.code yX0_stampOfDay cX0_stampOfDay 2 (some .int), Cond.fieldLink RX0 29 "CatalogueHarvester$FarCatalogue" "unit" "I", Cond.methodLink RX1 104 yX1_dropWhatIsGone, Cond.instanceMethod yX1_dropWhatIsGone, Cond.selects RX1 yX1_dropWhatIsGone yX1_dropWhatIsGone, Cond.code yX1_dropWhatIsGone cX1_dropWhatIsGone 2 none]
def wsX3_read : List Cond := .code yX3_read cX3_read 3 (some .int) :: ((wsX3_read_r1 ++ (wsX3_read_r2 ++ (wsX3_read_r3 ++ wsX3_read_r4))) ++ wsX10 ++ wsX30 ++ wsX00 ++ wsX20 ++ (vx_atS RX3 65 "java/lang/IllegalStateException" ["java/lang/RuntimeException", "java/lang/Exception"]).filter goodWord ++ (vx_atS RX3 125 "java/lang/IllegalArgumentException" ["java/lang/RuntimeException", "java/lang/Exception"]).filter goodWord)
def wsX3_isOpen : List Cond := .code yX3_isOpen cX3_isOpen 2 (some .boolean) :: ([.fieldLink RX3 88 "CatalogueHarvester$Harvest" "hasOpenList" "Z", .methodLink RX3 20 yX3_harvestOf, .instanceMethod yX3_harvestOf, .selects RX3 yX3_harvestOf yX3_harvestOf, .initialized RX3, .code yX3_harvestOf cX3_harvestOf 3 (some (.object "CatalogueHarvester$Harvest")), .classLink RX3 121 "java/lang/IllegalArgumentException", .initialized "java/lang/IllegalArgumentException", .fieldLink RX3 11 "CatalogueHarvester" "harvests" "[LCatalogueHarvester$Harvest;"] ++ wsX10 ++ wsX30 ++ (vx_atS RX3 125 "java/lang/IllegalArgumentException" ["java/lang/RuntimeException", "java/lang/Exception"]).filter goodWord)
def wsX3_mark : List Cond := .code yX3_mark cX3_mark 2 (some .int) :: ([.fieldLink RX3 98 "CatalogueHarvester$Harvest" "mark" "I", .methodLink RX3 20 yX3_harvestOf, .instanceMethod yX3_harvestOf, .selects RX3 yX3_harvestOf yX3_harvestOf, .initialized RX3, .code yX3_harvestOf cX3_harvestOf 3 (some (.object "CatalogueHarvester$Harvest")), .classLink RX3 121 "java/lang/IllegalArgumentException", .initialized "java/lang/IllegalArgumentException", .fieldLink RX3 11 "CatalogueHarvester" "harvests" "[LCatalogueHarvester$Harvest;"] ++ wsX10 ++ wsX30 ++ (vx_atS RX3 125 "java/lang/IllegalArgumentException" ["java/lang/RuntimeException", "java/lang/Exception"]).filter goodWord)
def wsX3_stored : List Cond := .code yX3_stored cX3_stored 4 (some .int) :: ([.fieldLink RX3 101 "CatalogueHarvester$Harvest" "store" "LCatalogueHarvester$Records;", .fieldLink RX3 55 "CatalogueHarvester$Records" "isThere" "[Z", .fieldLink RX3 104 "CatalogueHarvester$Records" "values" "[I", .methodLink RX3 20 yX3_harvestOf, .instanceMethod yX3_harvestOf, .selects RX3 yX3_harvestOf yX3_harvestOf, .initialized RX3, .code yX3_harvestOf cX3_harvestOf 3 (some (.object "CatalogueHarvester$Harvest")), .classLink RX3 121 "java/lang/IllegalArgumentException", .initialized "java/lang/IllegalArgumentException", .fieldLink RX3 11 "CatalogueHarvester" "harvests" "[LCatalogueHarvester$Harvest;", .methodLink RX3 44 yX3_refuseRecord, .static yX3_refuseRecord, .code yX3_refuseRecord cX3_refuseRecord 1 none, .methodLink RX3 24 yX3_refuseOutside, .static yX3_refuseOutside, .code yX3_refuseOutside cX3_refuseOutside 3 none] ++ wsX10 ++ wsX20 ++ wsX30 ++ (vx_atS RX3 125 "java/lang/IllegalArgumentException" ["java/lang/RuntimeException", "java/lang/Exception"]).filter goodWord)
def wsX3_held : List Cond := .code yX3_held cX3_held 2 (some .int) :: ([.fieldLink RX3 101 "CatalogueHarvester$Harvest" "store" "LCatalogueHarvester$Records;", .methodLink RX3 20 yX3_harvestOf, .instanceMethod yX3_harvestOf, .selects RX3 yX3_harvestOf yX3_harvestOf, .initialized RX3, .code yX3_harvestOf cX3_harvestOf 3 (some (.object "CatalogueHarvester$Harvest")), .classLink RX3 121 "java/lang/IllegalArgumentException", .initialized "java/lang/IllegalArgumentException", .fieldLink RX3 11 "CatalogueHarvester" "harvests" "[LCatalogueHarvester$Harvest;", .methodLink RX3 74 yX2_count, .instanceMethod yX2_count, .selects RX2 yX2_count yX2_count, .initialized RX2, .code yX2_count cX2_count 3 (some .int), .fieldLink RX2 9 "CatalogueHarvester$Records" "isThere" "[Z"] ++ wsX10 ++ wsX30 ++ wsX20 ++ (vx_atS RX3 125 "java/lang/IllegalArgumentException" ["java/lang/RuntimeException", "java/lang/Exception"]).filter goodWord)
def wsX3_wrong : List Cond := .code yX3_wrong cX3_wrong 3 (some .int) :: ([.fieldLink RX3 101 "CatalogueHarvester$Harvest" "store" "LCatalogueHarvester$Records;", .fieldLink RX3 28 "CatalogueHarvester$Harvest" "far" "LCatalogueHarvester$FarCatalogue;", .fieldLink RX3 51 "CatalogueHarvester$FarCatalogue" "records" "LCatalogueHarvester$Records;", .methodLink RX3 20 yX3_harvestOf, .instanceMethod yX3_harvestOf, .selects RX3 yX3_harvestOf yX3_harvestOf, .initialized RX3, .code yX3_harvestOf cX3_harvestOf 3 (some (.object "CatalogueHarvester$Harvest")), .classLink RX3 121 "java/lang/IllegalArgumentException", .initialized "java/lang/IllegalArgumentException", .fieldLink RX3 11 "CatalogueHarvester" "harvests" "[LCatalogueHarvester$Harvest;", .methodLink RX3 108 yX2_countUnlike, .instanceMethod yX2_countUnlike, .selects RX2 yX2_countUnlike yX2_countUnlike, .initialized RX2, .code yX2_countUnlike cX2_countUnlike 4 (some .int), .methodLink RX2 25 yX2_isLike, .instanceMethod yX2_isLike, .selects RX2 yX2_isLike yX2_isLike, .code yX2_isLike cX2_isLike 3 (some .boolean), .fieldLink RX2 9 "CatalogueHarvester$Records" "isThere" "[Z", .fieldLink RX2 15 "CatalogueHarvester$Records" "works" "[I", .fieldLink RX2 19 "CatalogueHarvester$Records" "values" "[I", .fieldLink RX2 22 "CatalogueHarvester$Records" "stamps" "[I"] ++ wsX10 ++ wsX00 ++ wsX30 ++ wsX20 ++ (vx_atS RX3 125 "java/lang/IllegalArgumentException" ["java/lang/RuntimeException", "java/lang/Exception"]).filter goodWord)
def wsX3_copies : List Cond := .code yX3_copies cX3_copies 4 (some .int) :: ([.fieldLink RX3 101 "CatalogueHarvester$Harvest" "store" "LCatalogueHarvester$Records;", .methodLink RX3 24 yX3_refuseOutside, .static yX3_refuseOutside, .initialized RX3, .code yX3_refuseOutside cX3_refuseOutside 3 none, .classLink RX3 121 "java/lang/IllegalArgumentException", .initialized "java/lang/IllegalArgumentException", .methodLink RX3 20 yX3_harvestOf, .instanceMethod yX3_harvestOf, .selects RX3 yX3_harvestOf yX3_harvestOf, .code yX3_harvestOf cX3_harvestOf 3 (some (.object "CatalogueHarvester$Harvest")), .fieldLink RX3 11 "CatalogueHarvester" "harvests" "[LCatalogueHarvester$Harvest;", .methodLink RX3 112 yX2_countOfWork, .instanceMethod yX2_countOfWork, .selects RX2 yX2_countOfWork yX2_countOfWork, .initialized RX2, .code yX2_countOfWork cX2_countOfWork 4 (some .int), .fieldLink RX2 9 "CatalogueHarvester$Records" "isThere" "[Z", .fieldLink RX2 15 "CatalogueHarvester$Records" "works" "[I"] ++ wsX10 ++ wsX30 ++ wsX20 ++ (vx_atS RX3 125 "java/lang/IllegalArgumentException" ["java/lang/RuntimeException", "java/lang/Exception"]).filter goodWord)
def wsX3_best : List Cond := .code yX3_best cX3_best 7 (some .int) :: ([.fieldLink RX3 101 "CatalogueHarvester$Harvest" "store" "LCatalogueHarvester$Records;", .fieldLink RX3 118 "CatalogueHarvester$Records" "stamps" "[I", .methodLink RX3 24 yX3_refuseOutside, .static yX3_refuseOutside, .initialized RX3, .code yX3_refuseOutside cX3_refuseOutside 3 none, .classLink RX3 121 "java/lang/IllegalArgumentException", .initialized "java/lang/IllegalArgumentException", .methodLink RX3 20 yX3_harvestOf, .instanceMethod yX3_harvestOf, .selects RX3 yX3_harvestOf yX3_harvestOf, .code yX3_harvestOf cX3_harvestOf 3 (some (.object "CatalogueHarvester$Harvest")), .fieldLink RX3 11 "CatalogueHarvester" "harvests" "[LCatalogueHarvester$Harvest;", .methodLink RX3 115 yX2_latestOfWork, .instanceMethod yX2_latestOfWork, .selects RX2 yX2_latestOfWork yX2_latestOfWork, .initialized RX2, .code yX2_latestOfWork cX2_latestOfWork 5 (some .int), .fieldLink RX2 9 "CatalogueHarvester$Records" "isThere" "[Z", .fieldLink RX2 15 "CatalogueHarvester$Records" "works" "[I", .fieldLink RX2 22 "CatalogueHarvester$Records" "stamps" "[I"] ++ wsX10 ++ wsX20 ++ wsX30 ++ (vx_atS RX3 125 "java/lang/IllegalArgumentException" ["java/lang/RuntimeException", "java/lang/Exception"]).filter goodWord)
def wsL_dice : List Cond := .code yL_dice cL_dice 2 (some .int) :: ([.constant RL 7 (1955562222), .constant RL 8 (2147483647)])
def wsL_far_r1 : List Cond := [Cond.classLink RL 33 "java/lang/IllegalArgumentException", Cond.classLink RL 35 "java/lang/IllegalStateException", Cond.methodLink RL 9 yX3_setCatalogue, Cond.instanceMethod yX3_setCatalogue, Cond.selects RX3 yX3_setCatalogue yX3_setCatalogue, Cond.initialized RX3, Cond.code yX3_setCatalogue cX3_setCatalogue 6 (some .int), Cond.fieldLink RX3 28 "CatalogueHarvester$Harvest" "far" "LCatalogueHarvester$FarCatalogue;", Cond.fieldLink RX3 32 "CatalogueHarvester$FarCatalogue" "unit" "I", Cond.fieldLink RX3 37 "CatalogueHarvester$FarCatalogue" "deletes" "I", Cond.fieldLink RX3 16 "CatalogueHarvester" "today" "I", Cond.methodLink RX3 20 yX3_harvestOf, Cond.instanceMethod yX3_harvestOf, Cond.selects RX3 yX3_harvestOf yX3_harvestOf, Cond.code yX3_harvestOf cX3_harvestOf 3 (some (.object "CatalogueHarvester$Harvest")), Cond.classLink RX3 121 "java/lang/IllegalArgumentException", Cond.initialized "java/lang/IllegalArgumentException", Cond.fieldLink RX3 11 "CatalogueHarvester" "harvests" "[LCatalogueHarvester$Harvest;", Cond.methodLink RX3 24 yX3_refuseOutside, Cond.static yX3_refuseOutside, Cond.code yX3_refuseOutside cX3_refuseOutside 3 none, Cond.methodLink RX3 40 yX0_forgetToldDeletes, Cond.instanceMethod yX0_forgetToldDeletes, Cond.selects RX0 yX0_forgetToldDeletes yX0_forgetToldDeletes]
def wsL_far_r2 : List Cond := [Cond.initialized RX0, Cond.code yX0_forgetToldDeletes cX0_forgetToldDeletes 4 none, Cond.fieldLink RX0 26 "CatalogueHarvester$FarCatalogue" "removalDays" "[I", Cond.fieldLink RX0 33 "CatalogueHarvester$FarCatalogue" "deletes" "I", Cond.fieldLink RX0 18 "CatalogueHarvester$FarCatalogue" "isTold" "[Z", Cond.methodLink RL 15 yX3_put, Cond.instanceMethod yX3_put, Cond.selects RX3 yX3_put yX3_put, Cond.code yX3_put cX3_put 6 (some .int), Cond.methodLink RX3 44 yX3_refuseRecord, Cond.static yX3_refuseRecord, Cond.code yX3_refuseRecord cX3_refuseRecord 1 none, Cond.methodLink RX3 47 yX0_change, Cond.instanceMethod yX0_change, Cond.selects RX0 yX0_change yX0_change, Cond.code yX0_change cX0_change 6 (some .int), Cond.fieldLink RX0 12 "CatalogueHarvester$FarCatalogue" "records" "LCatalogueHarvester$Records;", Cond.methodLink RX0 36 yX0_stampOfDay, Cond.instanceMethod yX0_stampOfDay, Cond.selects RX0 yX0_stampOfDay yX0_stampOfDay, Cond.code yX0_stampOfDay cX0_stampOfDay 2 (some .int), Cond.fieldLink RX0 29 "CatalogueHarvester$FarCatalogue" "unit" "I", Cond.methodLink RX0 40 yX2_keep, Cond.instanceMethod yX2_keep]
def wsL_far_r3 : List Cond := [Cond.selects RX2 yX2_keep yX2_keep, Cond.initialized RX2, Cond.code yX2_keep cX2_keep 5 none, Cond.fieldLink RX2 9 "CatalogueHarvester$Records" "isThere" "[Z", Cond.fieldLink RX2 15 "CatalogueHarvester$Records" "works" "[I", Cond.fieldLink RX2 19 "CatalogueHarvester$Records" "values" "[I", Cond.fieldLink RX2 22 "CatalogueHarvester$Records" "stamps" "[I", Cond.methodLink RL 19 yX3_remove, Cond.instanceMethod yX3_remove, Cond.selects RX3 yX3_remove yX3_remove, Cond.code yX3_remove cX3_remove 4 (some .boolean), Cond.classLink RX3 61 "java/lang/IllegalStateException", Cond.initialized "java/lang/IllegalStateException", Cond.fieldLink RX3 51 "CatalogueHarvester$FarCatalogue" "records" "LCatalogueHarvester$Records;", Cond.fieldLink RX3 55 "CatalogueHarvester$Records" "isThere" "[Z", Cond.methodLink RX3 68 yX0_delete, Cond.instanceMethod yX0_delete, Cond.selects RX0 yX0_delete yX0_delete, Cond.code yX0_delete cX0_delete 3 (some .boolean), Cond.fieldLink RX0 22 "CatalogueHarvester$FarCatalogue" "toldStamps" "[I", Cond.methodLink RX0 44 yX2_drop, Cond.instanceMethod yX2_drop, Cond.selects RX2 yX2_drop yX2_drop, Cond.code yX2_drop cX2_drop 2 none]
def wsL_far_r4 : List Cond := [Cond.methodLink RL 23 yX3_pass, Cond.instanceMethod yX3_pass, Cond.selects RX3 yX3_pass yX3_pass, Cond.code yX3_pass cX3_pass 3 (some .int), Cond.methodLink RL 27 yX3_far, Cond.instanceMethod yX3_far, Cond.selects RX3 yX3_far yX3_far, Cond.code yX3_far cX3_far 2 (some .int), Cond.methodLink RX3 74 yX2_count, Cond.instanceMethod yX2_count, Cond.selects RX2 yX2_count yX2_count, Cond.code yX2_count cX2_count 3 (some .int), Cond.methodLink RL 30 yX3_told, Cond.instanceMethod yX3_told, Cond.selects RX3 yX3_told yX3_told, Cond.code yX3_told cX3_told 2 (some .int), Cond.methodLink RX3 78 yX0_countTold, Cond.instanceMethod yX0_countTold, Cond.selects RX0 yX0_countTold yX0_countTold, Cond.code yX0_countTold cX0_countTold 3 (some .int)]
def wsL_far : List Cond := .codeWith yL_far cL_far 7 (some .int) [(0, 86, 87, 33), (0, 86, 93, 35)] :: ((wsL_far_r1 ++ (wsL_far_r2 ++ (wsL_far_r3 ++ wsL_far_r4))) ++ wsX10 ++ wsX00 ++ wsX30 ++ wsX20 ++ (vx_atS RX3 125 "java/lang/IllegalArgumentException" ["java/lang/RuntimeException", "java/lang/Exception"]).filter goodWord ++ (vx_atS RX3 65 "java/lang/IllegalStateException" ["java/lang/RuntimeException", "java/lang/Exception"]).filter goodWord)
def wsL_near_r1 : List Cond := [Cond.classLink RL 33 "java/lang/IllegalArgumentException", Cond.classLink RL 35 "java/lang/IllegalStateException", Cond.methodLink RL 37 yX3_open, Cond.instanceMethod yX3_open, Cond.selects RX3 yX3_open yX3_open, Cond.initialized RX3, Cond.code yX3_open cX3_open 4 (some .int), Cond.fieldLink RX3 16 "CatalogueHarvester" "today" "I", Cond.methodLink RX3 20 yX3_harvestOf, Cond.instanceMethod yX3_harvestOf, Cond.selects RX3 yX3_harvestOf yX3_harvestOf, Cond.code yX3_harvestOf cX3_harvestOf 3 (some (.object "CatalogueHarvester$Harvest")), Cond.classLink RX3 121 "java/lang/IllegalArgumentException", Cond.initialized "java/lang/IllegalArgumentException", Cond.fieldLink RX3 11 "CatalogueHarvester" "harvests" "[LCatalogueHarvester$Harvest;", Cond.methodLink RX3 81 yX1_begin, Cond.instanceMethod yX1_begin, Cond.selects RX1 yX1_begin yX1_begin, Cond.initialized RX1, Cond.code yX1_begin cX1_begin 4 none, Cond.fieldLink RX1 29 "CatalogueHarvester$Harvest" "hasOpenList" "Z", Cond.fieldLink RX1 33 "CatalogueHarvester$Harvest" "isFullList" "Z", Cond.fieldLink RX1 36 "CatalogueHarvester$Harvest" "openingDay" "I", Cond.fieldLink RX1 39 "CatalogueHarvester$Harvest" "tokenDay" "I"]
def wsL_near_r2 : List Cond := [Cond.fieldLink RX1 42 "CatalogueHarvester$Harvest" "placeStamp" "I", Cond.fieldLink RX1 45 "CatalogueHarvester$Harvest" "placeRecord" "I", Cond.fieldLink RX1 48 "CatalogueHarvester$Harvest" "isTakenOver" "[Z", Cond.methodLink RX3 85 yX1_firstStamp, Cond.instanceMethod yX1_firstStamp, Cond.selects RX1 yX1_firstStamp yX1_firstStamp, Cond.code yX1_firstStamp cX1_firstStamp 1 (some .int), Cond.fieldLink RX1 25 "CatalogueHarvester$Harvest" "mark" "I", Cond.methodLink RL 41 yX3_read, Cond.instanceMethod yX3_read, Cond.selects RX3 yX3_read yX3_read, Cond.code yX3_read cX3_read 3 (some .int), Cond.classLink RX3 61 "java/lang/IllegalStateException", Cond.initialized "java/lang/IllegalStateException", Cond.fieldLink RX3 88 "CatalogueHarvester$Harvest" "hasOpenList" "Z", Cond.methodLink RX3 94 yX1_takePage, Cond.instanceMethod yX1_takePage, Cond.selects RX1 yX1_takePage yX1_takePage, Cond.code yX1_takePage cX1_takePage 4 (some .int), Cond.methodLink RX1 52 yX1_begin, Cond.methodLink RX1 56 yX1_nextOfList, Cond.instanceMethod yX1_nextOfList, Cond.selects RX1 yX1_nextOfList yX1_nextOfList, Cond.code yX1_nextOfList cX1_nextOfList 1 (some .int)]
def wsL_near_r3 : List Cond := [Cond.fieldLink RX1 12 "CatalogueHarvester$Harvest" "far" "LCatalogueHarvester$FarCatalogue;", Cond.methodLink RX1 67 yX1_firstStamp, Cond.methodLink RX1 70 yX0_nextListed, Cond.instanceMethod yX0_nextListed, Cond.selects RX0 yX0_nextListed yX0_nextListed, Cond.initialized RX0, Cond.code yX0_nextListed cX0_nextListed 10 (some .int), Cond.methodLink RX0 54 yX0_listedStamp, Cond.instanceMethod yX0_listedStamp, Cond.selects RX0 yX0_listedStamp yX0_listedStamp, Cond.code yX0_listedStamp cX0_listedStamp 2 (some .int), Cond.fieldLink RX0 12 "CatalogueHarvester$FarCatalogue" "records" "LCatalogueHarvester$Records;", Cond.fieldLink RX0 48 "CatalogueHarvester$Records" "isThere" "[Z", Cond.fieldLink RX0 51 "CatalogueHarvester$Records" "stamps" "[I", Cond.fieldLink RX0 18 "CatalogueHarvester$FarCatalogue" "isTold" "[Z", Cond.fieldLink RX0 22 "CatalogueHarvester$FarCatalogue" "toldStamps" "[I", Cond.methodLink RX1 60 yX1_takeOver, Cond.instanceMethod yX1_takeOver, Cond.selects RX1 yX1_takeOver yX1_takeOver, Cond.code yX1_takeOver cX1_takeOver 3 none, Cond.fieldLink RX1 78 "CatalogueHarvester$FarCatalogue" "records" "LCatalogueHarvester$Records;", Cond.fieldLink RX1 81 "CatalogueHarvester$Records" "isThere" "[Z", Cond.fieldLink RX1 21 "CatalogueHarvester$Harvest" "store" "LCatalogueHarvester$Records;", Cond.fieldLink RX1 84 "CatalogueHarvester$Records" "works" "[I"]
def wsL_near_r4 : List Cond := [Cond.fieldLink RX1 88 "CatalogueHarvester$Records" "values" "[I", Cond.fieldLink RX1 91 "CatalogueHarvester$Records" "stamps" "[I", Cond.methodLink RX1 74 yX0_listedStamp, Cond.methodLink RX1 94 yX2_keep, Cond.instanceMethod yX2_keep, Cond.selects RX2 yX2_keep yX2_keep, Cond.initialized RX2, Cond.code yX2_keep cX2_keep 5 none, Cond.fieldLink RX2 9 "CatalogueHarvester$Records" "isThere" "[Z", Cond.fieldLink RX2 15 "CatalogueHarvester$Records" "works" "[I", Cond.fieldLink RX2 19 "CatalogueHarvester$Records" "values" "[I", Cond.fieldLink RX2 22 "CatalogueHarvester$Records" "stamps" "[I", Cond.methodLink RX1 98 yX2_drop, Cond.instanceMethod yX2_drop, Cond.selects RX2 yX2_drop yX2_drop, Cond.code yX2_drop cX2_drop 2 none, Cond.methodLink RX1 64 yX1_finish, Cond.instanceMethod yX1_finish, Cond.selects RX1 yX1_finish yX1_finish, Cond.code yX1_finish cX1_finish 1 none, Cond.methodLink RX1 101 yX0_stampOfDay, Cond.instanceMethod yX0_stampOfDay, Cond.selects RX0 yX0_stampOfDay yX0_stampOfDay, Cond.code yX0_stampOfDay cX0_stampOfDay 2 (some .int)]
def wsL_near_r5 : List Cond := [Cond.fieldLink RX0 29 "CatalogueHarvester$FarCatalogue" "unit" "I", Cond.methodLink RX1 104 yX1_dropWhatIsGone, Cond.instanceMethod yX1_dropWhatIsGone, Cond.selects RX1 yX1_dropWhatIsGone yX1_dropWhatIsGone, Cond.code yX1_dropWhatIsGone cX1_dropWhatIsGone 2 none, Cond.methodLink RL 44 yX3_isOpen, Cond.instanceMethod yX3_isOpen, Cond.selects RX3 yX3_isOpen yX3_isOpen, Cond.code yX3_isOpen cX3_isOpen 2 (some .boolean), Cond.methodLink RL 48 yX3_mark, Cond.instanceMethod yX3_mark, Cond.selects RX3 yX3_mark yX3_mark, Cond.code yX3_mark cX3_mark 2 (some .int), Cond.fieldLink RX3 98 "CatalogueHarvester$Harvest" "mark" "I", Cond.methodLink RL 51 yX3_stored, Cond.instanceMethod yX3_stored, Cond.selects RX3 yX3_stored yX3_stored, Cond.code yX3_stored cX3_stored 4 (some .int), Cond.fieldLink RX3 101 "CatalogueHarvester$Harvest" "store" "LCatalogueHarvester$Records;", Cond.fieldLink RX3 55 "CatalogueHarvester$Records" "isThere" "[Z", Cond.fieldLink RX3 104 "CatalogueHarvester$Records" "values" "[I", Cond.methodLink RX3 44 yX3_refuseRecord, Cond.static yX3_refuseRecord, Cond.code yX3_refuseRecord cX3_refuseRecord 1 none]
def wsL_near_r6 : List Cond := [Cond.methodLink RX3 24 yX3_refuseOutside, Cond.static yX3_refuseOutside, Cond.code yX3_refuseOutside cX3_refuseOutside 3 none, Cond.methodLink RL 55 yX3_held, Cond.instanceMethod yX3_held, Cond.selects RX3 yX3_held yX3_held, Cond.code yX3_held cX3_held 2 (some .int), Cond.methodLink RX3 74 yX2_count, Cond.instanceMethod yX2_count, Cond.selects RX2 yX2_count yX2_count, Cond.code yX2_count cX2_count 3 (some .int), Cond.methodLink RL 58 yX3_wrong, Cond.instanceMethod yX3_wrong, Cond.selects RX3 yX3_wrong yX3_wrong, Cond.code yX3_wrong cX3_wrong 3 (some .int), Cond.fieldLink RX3 28 "CatalogueHarvester$Harvest" "far" "LCatalogueHarvester$FarCatalogue;", Cond.fieldLink RX3 51 "CatalogueHarvester$FarCatalogue" "records" "LCatalogueHarvester$Records;", Cond.methodLink RX3 108 yX2_countUnlike, Cond.instanceMethod yX2_countUnlike, Cond.selects RX2 yX2_countUnlike yX2_countUnlike, Cond.code yX2_countUnlike cX2_countUnlike 4 (some .int), Cond.methodLink RX2 25 yX2_isLike, Cond.instanceMethod yX2_isLike, Cond.selects RX2 yX2_isLike yX2_isLike]
def wsL_near_r7 : List Cond := [Cond.code yX2_isLike cX2_isLike 3 (some .boolean), Cond.methodLink RL 61 yX3_copies, Cond.instanceMethod yX3_copies, Cond.selects RX3 yX3_copies yX3_copies, Cond.code yX3_copies cX3_copies 4 (some .int), Cond.methodLink RX3 112 yX2_countOfWork, Cond.instanceMethod yX2_countOfWork, Cond.selects RX2 yX2_countOfWork yX2_countOfWork, Cond.code yX2_countOfWork cX2_countOfWork 4 (some .int), Cond.methodLink RL 64 yX3_best, Cond.instanceMethod yX3_best, Cond.selects RX3 yX3_best yX3_best, Cond.code yX3_best cX3_best 7 (some .int), Cond.fieldLink RX3 118 "CatalogueHarvester$Records" "stamps" "[I", Cond.methodLink RX3 115 yX2_latestOfWork, Cond.instanceMethod yX2_latestOfWork, Cond.selects RX2 yX2_latestOfWork yX2_latestOfWork, Cond.code yX2_latestOfWork cX2_latestOfWork 5 (some .int)]
def wsL_near : List Cond := .codeWith yL_near cL_near 5 (some .int) [(0, 129, 130, 33), (0, 129, 136, 35)] :: ((wsL_near_r1 ++ (wsL_near_r2 ++ (wsL_near_r3 ++ (wsL_near_r4 ++ (wsL_near_r5 ++ (wsL_near_r6 ++ wsL_near_r7)))))) ++ wsX30 ++ wsX10 ++ wsX00 ++ wsX20 ++ (vx_atS RX3 125 "java/lang/IllegalArgumentException" ["java/lang/RuntimeException", "java/lang/Exception"]).filter goodWord ++ (vx_atS RX3 65 "java/lang/IllegalStateException" ["java/lang/RuntimeException", "java/lang/Exception"]).filter goodWord)
def wsL_all_r1 : List Cond := [Cond.constantLong RL 71 (1000003), Cond.constantLong RL 73 (31), Cond.constantLong RL 75 (1009), Cond.constantLong RL 77 (65537), Cond.constantLong RL 79 (7), Cond.constantLong RL 81 (3), Cond.methodLink RL 67 yX3_today, Cond.instanceMethod yX3_today, Cond.selects RX3 yX3_today yX3_today, Cond.initialized RX3, Cond.code yX3_today cX3_today 1 (some .int), Cond.fieldLink RX3 16 "CatalogueHarvester" "today" "I", Cond.methodLink RL 27 yX3_far, Cond.instanceMethod yX3_far, Cond.selects RX3 yX3_far yX3_far, Cond.code yX3_far cX3_far 2 (some .int), Cond.fieldLink RX3 28 "CatalogueHarvester$Harvest" "far" "LCatalogueHarvester$FarCatalogue;", Cond.fieldLink RX3 51 "CatalogueHarvester$FarCatalogue" "records" "LCatalogueHarvester$Records;", Cond.methodLink RX3 20 yX3_harvestOf, Cond.instanceMethod yX3_harvestOf, Cond.selects RX3 yX3_harvestOf yX3_harvestOf, Cond.code yX3_harvestOf cX3_harvestOf 3 (some (.object "CatalogueHarvester$Harvest")), Cond.classLink RX3 121 "java/lang/IllegalArgumentException", Cond.initialized "java/lang/IllegalArgumentException"]
def wsL_all_r2 : List Cond := [Cond.fieldLink RX3 11 "CatalogueHarvester" "harvests" "[LCatalogueHarvester$Harvest;", Cond.methodLink RX3 74 yX2_count, Cond.instanceMethod yX2_count, Cond.selects RX2 yX2_count yX2_count, Cond.initialized RX2, Cond.code yX2_count cX2_count 3 (some .int), Cond.fieldLink RX2 9 "CatalogueHarvester$Records" "isThere" "[Z", Cond.methodLink RL 30 yX3_told, Cond.instanceMethod yX3_told, Cond.selects RX3 yX3_told yX3_told, Cond.code yX3_told cX3_told 2 (some .int), Cond.methodLink RX3 78 yX0_countTold, Cond.instanceMethod yX0_countTold, Cond.selects RX0 yX0_countTold yX0_countTold, Cond.initialized RX0, Cond.code yX0_countTold cX0_countTold 3 (some .int), Cond.fieldLink RX0 18 "CatalogueHarvester$FarCatalogue" "isTold" "[Z", Cond.methodLink RL 55 yX3_held, Cond.instanceMethod yX3_held, Cond.selects RX3 yX3_held yX3_held, Cond.code yX3_held cX3_held 2 (some .int), Cond.fieldLink RX3 101 "CatalogueHarvester$Harvest" "store" "LCatalogueHarvester$Records;", Cond.methodLink RL 58 yX3_wrong, Cond.instanceMethod yX3_wrong]
def wsL_all_r3 : List Cond := [Cond.selects RX3 yX3_wrong yX3_wrong, Cond.code yX3_wrong cX3_wrong 3 (some .int), Cond.methodLink RX3 108 yX2_countUnlike, Cond.instanceMethod yX2_countUnlike, Cond.selects RX2 yX2_countUnlike yX2_countUnlike, Cond.code yX2_countUnlike cX2_countUnlike 4 (some .int), Cond.methodLink RX2 25 yX2_isLike, Cond.instanceMethod yX2_isLike, Cond.selects RX2 yX2_isLike yX2_isLike, Cond.code yX2_isLike cX2_isLike 3 (some .boolean), Cond.fieldLink RX2 15 "CatalogueHarvester$Records" "works" "[I", Cond.fieldLink RX2 19 "CatalogueHarvester$Records" "values" "[I", Cond.fieldLink RX2 22 "CatalogueHarvester$Records" "stamps" "[I", Cond.methodLink RL 48 yX3_mark, Cond.instanceMethod yX3_mark, Cond.selects RX3 yX3_mark yX3_mark, Cond.code yX3_mark cX3_mark 2 (some .int), Cond.fieldLink RX3 98 "CatalogueHarvester$Harvest" "mark" "I", Cond.methodLink RL 44 yX3_isOpen, Cond.instanceMethod yX3_isOpen, Cond.selects RX3 yX3_isOpen yX3_isOpen, Cond.code yX3_isOpen cX3_isOpen 2 (some .boolean), Cond.fieldLink RX3 88 "CatalogueHarvester$Harvest" "hasOpenList" "Z"]
def wsL_all : List Cond := .code yL_all cL_all 4 (some .long) :: ((wsL_all_r1 ++ (wsL_all_r2 ++ wsL_all_r3)) ++ wsX30 ++ wsX10 ++ wsX00 ++ wsX20 ++ (vx_atS RX3 125 "java/lang/IllegalArgumentException" ["java/lang/RuntimeException", "java/lang/Exception"]).filter goodWord)
def wsL_stampOf : List Cond := .code yL_stampOf cL_stampOf 1 (some .int) :: ([])
def wsL_areAll_r1 : List Cond := [Cond.methodLink RL 51 yX3_stored, Cond.instanceMethod yX3_stored, Cond.selects RX3 yX3_stored yX3_stored, Cond.initialized RX3, Cond.code yX3_stored cX3_stored 4 (some .int), Cond.fieldLink RX3 101 "CatalogueHarvester$Harvest" "store" "LCatalogueHarvester$Records;", Cond.fieldLink RX3 55 "CatalogueHarvester$Records" "isThere" "[Z", Cond.fieldLink RX3 104 "CatalogueHarvester$Records" "values" "[I", Cond.methodLink RX3 20 yX3_harvestOf, Cond.instanceMethod yX3_harvestOf, Cond.selects RX3 yX3_harvestOf yX3_harvestOf, Cond.code yX3_harvestOf cX3_harvestOf 3 (some (.object "CatalogueHarvester$Harvest")), Cond.classLink RX3 121 "java/lang/IllegalArgumentException", Cond.initialized "java/lang/IllegalArgumentException", Cond.fieldLink RX3 11 "CatalogueHarvester" "harvests" "[LCatalogueHarvester$Harvest;", Cond.methodLink RX3 44 yX3_refuseRecord, Cond.static yX3_refuseRecord, Cond.code yX3_refuseRecord cX3_refuseRecord 1 none, Cond.methodLink RX3 24 yX3_refuseOutside, Cond.static yX3_refuseOutside, Cond.code yX3_refuseOutside cX3_refuseOutside 3 none, Cond.methodLink RL 27 yX3_far, Cond.instanceMethod yX3_far, Cond.selects RX3 yX3_far yX3_far]
def wsL_areAll_r2 : List Cond := [Cond.code yX3_far cX3_far 2 (some .int), Cond.fieldLink RX3 28 "CatalogueHarvester$Harvest" "far" "LCatalogueHarvester$FarCatalogue;", Cond.fieldLink RX3 51 "CatalogueHarvester$FarCatalogue" "records" "LCatalogueHarvester$Records;", Cond.methodLink RX3 74 yX2_count, Cond.instanceMethod yX2_count, Cond.selects RX2 yX2_count yX2_count, Cond.initialized RX2, Cond.code yX2_count cX2_count 3 (some .int), Cond.fieldLink RX2 9 "CatalogueHarvester$Records" "isThere" "[Z", Cond.methodLink RL 30 yX3_told, Cond.instanceMethod yX3_told, Cond.selects RX3 yX3_told yX3_told, Cond.code yX3_told cX3_told 2 (some .int), Cond.methodLink RX3 78 yX0_countTold, Cond.instanceMethod yX0_countTold, Cond.selects RX0 yX0_countTold yX0_countTold, Cond.initialized RX0, Cond.code yX0_countTold cX0_countTold 3 (some .int), Cond.fieldLink RX0 18 "CatalogueHarvester$FarCatalogue" "isTold" "[Z", Cond.methodLink RL 55 yX3_held, Cond.instanceMethod yX3_held, Cond.selects RX3 yX3_held yX3_held, Cond.code yX3_held cX3_held 2 (some .int), Cond.methodLink RL 58 yX3_wrong]
def wsL_areAll_r3 : List Cond := [Cond.instanceMethod yX3_wrong, Cond.selects RX3 yX3_wrong yX3_wrong, Cond.code yX3_wrong cX3_wrong 3 (some .int), Cond.methodLink RX3 108 yX2_countUnlike, Cond.instanceMethod yX2_countUnlike, Cond.selects RX2 yX2_countUnlike yX2_countUnlike, Cond.code yX2_countUnlike cX2_countUnlike 4 (some .int), Cond.methodLink RX2 25 yX2_isLike, Cond.instanceMethod yX2_isLike, Cond.selects RX2 yX2_isLike yX2_isLike, Cond.code yX2_isLike cX2_isLike 3 (some .boolean), Cond.fieldLink RX2 15 "CatalogueHarvester$Records" "works" "[I", Cond.fieldLink RX2 19 "CatalogueHarvester$Records" "values" "[I", Cond.fieldLink RX2 22 "CatalogueHarvester$Records" "stamps" "[I", Cond.methodLink RL 44 yX3_isOpen, Cond.instanceMethod yX3_isOpen, Cond.selects RX3 yX3_isOpen yX3_isOpen, Cond.code yX3_isOpen cX3_isOpen 2 (some .boolean), Cond.fieldLink RX3 88 "CatalogueHarvester$Harvest" "hasOpenList" "Z", Cond.methodLink RL 64 yX3_best, Cond.instanceMethod yX3_best, Cond.selects RX3 yX3_best yX3_best, Cond.code yX3_best cX3_best 7 (some .int), Cond.fieldLink RX3 118 "CatalogueHarvester$Records" "stamps" "[I"]
def wsL_areAll_r4 : List Cond := [Cond.methodLink RX3 115 yX2_latestOfWork, Cond.instanceMethod yX2_latestOfWork, Cond.selects RX2 yX2_latestOfWork yX2_latestOfWork, Cond.code yX2_latestOfWork cX2_latestOfWork 5 (some .int), Cond.methodLink RL 83 yL_stampOf, Cond.static yL_stampOf, Cond.initialized RL, Cond.code yL_stampOf cL_stampOf 1 (some .int), Cond.methodLink RL 61 yX3_copies, Cond.instanceMethod yX3_copies, Cond.selects RX3 yX3_copies yX3_copies, Cond.code yX3_copies cX3_copies 4 (some .int), Cond.methodLink RX3 112 yX2_countOfWork, Cond.instanceMethod yX2_countOfWork, Cond.selects RX2 yX2_countOfWork yX2_countOfWork, Cond.code yX2_countOfWork cX2_countOfWork 4 (some .int)]
def wsL_areAll : List Cond := .code yL_areAll cL_areAll 12 (some .boolean) :: ((wsL_areAll_r1 ++ (wsL_areAll_r2 ++ (wsL_areAll_r3 ++ wsL_areAll_r4))) ++ wsX10 ++ wsX20 ++ wsX30 ++ wsX00 ++ (vx_atS RX3 125 "java/lang/IllegalArgumentException" ["java/lang/RuntimeException", "java/lang/Exception"]).filter goodWord)
def wsL_isRefused_r1 : List Cond := [Cond.methodLink RL 88 yL_all, Cond.static yL_all, Cond.initialized RL, Cond.code yL_all cL_all 4 (some .long), Cond.constantLong RL 71 (1000003), Cond.constantLong RL 73 (31), Cond.constantLong RL 75 (1009), Cond.constantLong RL 77 (65537), Cond.constantLong RL 79 (7), Cond.constantLong RL 81 (3), Cond.methodLink RL 67 yX3_today, Cond.instanceMethod yX3_today, Cond.selects RX3 yX3_today yX3_today, Cond.initialized RX3, Cond.code yX3_today cX3_today 1 (some .int), Cond.fieldLink RX3 16 "CatalogueHarvester" "today" "I", Cond.methodLink RL 27 yX3_far, Cond.instanceMethod yX3_far, Cond.selects RX3 yX3_far yX3_far, Cond.code yX3_far cX3_far 2 (some .int), Cond.fieldLink RX3 28 "CatalogueHarvester$Harvest" "far" "LCatalogueHarvester$FarCatalogue;", Cond.fieldLink RX3 51 "CatalogueHarvester$FarCatalogue" "records" "LCatalogueHarvester$Records;", Cond.methodLink RX3 20 yX3_harvestOf, Cond.instanceMethod yX3_harvestOf]
def wsL_isRefused_r2 : List Cond := [Cond.selects RX3 yX3_harvestOf yX3_harvestOf, Cond.code yX3_harvestOf cX3_harvestOf 3 (some (.object "CatalogueHarvester$Harvest")), Cond.classLink RX3 121 "java/lang/IllegalArgumentException", Cond.initialized "java/lang/IllegalArgumentException", Cond.fieldLink RX3 11 "CatalogueHarvester" "harvests" "[LCatalogueHarvester$Harvest;", Cond.methodLink RX3 74 yX2_count, Cond.instanceMethod yX2_count, Cond.selects RX2 yX2_count yX2_count, Cond.initialized RX2, Cond.code yX2_count cX2_count 3 (some .int), Cond.fieldLink RX2 9 "CatalogueHarvester$Records" "isThere" "[Z", Cond.methodLink RL 30 yX3_told, Cond.instanceMethod yX3_told, Cond.selects RX3 yX3_told yX3_told, Cond.code yX3_told cX3_told 2 (some .int), Cond.methodLink RX3 78 yX0_countTold, Cond.instanceMethod yX0_countTold, Cond.selects RX0 yX0_countTold yX0_countTold, Cond.initialized RX0, Cond.code yX0_countTold cX0_countTold 3 (some .int), Cond.fieldLink RX0 18 "CatalogueHarvester$FarCatalogue" "isTold" "[Z", Cond.methodLink RL 55 yX3_held, Cond.instanceMethod yX3_held, Cond.selects RX3 yX3_held yX3_held]
def wsL_isRefused_r3 : List Cond := [Cond.code yX3_held cX3_held 2 (some .int), Cond.fieldLink RX3 101 "CatalogueHarvester$Harvest" "store" "LCatalogueHarvester$Records;", Cond.methodLink RL 58 yX3_wrong, Cond.instanceMethod yX3_wrong, Cond.selects RX3 yX3_wrong yX3_wrong, Cond.code yX3_wrong cX3_wrong 3 (some .int), Cond.methodLink RX3 108 yX2_countUnlike, Cond.instanceMethod yX2_countUnlike, Cond.selects RX2 yX2_countUnlike yX2_countUnlike, Cond.code yX2_countUnlike cX2_countUnlike 4 (some .int), Cond.methodLink RX2 25 yX2_isLike, Cond.instanceMethod yX2_isLike, Cond.selects RX2 yX2_isLike yX2_isLike, Cond.code yX2_isLike cX2_isLike 3 (some .boolean), Cond.fieldLink RX2 15 "CatalogueHarvester$Records" "works" "[I", Cond.fieldLink RX2 19 "CatalogueHarvester$Records" "values" "[I", Cond.fieldLink RX2 22 "CatalogueHarvester$Records" "stamps" "[I", Cond.methodLink RL 48 yX3_mark, Cond.instanceMethod yX3_mark, Cond.selects RX3 yX3_mark yX3_mark, Cond.code yX3_mark cX3_mark 2 (some .int), Cond.fieldLink RX3 98 "CatalogueHarvester$Harvest" "mark" "I", Cond.methodLink RL 44 yX3_isOpen, Cond.instanceMethod yX3_isOpen]
def wsL_isRefused_r4 : List Cond := [Cond.selects RX3 yX3_isOpen yX3_isOpen, Cond.code yX3_isOpen cX3_isOpen 2 (some .boolean), Cond.fieldLink RX3 88 "CatalogueHarvester$Harvest" "hasOpenList" "Z", Cond.methodLink RL 92 yL_far, Cond.static yL_far, Cond.codeWith yL_far cL_far 7 (some .int) [(0, 86, 87, 33), (0, 86, 93, 35)], Cond.classLink RL 33 "java/lang/IllegalArgumentException", Cond.classLink RL 35 "java/lang/IllegalStateException", Cond.methodLink RL 9 yX3_setCatalogue, Cond.instanceMethod yX3_setCatalogue, Cond.selects RX3 yX3_setCatalogue yX3_setCatalogue, Cond.code yX3_setCatalogue cX3_setCatalogue 6 (some .int), Cond.fieldLink RX3 32 "CatalogueHarvester$FarCatalogue" "unit" "I", Cond.fieldLink RX3 37 "CatalogueHarvester$FarCatalogue" "deletes" "I", Cond.methodLink RX3 24 yX3_refuseOutside, Cond.static yX3_refuseOutside, Cond.code yX3_refuseOutside cX3_refuseOutside 3 none, Cond.methodLink RX3 40 yX0_forgetToldDeletes, Cond.instanceMethod yX0_forgetToldDeletes, Cond.selects RX0 yX0_forgetToldDeletes yX0_forgetToldDeletes, Cond.code yX0_forgetToldDeletes cX0_forgetToldDeletes 4 none, Cond.fieldLink RX0 26 "CatalogueHarvester$FarCatalogue" "removalDays" "[I", Cond.fieldLink RX0 33 "CatalogueHarvester$FarCatalogue" "deletes" "I", Cond.methodLink RL 15 yX3_put]
def wsL_isRefused_r5 : List Cond := [Cond.instanceMethod yX3_put, Cond.selects RX3 yX3_put yX3_put, Cond.code yX3_put cX3_put 6 (some .int), Cond.methodLink RX3 44 yX3_refuseRecord, Cond.static yX3_refuseRecord, Cond.code yX3_refuseRecord cX3_refuseRecord 1 none, Cond.methodLink RX3 47 yX0_change, Cond.instanceMethod yX0_change, Cond.selects RX0 yX0_change yX0_change, Cond.code yX0_change cX0_change 6 (some .int), Cond.fieldLink RX0 12 "CatalogueHarvester$FarCatalogue" "records" "LCatalogueHarvester$Records;", Cond.methodLink RX0 36 yX0_stampOfDay, Cond.instanceMethod yX0_stampOfDay, Cond.selects RX0 yX0_stampOfDay yX0_stampOfDay, Cond.code yX0_stampOfDay cX0_stampOfDay 2 (some .int), Cond.fieldLink RX0 29 "CatalogueHarvester$FarCatalogue" "unit" "I", Cond.methodLink RX0 40 yX2_keep, Cond.instanceMethod yX2_keep, Cond.selects RX2 yX2_keep yX2_keep, Cond.code yX2_keep cX2_keep 5 none, Cond.methodLink RL 19 yX3_remove, Cond.instanceMethod yX3_remove, Cond.selects RX3 yX3_remove yX3_remove, Cond.code yX3_remove cX3_remove 4 (some .boolean)]
def wsL_isRefused_r6 : List Cond := [Cond.classLink RX3 61 "java/lang/IllegalStateException", Cond.initialized "java/lang/IllegalStateException", Cond.fieldLink RX3 55 "CatalogueHarvester$Records" "isThere" "[Z", Cond.methodLink RX3 68 yX0_delete, Cond.instanceMethod yX0_delete, Cond.selects RX0 yX0_delete yX0_delete, Cond.code yX0_delete cX0_delete 3 (some .boolean), Cond.fieldLink RX0 22 "CatalogueHarvester$FarCatalogue" "toldStamps" "[I", Cond.methodLink RX0 44 yX2_drop, Cond.instanceMethod yX2_drop, Cond.selects RX2 yX2_drop yX2_drop, Cond.code yX2_drop cX2_drop 2 none, Cond.methodLink RL 23 yX3_pass, Cond.instanceMethod yX3_pass, Cond.selects RX3 yX3_pass yX3_pass, Cond.code yX3_pass cX3_pass 3 (some .int), Cond.methodLink RL 95 yL_near, Cond.static yL_near, Cond.codeWith yL_near cL_near 5 (some .int) [(0, 129, 130, 33), (0, 129, 136, 35)], Cond.methodLink RL 37 yX3_open, Cond.instanceMethod yX3_open, Cond.selects RX3 yX3_open yX3_open, Cond.code yX3_open cX3_open 4 (some .int), Cond.methodLink RX3 81 yX1_begin]
def wsL_isRefused_r7 : List Cond := [Cond.instanceMethod yX1_begin, Cond.selects RX1 yX1_begin yX1_begin, Cond.initialized RX1, Cond.code yX1_begin cX1_begin 4 none, Cond.fieldLink RX1 29 "CatalogueHarvester$Harvest" "hasOpenList" "Z", Cond.fieldLink RX1 33 "CatalogueHarvester$Harvest" "isFullList" "Z", Cond.fieldLink RX1 36 "CatalogueHarvester$Harvest" "openingDay" "I", Cond.fieldLink RX1 39 "CatalogueHarvester$Harvest" "tokenDay" "I", Cond.fieldLink RX1 42 "CatalogueHarvester$Harvest" "placeStamp" "I", Cond.fieldLink RX1 45 "CatalogueHarvester$Harvest" "placeRecord" "I", Cond.fieldLink RX1 48 "CatalogueHarvester$Harvest" "isTakenOver" "[Z", Cond.methodLink RX3 85 yX1_firstStamp, Cond.instanceMethod yX1_firstStamp, Cond.selects RX1 yX1_firstStamp yX1_firstStamp, Cond.code yX1_firstStamp cX1_firstStamp 1 (some .int), Cond.fieldLink RX1 25 "CatalogueHarvester$Harvest" "mark" "I", Cond.methodLink RL 41 yX3_read, Cond.instanceMethod yX3_read, Cond.selects RX3 yX3_read yX3_read, Cond.code yX3_read cX3_read 3 (some .int), Cond.methodLink RX3 94 yX1_takePage, Cond.instanceMethod yX1_takePage, Cond.selects RX1 yX1_takePage yX1_takePage, Cond.code yX1_takePage cX1_takePage 4 (some .int)]
def wsL_isRefused_r8 : List Cond := [Cond.methodLink RX1 52 yX1_begin, Cond.methodLink RX1 56 yX1_nextOfList, Cond.instanceMethod yX1_nextOfList, Cond.selects RX1 yX1_nextOfList yX1_nextOfList, Cond.code yX1_nextOfList cX1_nextOfList 1 (some .int), Cond.fieldLink RX1 12 "CatalogueHarvester$Harvest" "far" "LCatalogueHarvester$FarCatalogue;", Cond.methodLink RX1 67 yX1_firstStamp, Cond.methodLink RX1 70 yX0_nextListed, Cond.instanceMethod yX0_nextListed, Cond.selects RX0 yX0_nextListed yX0_nextListed, Cond.code yX0_nextListed cX0_nextListed 10 (some .int), Cond.methodLink RX0 54 yX0_listedStamp, Cond.instanceMethod yX0_listedStamp, Cond.selects RX0 yX0_listedStamp yX0_listedStamp, Cond.code yX0_listedStamp cX0_listedStamp 2 (some .int), Cond.fieldLink RX0 48 "CatalogueHarvester$Records" "isThere" "[Z", Cond.fieldLink RX0 51 "CatalogueHarvester$Records" "stamps" "[I", Cond.methodLink RX1 60 yX1_takeOver, Cond.instanceMethod yX1_takeOver, Cond.selects RX1 yX1_takeOver yX1_takeOver, Cond.code yX1_takeOver cX1_takeOver 3 none, Cond.fieldLink RX1 78 "CatalogueHarvester$FarCatalogue" "records" "LCatalogueHarvester$Records;", Cond.fieldLink RX1 81 "CatalogueHarvester$Records" "isThere" "[Z", Cond.fieldLink RX1 21 "CatalogueHarvester$Harvest" "store" "LCatalogueHarvester$Records;"]
def wsL_isRefused_r9 : List Cond := [Cond.fieldLink RX1 84 "CatalogueHarvester$Records" "works" "[I", Cond.fieldLink RX1 88 "CatalogueHarvester$Records" "values" "[I", Cond.fieldLink RX1 91 "CatalogueHarvester$Records" "stamps" "[I", Cond.methodLink RX1 74 yX0_listedStamp, Cond.methodLink RX1 94 yX2_keep, Cond.methodLink RX1 98 yX2_drop, Cond.methodLink RX1 64 yX1_finish, Cond.instanceMethod yX1_finish, Cond.selects RX1 yX1_finish yX1_finish, Cond.code yX1_finish cX1_finish 1 none, Cond.methodLink RX1 101 yX0_stampOfDay, Cond.methodLink RX1 104 yX1_dropWhatIsGone, Cond.instanceMethod yX1_dropWhatIsGone, Cond.selects RX1 yX1_dropWhatIsGone yX1_dropWhatIsGone, Cond.code yX1_dropWhatIsGone cX1_dropWhatIsGone 2 none, Cond.methodLink RL 51 yX3_stored, Cond.instanceMethod yX3_stored, Cond.selects RX3 yX3_stored yX3_stored, Cond.code yX3_stored cX3_stored 4 (some .int), Cond.fieldLink RX3 104 "CatalogueHarvester$Records" "values" "[I", Cond.methodLink RL 61 yX3_copies, Cond.instanceMethod yX3_copies, Cond.selects RX3 yX3_copies yX3_copies, Cond.code yX3_copies cX3_copies 4 (some .int)]
def wsL_isRefused_r10 : List Cond := [Cond.methodLink RX3 112 yX2_countOfWork, Cond.instanceMethod yX2_countOfWork, Cond.selects RX2 yX2_countOfWork yX2_countOfWork, Cond.code yX2_countOfWork cX2_countOfWork 4 (some .int), Cond.methodLink RL 64 yX3_best, Cond.instanceMethod yX3_best, Cond.selects RX3 yX3_best yX3_best, Cond.code yX3_best cX3_best 7 (some .int), Cond.fieldLink RX3 118 "CatalogueHarvester$Records" "stamps" "[I", Cond.methodLink RX3 115 yX2_latestOfWork, Cond.instanceMethod yX2_latestOfWork, Cond.selects RX2 yX2_latestOfWork yX2_latestOfWork, Cond.code yX2_latestOfWork cX2_latestOfWork 5 (some .int)]
def wsL_isRefused : List Cond := .code yL_isRefused cL_isRefused 12 (some .boolean) :: ((wsL_isRefused_r1 ++ (wsL_isRefused_r2 ++ (wsL_isRefused_r3 ++ (wsL_isRefused_r4 ++ (wsL_isRefused_r5 ++ (wsL_isRefused_r6 ++ (wsL_isRefused_r7 ++ (wsL_isRefused_r8 ++ (wsL_isRefused_r9 ++ wsL_isRefused_r10))))))))) ++ wsX30 ++ wsX10 ++ wsX00 ++ wsX20 ++ (vx_atS RX3 125 "java/lang/IllegalArgumentException" ["java/lang/RuntimeException", "java/lang/Exception"]).filter goodWord ++ (vx_atS RX3 65 "java/lang/IllegalStateException" ["java/lang/RuntimeException", "java/lang/Exception"]).filter goodWord)
def wsL_clear : List Cond := .code yL_clear cL_clear 7 none :: ([])
def wsL_isPut_r1 : List Cond := [Cond.methodLink RL 67 yX3_today, Cond.instanceMethod yX3_today, Cond.selects RX3 yX3_today yX3_today, Cond.initialized RX3, Cond.code yX3_today cX3_today 1 (some .int), Cond.fieldLink RX3 16 "CatalogueHarvester" "today" "I", Cond.methodLink RL 15 yX3_put, Cond.instanceMethod yX3_put, Cond.selects RX3 yX3_put yX3_put, Cond.code yX3_put cX3_put 6 (some .int), Cond.fieldLink RX3 28 "CatalogueHarvester$Harvest" "far" "LCatalogueHarvester$FarCatalogue;", Cond.methodLink RX3 20 yX3_harvestOf, Cond.instanceMethod yX3_harvestOf, Cond.selects RX3 yX3_harvestOf yX3_harvestOf, Cond.code yX3_harvestOf cX3_harvestOf 3 (some (.object "CatalogueHarvester$Harvest")), Cond.classLink RX3 121 "java/lang/IllegalArgumentException", Cond.initialized "java/lang/IllegalArgumentException", Cond.fieldLink RX3 11 "CatalogueHarvester" "harvests" "[LCatalogueHarvester$Harvest;", Cond.methodLink RX3 44 yX3_refuseRecord, Cond.static yX3_refuseRecord, Cond.code yX3_refuseRecord cX3_refuseRecord 1 none, Cond.methodLink RX3 24 yX3_refuseOutside, Cond.static yX3_refuseOutside, Cond.code yX3_refuseOutside cX3_refuseOutside 3 none]
def wsL_isPut_r2 : List Cond := [Cond.methodLink RX3 47 yX0_change, Cond.instanceMethod yX0_change, Cond.selects RX0 yX0_change yX0_change, Cond.initialized RX0, Cond.code yX0_change cX0_change 6 (some .int), Cond.fieldLink RX0 12 "CatalogueHarvester$FarCatalogue" "records" "LCatalogueHarvester$Records;", Cond.fieldLink RX0 18 "CatalogueHarvester$FarCatalogue" "isTold" "[Z", Cond.methodLink RX0 36 yX0_stampOfDay, Cond.instanceMethod yX0_stampOfDay, Cond.selects RX0 yX0_stampOfDay yX0_stampOfDay, Cond.code yX0_stampOfDay cX0_stampOfDay 2 (some .int), Cond.fieldLink RX0 29 "CatalogueHarvester$FarCatalogue" "unit" "I", Cond.methodLink RX0 40 yX2_keep, Cond.instanceMethod yX2_keep, Cond.selects RX2 yX2_keep yX2_keep, Cond.initialized RX2, Cond.code yX2_keep cX2_keep 5 none, Cond.fieldLink RX2 9 "CatalogueHarvester$Records" "isThere" "[Z", Cond.fieldLink RX2 15 "CatalogueHarvester$Records" "works" "[I", Cond.fieldLink RX2 19 "CatalogueHarvester$Records" "values" "[I", Cond.fieldLink RX2 22 "CatalogueHarvester$Records" "stamps" "[I"]
def wsL_isPut : List Cond := .code yL_isPut cL_isPut 9 (some .boolean) :: ((wsL_isPut_r1 ++ wsL_isPut_r2) ++ wsX30 ++ wsX10 ++ wsX00 ++ wsX20 ++ (vx_atS RX3 125 "java/lang/IllegalArgumentException" ["java/lang/RuntimeException", "java/lang/Exception"]).filter goodWord)
def wsL_isRemoved_r1 : List Cond := [Cond.methodLink RL 92 yL_far, Cond.static yL_far, Cond.initialized RL, Cond.codeWith yL_far cL_far 7 (some .int) [(0, 86, 87, 33), (0, 86, 93, 35)], Cond.classLink RL 33 "java/lang/IllegalArgumentException", Cond.classLink RL 35 "java/lang/IllegalStateException", Cond.methodLink RL 9 yX3_setCatalogue, Cond.instanceMethod yX3_setCatalogue, Cond.selects RX3 yX3_setCatalogue yX3_setCatalogue, Cond.initialized RX3, Cond.code yX3_setCatalogue cX3_setCatalogue 6 (some .int), Cond.fieldLink RX3 28 "CatalogueHarvester$Harvest" "far" "LCatalogueHarvester$FarCatalogue;", Cond.fieldLink RX3 32 "CatalogueHarvester$FarCatalogue" "unit" "I", Cond.fieldLink RX3 37 "CatalogueHarvester$FarCatalogue" "deletes" "I", Cond.fieldLink RX3 16 "CatalogueHarvester" "today" "I", Cond.methodLink RX3 20 yX3_harvestOf, Cond.instanceMethod yX3_harvestOf, Cond.selects RX3 yX3_harvestOf yX3_harvestOf, Cond.code yX3_harvestOf cX3_harvestOf 3 (some (.object "CatalogueHarvester$Harvest")), Cond.classLink RX3 121 "java/lang/IllegalArgumentException", Cond.initialized "java/lang/IllegalArgumentException", Cond.fieldLink RX3 11 "CatalogueHarvester" "harvests" "[LCatalogueHarvester$Harvest;", Cond.methodLink RX3 24 yX3_refuseOutside, Cond.static yX3_refuseOutside]
def wsL_isRemoved_r2 : List Cond := [Cond.code yX3_refuseOutside cX3_refuseOutside 3 none, Cond.methodLink RX3 40 yX0_forgetToldDeletes, Cond.instanceMethod yX0_forgetToldDeletes, Cond.selects RX0 yX0_forgetToldDeletes yX0_forgetToldDeletes, Cond.initialized RX0, Cond.code yX0_forgetToldDeletes cX0_forgetToldDeletes 4 none, Cond.fieldLink RX0 26 "CatalogueHarvester$FarCatalogue" "removalDays" "[I", Cond.fieldLink RX0 33 "CatalogueHarvester$FarCatalogue" "deletes" "I", Cond.fieldLink RX0 18 "CatalogueHarvester$FarCatalogue" "isTold" "[Z", Cond.methodLink RL 15 yX3_put, Cond.instanceMethod yX3_put, Cond.selects RX3 yX3_put yX3_put, Cond.code yX3_put cX3_put 6 (some .int), Cond.methodLink RX3 44 yX3_refuseRecord, Cond.static yX3_refuseRecord, Cond.code yX3_refuseRecord cX3_refuseRecord 1 none, Cond.methodLink RX3 47 yX0_change, Cond.instanceMethod yX0_change, Cond.selects RX0 yX0_change yX0_change, Cond.code yX0_change cX0_change 6 (some .int), Cond.fieldLink RX0 12 "CatalogueHarvester$FarCatalogue" "records" "LCatalogueHarvester$Records;", Cond.methodLink RX0 36 yX0_stampOfDay, Cond.instanceMethod yX0_stampOfDay, Cond.selects RX0 yX0_stampOfDay yX0_stampOfDay]
def wsL_isRemoved_r3 : List Cond := [Cond.code yX0_stampOfDay cX0_stampOfDay 2 (some .int), Cond.fieldLink RX0 29 "CatalogueHarvester$FarCatalogue" "unit" "I", Cond.methodLink RX0 40 yX2_keep, Cond.instanceMethod yX2_keep, Cond.selects RX2 yX2_keep yX2_keep, Cond.initialized RX2, Cond.code yX2_keep cX2_keep 5 none, Cond.fieldLink RX2 9 "CatalogueHarvester$Records" "isThere" "[Z", Cond.fieldLink RX2 15 "CatalogueHarvester$Records" "works" "[I", Cond.fieldLink RX2 19 "CatalogueHarvester$Records" "values" "[I", Cond.fieldLink RX2 22 "CatalogueHarvester$Records" "stamps" "[I", Cond.methodLink RL 19 yX3_remove, Cond.instanceMethod yX3_remove, Cond.selects RX3 yX3_remove yX3_remove, Cond.code yX3_remove cX3_remove 4 (some .boolean), Cond.classLink RX3 61 "java/lang/IllegalStateException", Cond.initialized "java/lang/IllegalStateException", Cond.fieldLink RX3 51 "CatalogueHarvester$FarCatalogue" "records" "LCatalogueHarvester$Records;", Cond.fieldLink RX3 55 "CatalogueHarvester$Records" "isThere" "[Z", Cond.methodLink RX3 68 yX0_delete, Cond.instanceMethod yX0_delete, Cond.selects RX0 yX0_delete yX0_delete, Cond.code yX0_delete cX0_delete 3 (some .boolean), Cond.fieldLink RX0 22 "CatalogueHarvester$FarCatalogue" "toldStamps" "[I"]
def wsL_isRemoved_r4 : List Cond := [Cond.methodLink RX0 44 yX2_drop, Cond.instanceMethod yX2_drop, Cond.selects RX2 yX2_drop yX2_drop, Cond.code yX2_drop cX2_drop 2 none, Cond.methodLink RL 23 yX3_pass, Cond.instanceMethod yX3_pass, Cond.selects RX3 yX3_pass yX3_pass, Cond.code yX3_pass cX3_pass 3 (some .int), Cond.methodLink RL 27 yX3_far, Cond.instanceMethod yX3_far, Cond.selects RX3 yX3_far yX3_far, Cond.code yX3_far cX3_far 2 (some .int), Cond.methodLink RX3 74 yX2_count, Cond.instanceMethod yX2_count, Cond.selects RX2 yX2_count yX2_count, Cond.code yX2_count cX2_count 3 (some .int), Cond.methodLink RL 30 yX3_told, Cond.instanceMethod yX3_told, Cond.selects RX3 yX3_told yX3_told, Cond.code yX3_told cX3_told 2 (some .int), Cond.methodLink RX3 78 yX0_countTold, Cond.instanceMethod yX0_countTold, Cond.selects RX0 yX0_countTold yX0_countTold, Cond.code yX0_countTold cX0_countTold 3 (some .int)]
def wsL_isRemoved_r5 : List Cond := [Cond.methodLink RL 67 yX3_today, Cond.instanceMethod yX3_today, Cond.selects RX3 yX3_today yX3_today, Cond.code yX3_today cX3_today 1 (some .int)]
def wsL_isRemoved : List Cond := .code yL_isRemoved cL_isRemoved 8 (some .boolean) :: ((wsL_isRemoved_r1 ++ (wsL_isRemoved_r2 ++ (wsL_isRemoved_r3 ++ (wsL_isRemoved_r4 ++ wsL_isRemoved_r5)))) ++ wsX10 ++ wsX00 ++ wsX30 ++ wsX20 ++ (vx_atS RX3 125 "java/lang/IllegalArgumentException" ["java/lang/RuntimeException", "java/lang/Exception"]).filter goodWord ++ (vx_atS RX3 65 "java/lang/IllegalStateException" ["java/lang/RuntimeException", "java/lang/Exception"]).filter goodWord)
def wsL_isRound_r1 : List Cond := [Cond.methodLink RL 48 yX3_mark, Cond.instanceMethod yX3_mark, Cond.selects RX3 yX3_mark yX3_mark, Cond.initialized RX3, Cond.code yX3_mark cX3_mark 2 (some .int), Cond.fieldLink RX3 98 "CatalogueHarvester$Harvest" "mark" "I", Cond.methodLink RX3 20 yX3_harvestOf, Cond.instanceMethod yX3_harvestOf, Cond.selects RX3 yX3_harvestOf yX3_harvestOf, Cond.code yX3_harvestOf cX3_harvestOf 3 (some (.object "CatalogueHarvester$Harvest")), Cond.classLink RX3 121 "java/lang/IllegalArgumentException", Cond.initialized "java/lang/IllegalArgumentException", Cond.fieldLink RX3 11 "CatalogueHarvester" "harvests" "[LCatalogueHarvester$Harvest;", Cond.methodLink RL 83 yL_stampOf, Cond.static yL_stampOf, Cond.initialized RL, Cond.code yL_stampOf cL_stampOf 1 (some .int), Cond.methodLink RL 37 yX3_open, Cond.instanceMethod yX3_open, Cond.selects RX3 yX3_open yX3_open, Cond.code yX3_open cX3_open 4 (some .int), Cond.fieldLink RX3 16 "CatalogueHarvester" "today" "I", Cond.methodLink RX3 81 yX1_begin, Cond.instanceMethod yX1_begin]
def wsL_isRound_r2 : List Cond := [Cond.selects RX1 yX1_begin yX1_begin, Cond.initialized RX1, Cond.code yX1_begin cX1_begin 4 none, Cond.fieldLink RX1 29 "CatalogueHarvester$Harvest" "hasOpenList" "Z", Cond.fieldLink RX1 33 "CatalogueHarvester$Harvest" "isFullList" "Z", Cond.fieldLink RX1 36 "CatalogueHarvester$Harvest" "openingDay" "I", Cond.fieldLink RX1 39 "CatalogueHarvester$Harvest" "tokenDay" "I", Cond.fieldLink RX1 42 "CatalogueHarvester$Harvest" "placeStamp" "I", Cond.fieldLink RX1 45 "CatalogueHarvester$Harvest" "placeRecord" "I", Cond.fieldLink RX1 48 "CatalogueHarvester$Harvest" "isTakenOver" "[Z", Cond.methodLink RX3 85 yX1_firstStamp, Cond.instanceMethod yX1_firstStamp, Cond.selects RX1 yX1_firstStamp yX1_firstStamp, Cond.code yX1_firstStamp cX1_firstStamp 1 (some .int), Cond.fieldLink RX1 25 "CatalogueHarvester$Harvest" "mark" "I", Cond.methodLink RL 44 yX3_isOpen, Cond.instanceMethod yX3_isOpen, Cond.selects RX3 yX3_isOpen yX3_isOpen, Cond.code yX3_isOpen cX3_isOpen 2 (some .boolean), Cond.fieldLink RX3 88 "CatalogueHarvester$Harvest" "hasOpenList" "Z", Cond.methodLink RL 41 yX3_read, Cond.instanceMethod yX3_read, Cond.selects RX3 yX3_read yX3_read, Cond.code yX3_read cX3_read 3 (some .int)]
def wsL_isRound_r3 : List Cond := [Cond.classLink RX3 61 "java/lang/IllegalStateException", Cond.initialized "java/lang/IllegalStateException", Cond.methodLink RX3 94 yX1_takePage, Cond.instanceMethod yX1_takePage, Cond.selects RX1 yX1_takePage yX1_takePage, Cond.code yX1_takePage cX1_takePage 4 (some .int), Cond.methodLink RX1 52 yX1_begin, Cond.methodLink RX1 56 yX1_nextOfList, Cond.instanceMethod yX1_nextOfList, Cond.selects RX1 yX1_nextOfList yX1_nextOfList, Cond.code yX1_nextOfList cX1_nextOfList 1 (some .int), Cond.fieldLink RX1 12 "CatalogueHarvester$Harvest" "far" "LCatalogueHarvester$FarCatalogue;", Cond.methodLink RX1 67 yX1_firstStamp, Cond.methodLink RX1 70 yX0_nextListed, Cond.instanceMethod yX0_nextListed, Cond.selects RX0 yX0_nextListed yX0_nextListed, Cond.initialized RX0, Cond.code yX0_nextListed cX0_nextListed 10 (some .int), Cond.methodLink RX0 54 yX0_listedStamp, Cond.instanceMethod yX0_listedStamp, Cond.selects RX0 yX0_listedStamp yX0_listedStamp, Cond.code yX0_listedStamp cX0_listedStamp 2 (some .int), Cond.fieldLink RX0 12 "CatalogueHarvester$FarCatalogue" "records" "LCatalogueHarvester$Records;", Cond.fieldLink RX0 48 "CatalogueHarvester$Records" "isThere" "[Z"]
def wsL_isRound_r4 : List Cond := [Cond.fieldLink RX0 51 "CatalogueHarvester$Records" "stamps" "[I", Cond.fieldLink RX0 18 "CatalogueHarvester$FarCatalogue" "isTold" "[Z", Cond.fieldLink RX0 22 "CatalogueHarvester$FarCatalogue" "toldStamps" "[I", Cond.methodLink RX1 60 yX1_takeOver, Cond.instanceMethod yX1_takeOver, Cond.selects RX1 yX1_takeOver yX1_takeOver, Cond.code yX1_takeOver cX1_takeOver 3 none, Cond.fieldLink RX1 78 "CatalogueHarvester$FarCatalogue" "records" "LCatalogueHarvester$Records;", Cond.fieldLink RX1 81 "CatalogueHarvester$Records" "isThere" "[Z", Cond.fieldLink RX1 21 "CatalogueHarvester$Harvest" "store" "LCatalogueHarvester$Records;", Cond.fieldLink RX1 84 "CatalogueHarvester$Records" "works" "[I", Cond.fieldLink RX1 88 "CatalogueHarvester$Records" "values" "[I", Cond.fieldLink RX1 91 "CatalogueHarvester$Records" "stamps" "[I", Cond.methodLink RX1 74 yX0_listedStamp, Cond.methodLink RX1 94 yX2_keep, Cond.instanceMethod yX2_keep, Cond.selects RX2 yX2_keep yX2_keep, Cond.initialized RX2, Cond.code yX2_keep cX2_keep 5 none, Cond.fieldLink RX2 9 "CatalogueHarvester$Records" "isThere" "[Z", Cond.fieldLink RX2 15 "CatalogueHarvester$Records" "works" "[I", Cond.fieldLink RX2 19 "CatalogueHarvester$Records" "values" "[I", Cond.fieldLink RX2 22 "CatalogueHarvester$Records" "stamps" "[I", Cond.methodLink RX1 98 yX2_drop]
def wsL_isRound_r5 : List Cond := [Cond.instanceMethod yX2_drop, Cond.selects RX2 yX2_drop yX2_drop, Cond.code yX2_drop cX2_drop 2 none, Cond.methodLink RX1 64 yX1_finish, Cond.instanceMethod yX1_finish, Cond.selects RX1 yX1_finish yX1_finish, Cond.code yX1_finish cX1_finish 1 none, Cond.methodLink RX1 101 yX0_stampOfDay, Cond.instanceMethod yX0_stampOfDay, Cond.selects RX0 yX0_stampOfDay yX0_stampOfDay, Cond.code yX0_stampOfDay cX0_stampOfDay 2 (some .int), Cond.fieldLink RX0 29 "CatalogueHarvester$FarCatalogue" "unit" "I", Cond.methodLink RX1 104 yX1_dropWhatIsGone, Cond.instanceMethod yX1_dropWhatIsGone, Cond.selects RX1 yX1_dropWhatIsGone yX1_dropWhatIsGone, Cond.code yX1_dropWhatIsGone cX1_dropWhatIsGone 2 none, Cond.methodLink RL 67 yX3_today, Cond.instanceMethod yX3_today, Cond.selects RX3 yX3_today yX3_today, Cond.code yX3_today cX3_today 1 (some .int), Cond.methodLink RL 58 yX3_wrong, Cond.instanceMethod yX3_wrong, Cond.selects RX3 yX3_wrong yX3_wrong, Cond.code yX3_wrong cX3_wrong 3 (some .int)]
def wsL_isRound_r6 : List Cond := [Cond.fieldLink RX3 101 "CatalogueHarvester$Harvest" "store" "LCatalogueHarvester$Records;", Cond.fieldLink RX3 28 "CatalogueHarvester$Harvest" "far" "LCatalogueHarvester$FarCatalogue;", Cond.fieldLink RX3 51 "CatalogueHarvester$FarCatalogue" "records" "LCatalogueHarvester$Records;", Cond.methodLink RX3 108 yX2_countUnlike, Cond.instanceMethod yX2_countUnlike, Cond.selects RX2 yX2_countUnlike yX2_countUnlike, Cond.code yX2_countUnlike cX2_countUnlike 4 (some .int), Cond.methodLink RX2 25 yX2_isLike, Cond.instanceMethod yX2_isLike, Cond.selects RX2 yX2_isLike yX2_isLike, Cond.code yX2_isLike cX2_isLike 3 (some .boolean)]
def wsL_isRound : List Cond := .code yL_isRound cL_isRound 11 (some .boolean) :: ((wsL_isRound_r1 ++ (wsL_isRound_r2 ++ (wsL_isRound_r3 ++ (wsL_isRound_r4 ++ (wsL_isRound_r5 ++ wsL_isRound_r6))))) ++ wsX10 ++ wsX30 ++ wsX00 ++ wsX20 ++ (vx_atS RX3 125 "java/lang/IllegalArgumentException" ["java/lang/RuntimeException", "java/lang/Exception"]).filter goodWord ++ (vx_atS RX3 65 "java/lang/IllegalStateException" ["java/lang/RuntimeException", "java/lang/Exception"]).filter goodWord)
def wsL_isPage_r1 : List Cond := [Cond.methodLink RL 95 yL_near, Cond.static yL_near, Cond.initialized RL, Cond.codeWith yL_near cL_near 5 (some .int) [(0, 129, 130, 33), (0, 129, 136, 35)], Cond.classLink RL 33 "java/lang/IllegalArgumentException", Cond.classLink RL 35 "java/lang/IllegalStateException", Cond.methodLink RL 37 yX3_open, Cond.instanceMethod yX3_open, Cond.selects RX3 yX3_open yX3_open, Cond.initialized RX3, Cond.code yX3_open cX3_open 4 (some .int), Cond.fieldLink RX3 16 "CatalogueHarvester" "today" "I", Cond.methodLink RX3 20 yX3_harvestOf, Cond.instanceMethod yX3_harvestOf, Cond.selects RX3 yX3_harvestOf yX3_harvestOf, Cond.code yX3_harvestOf cX3_harvestOf 3 (some (.object "CatalogueHarvester$Harvest")), Cond.classLink RX3 121 "java/lang/IllegalArgumentException", Cond.initialized "java/lang/IllegalArgumentException", Cond.fieldLink RX3 11 "CatalogueHarvester" "harvests" "[LCatalogueHarvester$Harvest;", Cond.methodLink RX3 81 yX1_begin, Cond.instanceMethod yX1_begin, Cond.selects RX1 yX1_begin yX1_begin, Cond.initialized RX1, Cond.code yX1_begin cX1_begin 4 none]
def wsL_isPage_r2 : List Cond := [Cond.fieldLink RX1 29 "CatalogueHarvester$Harvest" "hasOpenList" "Z", Cond.fieldLink RX1 33 "CatalogueHarvester$Harvest" "isFullList" "Z", Cond.fieldLink RX1 36 "CatalogueHarvester$Harvest" "openingDay" "I", Cond.fieldLink RX1 39 "CatalogueHarvester$Harvest" "tokenDay" "I", Cond.fieldLink RX1 42 "CatalogueHarvester$Harvest" "placeStamp" "I", Cond.fieldLink RX1 45 "CatalogueHarvester$Harvest" "placeRecord" "I", Cond.fieldLink RX1 48 "CatalogueHarvester$Harvest" "isTakenOver" "[Z", Cond.methodLink RX3 85 yX1_firstStamp, Cond.instanceMethod yX1_firstStamp, Cond.selects RX1 yX1_firstStamp yX1_firstStamp, Cond.code yX1_firstStamp cX1_firstStamp 1 (some .int), Cond.fieldLink RX1 25 "CatalogueHarvester$Harvest" "mark" "I", Cond.methodLink RL 41 yX3_read, Cond.instanceMethod yX3_read, Cond.selects RX3 yX3_read yX3_read, Cond.code yX3_read cX3_read 3 (some .int), Cond.classLink RX3 61 "java/lang/IllegalStateException", Cond.initialized "java/lang/IllegalStateException", Cond.fieldLink RX3 88 "CatalogueHarvester$Harvest" "hasOpenList" "Z", Cond.methodLink RX3 94 yX1_takePage, Cond.instanceMethod yX1_takePage, Cond.selects RX1 yX1_takePage yX1_takePage, Cond.code yX1_takePage cX1_takePage 4 (some .int), Cond.methodLink RX1 52 yX1_begin]
def wsL_isPage_r3 : List Cond := [Cond.methodLink RX1 56 yX1_nextOfList, Cond.instanceMethod yX1_nextOfList, Cond.selects RX1 yX1_nextOfList yX1_nextOfList, Cond.code yX1_nextOfList cX1_nextOfList 1 (some .int), Cond.fieldLink RX1 12 "CatalogueHarvester$Harvest" "far" "LCatalogueHarvester$FarCatalogue;", Cond.methodLink RX1 67 yX1_firstStamp, Cond.methodLink RX1 70 yX0_nextListed, Cond.instanceMethod yX0_nextListed, Cond.selects RX0 yX0_nextListed yX0_nextListed, Cond.initialized RX0, Cond.code yX0_nextListed cX0_nextListed 10 (some .int), Cond.methodLink RX0 54 yX0_listedStamp, Cond.instanceMethod yX0_listedStamp, Cond.selects RX0 yX0_listedStamp yX0_listedStamp, Cond.code yX0_listedStamp cX0_listedStamp 2 (some .int), Cond.fieldLink RX0 12 "CatalogueHarvester$FarCatalogue" "records" "LCatalogueHarvester$Records;", Cond.fieldLink RX0 48 "CatalogueHarvester$Records" "isThere" "[Z", Cond.fieldLink RX0 51 "CatalogueHarvester$Records" "stamps" "[I", Cond.fieldLink RX0 18 "CatalogueHarvester$FarCatalogue" "isTold" "[Z", Cond.fieldLink RX0 22 "CatalogueHarvester$FarCatalogue" "toldStamps" "[I", Cond.methodLink RX1 60 yX1_takeOver, Cond.instanceMethod yX1_takeOver, Cond.selects RX1 yX1_takeOver yX1_takeOver, Cond.code yX1_takeOver cX1_takeOver 3 none]
def wsL_isPage_r4 : List Cond := [Cond.fieldLink RX1 78 "CatalogueHarvester$FarCatalogue" "records" "LCatalogueHarvester$Records;", Cond.fieldLink RX1 81 "CatalogueHarvester$Records" "isThere" "[Z", Cond.fieldLink RX1 21 "CatalogueHarvester$Harvest" "store" "LCatalogueHarvester$Records;", Cond.fieldLink RX1 84 "CatalogueHarvester$Records" "works" "[I", Cond.fieldLink RX1 88 "CatalogueHarvester$Records" "values" "[I", Cond.fieldLink RX1 91 "CatalogueHarvester$Records" "stamps" "[I", Cond.methodLink RX1 74 yX0_listedStamp, Cond.methodLink RX1 94 yX2_keep, Cond.instanceMethod yX2_keep, Cond.selects RX2 yX2_keep yX2_keep, Cond.initialized RX2, Cond.code yX2_keep cX2_keep 5 none, Cond.fieldLink RX2 9 "CatalogueHarvester$Records" "isThere" "[Z", Cond.fieldLink RX2 15 "CatalogueHarvester$Records" "works" "[I", Cond.fieldLink RX2 19 "CatalogueHarvester$Records" "values" "[I", Cond.fieldLink RX2 22 "CatalogueHarvester$Records" "stamps" "[I", Cond.methodLink RX1 98 yX2_drop, Cond.instanceMethod yX2_drop, Cond.selects RX2 yX2_drop yX2_drop, Cond.code yX2_drop cX2_drop 2 none, Cond.methodLink RX1 64 yX1_finish, Cond.instanceMethod yX1_finish, Cond.selects RX1 yX1_finish yX1_finish, Cond.code yX1_finish cX1_finish 1 none]
def wsL_isPage_r5 : List Cond := [Cond.methodLink RX1 101 yX0_stampOfDay, Cond.instanceMethod yX0_stampOfDay, Cond.selects RX0 yX0_stampOfDay yX0_stampOfDay, Cond.code yX0_stampOfDay cX0_stampOfDay 2 (some .int), Cond.fieldLink RX0 29 "CatalogueHarvester$FarCatalogue" "unit" "I", Cond.methodLink RX1 104 yX1_dropWhatIsGone, Cond.instanceMethod yX1_dropWhatIsGone, Cond.selects RX1 yX1_dropWhatIsGone yX1_dropWhatIsGone, Cond.code yX1_dropWhatIsGone cX1_dropWhatIsGone 2 none, Cond.methodLink RL 44 yX3_isOpen, Cond.instanceMethod yX3_isOpen, Cond.selects RX3 yX3_isOpen yX3_isOpen, Cond.code yX3_isOpen cX3_isOpen 2 (some .boolean), Cond.methodLink RL 48 yX3_mark, Cond.instanceMethod yX3_mark, Cond.selects RX3 yX3_mark yX3_mark, Cond.code yX3_mark cX3_mark 2 (some .int), Cond.fieldLink RX3 98 "CatalogueHarvester$Harvest" "mark" "I", Cond.methodLink RL 51 yX3_stored, Cond.instanceMethod yX3_stored, Cond.selects RX3 yX3_stored yX3_stored, Cond.code yX3_stored cX3_stored 4 (some .int), Cond.fieldLink RX3 101 "CatalogueHarvester$Harvest" "store" "LCatalogueHarvester$Records;", Cond.fieldLink RX3 55 "CatalogueHarvester$Records" "isThere" "[Z"]
def wsL_isPage_r6 : List Cond := [Cond.fieldLink RX3 104 "CatalogueHarvester$Records" "values" "[I", Cond.methodLink RX3 44 yX3_refuseRecord, Cond.static yX3_refuseRecord, Cond.code yX3_refuseRecord cX3_refuseRecord 1 none, Cond.methodLink RX3 24 yX3_refuseOutside, Cond.static yX3_refuseOutside, Cond.code yX3_refuseOutside cX3_refuseOutside 3 none, Cond.methodLink RL 55 yX3_held, Cond.instanceMethod yX3_held, Cond.selects RX3 yX3_held yX3_held, Cond.code yX3_held cX3_held 2 (some .int), Cond.methodLink RX3 74 yX2_count, Cond.instanceMethod yX2_count, Cond.selects RX2 yX2_count yX2_count, Cond.code yX2_count cX2_count 3 (some .int), Cond.methodLink RL 58 yX3_wrong, Cond.instanceMethod yX3_wrong, Cond.selects RX3 yX3_wrong yX3_wrong, Cond.code yX3_wrong cX3_wrong 3 (some .int), Cond.fieldLink RX3 28 "CatalogueHarvester$Harvest" "far" "LCatalogueHarvester$FarCatalogue;", Cond.fieldLink RX3 51 "CatalogueHarvester$FarCatalogue" "records" "LCatalogueHarvester$Records;", Cond.methodLink RX3 108 yX2_countUnlike, Cond.instanceMethod yX2_countUnlike, Cond.selects RX2 yX2_countUnlike yX2_countUnlike]
def wsL_isPage_r7 : List Cond := [Cond.code yX2_countUnlike cX2_countUnlike 4 (some .int), Cond.methodLink RX2 25 yX2_isLike, Cond.instanceMethod yX2_isLike, Cond.selects RX2 yX2_isLike yX2_isLike, Cond.code yX2_isLike cX2_isLike 3 (some .boolean), Cond.methodLink RL 61 yX3_copies, Cond.instanceMethod yX3_copies, Cond.selects RX3 yX3_copies yX3_copies, Cond.code yX3_copies cX3_copies 4 (some .int), Cond.methodLink RX3 112 yX2_countOfWork, Cond.instanceMethod yX2_countOfWork, Cond.selects RX2 yX2_countOfWork yX2_countOfWork, Cond.code yX2_countOfWork cX2_countOfWork 4 (some .int), Cond.methodLink RL 64 yX3_best, Cond.instanceMethod yX3_best, Cond.selects RX3 yX3_best yX3_best, Cond.code yX3_best cX3_best 7 (some .int), Cond.fieldLink RX3 118 "CatalogueHarvester$Records" "stamps" "[I", Cond.methodLink RX3 115 yX2_latestOfWork, Cond.instanceMethod yX2_latestOfWork, Cond.selects RX2 yX2_latestOfWork yX2_latestOfWork, Cond.code yX2_latestOfWork cX2_latestOfWork 5 (some .int)]
def wsL_isPage : List Cond := .code yL_isPage cL_isPage 16 (some .boolean) :: ((wsL_isPage_r1 ++ (wsL_isPage_r2 ++ (wsL_isPage_r3 ++ (wsL_isPage_r4 ++ (wsL_isPage_r5 ++ (wsL_isPage_r6 ++ wsL_isPage_r7)))))) ++ wsX30 ++ wsX10 ++ wsX00 ++ wsX20 ++ (vx_atS RX3 125 "java/lang/IllegalArgumentException" ["java/lang/RuntimeException", "java/lang/Exception"]).filter goodWord ++ (vx_atS RX3 65 "java/lang/IllegalStateException" ["java/lang/RuntimeException", "java/lang/Exception"]).filter goodWord)
def wsL_isKnown_r1 : List Cond := [Cond.methodLink RL 99 yL_isRound, Cond.static yL_isRound, Cond.initialized RL, Cond.code yL_isRound cL_isRound 11 (some .boolean), Cond.methodLink RL 48 yX3_mark, Cond.instanceMethod yX3_mark, Cond.selects RX3 yX3_mark yX3_mark, Cond.initialized RX3, Cond.code yX3_mark cX3_mark 2 (some .int), Cond.fieldLink RX3 98 "CatalogueHarvester$Harvest" "mark" "I", Cond.methodLink RX3 20 yX3_harvestOf, Cond.instanceMethod yX3_harvestOf, Cond.selects RX3 yX3_harvestOf yX3_harvestOf, Cond.code yX3_harvestOf cX3_harvestOf 3 (some (.object "CatalogueHarvester$Harvest")), Cond.classLink RX3 121 "java/lang/IllegalArgumentException", Cond.initialized "java/lang/IllegalArgumentException", Cond.fieldLink RX3 11 "CatalogueHarvester" "harvests" "[LCatalogueHarvester$Harvest;", Cond.methodLink RL 83 yL_stampOf, Cond.static yL_stampOf, Cond.code yL_stampOf cL_stampOf 1 (some .int), Cond.methodLink RL 37 yX3_open, Cond.instanceMethod yX3_open, Cond.selects RX3 yX3_open yX3_open, Cond.code yX3_open cX3_open 4 (some .int)]
def wsL_isKnown_r2 : List Cond := [Cond.fieldLink RX3 16 "CatalogueHarvester" "today" "I", Cond.methodLink RX3 81 yX1_begin, Cond.instanceMethod yX1_begin, Cond.selects RX1 yX1_begin yX1_begin, Cond.initialized RX1, Cond.code yX1_begin cX1_begin 4 none, Cond.fieldLink RX1 29 "CatalogueHarvester$Harvest" "hasOpenList" "Z", Cond.fieldLink RX1 33 "CatalogueHarvester$Harvest" "isFullList" "Z", Cond.fieldLink RX1 36 "CatalogueHarvester$Harvest" "openingDay" "I", Cond.fieldLink RX1 39 "CatalogueHarvester$Harvest" "tokenDay" "I", Cond.fieldLink RX1 42 "CatalogueHarvester$Harvest" "placeStamp" "I", Cond.fieldLink RX1 45 "CatalogueHarvester$Harvest" "placeRecord" "I", Cond.fieldLink RX1 48 "CatalogueHarvester$Harvest" "isTakenOver" "[Z", Cond.methodLink RX3 85 yX1_firstStamp, Cond.instanceMethod yX1_firstStamp, Cond.selects RX1 yX1_firstStamp yX1_firstStamp, Cond.code yX1_firstStamp cX1_firstStamp 1 (some .int), Cond.fieldLink RX1 25 "CatalogueHarvester$Harvest" "mark" "I", Cond.methodLink RL 44 yX3_isOpen, Cond.instanceMethod yX3_isOpen, Cond.selects RX3 yX3_isOpen yX3_isOpen, Cond.code yX3_isOpen cX3_isOpen 2 (some .boolean), Cond.fieldLink RX3 88 "CatalogueHarvester$Harvest" "hasOpenList" "Z", Cond.methodLink RL 41 yX3_read]
def wsL_isKnown_r3 : List Cond := [Cond.instanceMethod yX3_read, Cond.selects RX3 yX3_read yX3_read, Cond.code yX3_read cX3_read 3 (some .int), Cond.classLink RX3 61 "java/lang/IllegalStateException", Cond.initialized "java/lang/IllegalStateException", Cond.methodLink RX3 94 yX1_takePage, Cond.instanceMethod yX1_takePage, Cond.selects RX1 yX1_takePage yX1_takePage, Cond.code yX1_takePage cX1_takePage 4 (some .int), Cond.methodLink RX1 52 yX1_begin, Cond.methodLink RX1 56 yX1_nextOfList, Cond.instanceMethod yX1_nextOfList, Cond.selects RX1 yX1_nextOfList yX1_nextOfList, Cond.code yX1_nextOfList cX1_nextOfList 1 (some .int), Cond.fieldLink RX1 12 "CatalogueHarvester$Harvest" "far" "LCatalogueHarvester$FarCatalogue;", Cond.methodLink RX1 67 yX1_firstStamp, Cond.methodLink RX1 70 yX0_nextListed, Cond.instanceMethod yX0_nextListed, Cond.selects RX0 yX0_nextListed yX0_nextListed, Cond.initialized RX0, Cond.code yX0_nextListed cX0_nextListed 10 (some .int), Cond.methodLink RX0 54 yX0_listedStamp, Cond.instanceMethod yX0_listedStamp, Cond.selects RX0 yX0_listedStamp yX0_listedStamp]
def wsL_isKnown_r4 : List Cond := [Cond.code yX0_listedStamp cX0_listedStamp 2 (some .int), Cond.fieldLink RX0 12 "CatalogueHarvester$FarCatalogue" "records" "LCatalogueHarvester$Records;", Cond.fieldLink RX0 48 "CatalogueHarvester$Records" "isThere" "[Z", Cond.fieldLink RX0 51 "CatalogueHarvester$Records" "stamps" "[I", Cond.fieldLink RX0 18 "CatalogueHarvester$FarCatalogue" "isTold" "[Z", Cond.fieldLink RX0 22 "CatalogueHarvester$FarCatalogue" "toldStamps" "[I", Cond.methodLink RX1 60 yX1_takeOver, Cond.instanceMethod yX1_takeOver, Cond.selects RX1 yX1_takeOver yX1_takeOver, Cond.code yX1_takeOver cX1_takeOver 3 none, Cond.fieldLink RX1 78 "CatalogueHarvester$FarCatalogue" "records" "LCatalogueHarvester$Records;", Cond.fieldLink RX1 81 "CatalogueHarvester$Records" "isThere" "[Z", Cond.fieldLink RX1 21 "CatalogueHarvester$Harvest" "store" "LCatalogueHarvester$Records;", Cond.fieldLink RX1 84 "CatalogueHarvester$Records" "works" "[I", Cond.fieldLink RX1 88 "CatalogueHarvester$Records" "values" "[I", Cond.fieldLink RX1 91 "CatalogueHarvester$Records" "stamps" "[I", Cond.methodLink RX1 74 yX0_listedStamp, Cond.methodLink RX1 94 yX2_keep, Cond.instanceMethod yX2_keep, Cond.selects RX2 yX2_keep yX2_keep, Cond.initialized RX2, Cond.code yX2_keep cX2_keep 5 none, Cond.fieldLink RX2 9 "CatalogueHarvester$Records" "isThere" "[Z", Cond.fieldLink RX2 15 "CatalogueHarvester$Records" "works" "[I"]
def wsL_isKnown_r5 : List Cond := [Cond.fieldLink RX2 19 "CatalogueHarvester$Records" "values" "[I", Cond.fieldLink RX2 22 "CatalogueHarvester$Records" "stamps" "[I", Cond.methodLink RX1 98 yX2_drop, Cond.instanceMethod yX2_drop, Cond.selects RX2 yX2_drop yX2_drop, Cond.code yX2_drop cX2_drop 2 none, Cond.methodLink RX1 64 yX1_finish, Cond.instanceMethod yX1_finish, Cond.selects RX1 yX1_finish yX1_finish, Cond.code yX1_finish cX1_finish 1 none, Cond.methodLink RX1 101 yX0_stampOfDay, Cond.instanceMethod yX0_stampOfDay, Cond.selects RX0 yX0_stampOfDay yX0_stampOfDay, Cond.code yX0_stampOfDay cX0_stampOfDay 2 (some .int), Cond.fieldLink RX0 29 "CatalogueHarvester$FarCatalogue" "unit" "I", Cond.methodLink RX1 104 yX1_dropWhatIsGone, Cond.instanceMethod yX1_dropWhatIsGone, Cond.selects RX1 yX1_dropWhatIsGone yX1_dropWhatIsGone, Cond.code yX1_dropWhatIsGone cX1_dropWhatIsGone 2 none, Cond.methodLink RL 67 yX3_today, Cond.instanceMethod yX3_today, Cond.selects RX3 yX3_today yX3_today, Cond.code yX3_today cX3_today 1 (some .int), Cond.methodLink RL 58 yX3_wrong]
def wsL_isKnown_r6 : List Cond := [Cond.instanceMethod yX3_wrong, Cond.selects RX3 yX3_wrong yX3_wrong, Cond.code yX3_wrong cX3_wrong 3 (some .int), Cond.fieldLink RX3 101 "CatalogueHarvester$Harvest" "store" "LCatalogueHarvester$Records;", Cond.fieldLink RX3 28 "CatalogueHarvester$Harvest" "far" "LCatalogueHarvester$FarCatalogue;", Cond.fieldLink RX3 51 "CatalogueHarvester$FarCatalogue" "records" "LCatalogueHarvester$Records;", Cond.methodLink RX3 108 yX2_countUnlike, Cond.instanceMethod yX2_countUnlike, Cond.selects RX2 yX2_countUnlike yX2_countUnlike, Cond.code yX2_countUnlike cX2_countUnlike 4 (some .int), Cond.methodLink RX2 25 yX2_isLike, Cond.instanceMethod yX2_isLike, Cond.selects RX2 yX2_isLike yX2_isLike, Cond.code yX2_isLike cX2_isLike 3 (some .boolean), Cond.methodLink RL 55 yX3_held, Cond.instanceMethod yX3_held, Cond.selects RX3 yX3_held yX3_held, Cond.code yX3_held cX3_held 2 (some .int), Cond.methodLink RX3 74 yX2_count, Cond.instanceMethod yX2_count, Cond.selects RX2 yX2_count yX2_count, Cond.code yX2_count cX2_count 3 (some .int), Cond.methodLink RL 27 yX3_far, Cond.instanceMethod yX3_far]
def wsL_isKnown_r7 : List Cond := [Cond.selects RX3 yX3_far yX3_far, Cond.code yX3_far cX3_far 2 (some .int)]
def wsL_isKnown : List Cond := .code yL_isKnown cL_isKnown 5 (some .boolean) :: ((wsL_isKnown_r1 ++ (wsL_isKnown_r2 ++ (wsL_isKnown_r3 ++ (wsL_isKnown_r4 ++ (wsL_isKnown_r5 ++ (wsL_isKnown_r6 ++ wsL_isKnown_r7)))))) ++ wsX10 ++ wsX30 ++ wsX00 ++ wsX20 ++ (vx_atS RX3 125 "java/lang/IllegalArgumentException" ["java/lang/RuntimeException", "java/lang/Exception"]).filter goodWord ++ (vx_atS RX3 65 "java/lang/IllegalStateException" ["java/lang/RuntimeException", "java/lang/Exception"]).filter goodWord)
def wsL_law0_r1 : List Cond := [Cond.classLink RL 10 RX3, Cond.instantiable RX3 2, Cond.initialized RX3, Cond.arrayClass .int, Cond.methodLink RL 103 yX3_init, Cond.instanceMethod yX3_init, Cond.code yX3_init cX3_init 2 none, Cond.methodLink RX3 1 objectInit, Cond.instanceMethod objectInit, Cond.code objectInit ⟨#[0xb1]⟩ 1 none, Cond.classLink RX3 9 RX1, Cond.fieldLink RX3 11 "CatalogueHarvester" "harvests" "[LCatalogueHarvester$Harvest;", Cond.instantiable RX1 10, Cond.initialized RX1, Cond.fieldLink RX3 16 "CatalogueHarvester" "today" "I", Cond.instanceMethod yX1_init, Cond.code yX1_init cX1_init 1 none, Cond.methodLink RX1 3 objectInit, Cond.classLink RX1 9 RX0, Cond.instantiable RX0 6, Cond.initialized RX0, Cond.fieldLink RX1 12 "CatalogueHarvester$Harvest" "far" "LCatalogueHarvester$FarCatalogue;", Cond.classLink RX1 18 RX2, Cond.instantiable RX2 4]
def wsL_law0_r2 : List Cond := [Cond.initialized RX2, Cond.fieldLink RX1 21 "CatalogueHarvester$Harvest" "store" "LCatalogueHarvester$Records;", Cond.fieldLink RX1 25 "CatalogueHarvester$Harvest" "mark" "I", Cond.fieldLink RX1 29 "CatalogueHarvester$Harvest" "hasOpenList" "Z", Cond.fieldLink RX1 33 "CatalogueHarvester$Harvest" "isFullList" "Z", Cond.fieldLink RX1 36 "CatalogueHarvester$Harvest" "openingDay" "I", Cond.fieldLink RX1 39 "CatalogueHarvester$Harvest" "tokenDay" "I", Cond.fieldLink RX1 42 "CatalogueHarvester$Harvest" "placeStamp" "I", Cond.fieldLink RX1 45 "CatalogueHarvester$Harvest" "placeRecord" "I", Cond.arrayClass .boolean, Cond.fieldLink RX1 48 "CatalogueHarvester$Harvest" "isTakenOver" "[Z", Cond.instanceMethod yX0_init, Cond.code yX0_init cX0_init 1 none, Cond.methodLink RX0 3 objectInit, Cond.classLink RX0 9 RX2, Cond.fieldLink RX0 12 "CatalogueHarvester$FarCatalogue" "records" "LCatalogueHarvester$Records;", Cond.fieldLink RX0 18 "CatalogueHarvester$FarCatalogue" "isTold" "[Z", Cond.fieldLink RX0 22 "CatalogueHarvester$FarCatalogue" "toldStamps" "[I", Cond.fieldLink RX0 26 "CatalogueHarvester$FarCatalogue" "removalDays" "[I", Cond.fieldLink RX0 29 "CatalogueHarvester$FarCatalogue" "unit" "I", Cond.fieldLink RX0 33 "CatalogueHarvester$FarCatalogue" "deletes" "I", Cond.instanceMethod yX2_init, Cond.code yX2_init cX2_init 1 none, Cond.methodLink RX2 3 objectInit]
def wsL_law0_r3 : List Cond := [Cond.fieldLink RX2 9 "CatalogueHarvester$Records" "isThere" "[Z", Cond.fieldLink RX2 15 "CatalogueHarvester$Records" "works" "[I", Cond.fieldLink RX2 19 "CatalogueHarvester$Records" "values" "[I", Cond.fieldLink RX2 22 "CatalogueHarvester$Records" "stamps" "[I", Cond.methodLink RL 104 yL_isRefused, Cond.static yL_isRefused, Cond.initialized RL, Cond.code yL_isRefused cL_isRefused 12 (some .boolean), Cond.methodLink RL 88 yL_all, Cond.static yL_all, Cond.code yL_all cL_all 4 (some .long), Cond.constantLong RL 71 (1000003), Cond.constantLong RL 73 (31), Cond.constantLong RL 75 (1009), Cond.constantLong RL 77 (65537), Cond.constantLong RL 79 (7), Cond.constantLong RL 81 (3), Cond.methodLink RL 67 yX3_today, Cond.instanceMethod yX3_today, Cond.selects RX3 yX3_today yX3_today, Cond.code yX3_today cX3_today 1 (some .int), Cond.methodLink RL 27 yX3_far, Cond.instanceMethod yX3_far, Cond.selects RX3 yX3_far yX3_far]
def wsL_law0_r4 : List Cond := [Cond.code yX3_far cX3_far 2 (some .int), Cond.fieldLink RX3 28 "CatalogueHarvester$Harvest" "far" "LCatalogueHarvester$FarCatalogue;", Cond.fieldLink RX3 51 "CatalogueHarvester$FarCatalogue" "records" "LCatalogueHarvester$Records;", Cond.methodLink RX3 20 yX3_harvestOf, Cond.instanceMethod yX3_harvestOf, Cond.selects RX3 yX3_harvestOf yX3_harvestOf, Cond.code yX3_harvestOf cX3_harvestOf 3 (some (.object "CatalogueHarvester$Harvest")), Cond.classLink RX3 121 "java/lang/IllegalArgumentException", Cond.initialized "java/lang/IllegalArgumentException", Cond.methodLink RX3 74 yX2_count, Cond.instanceMethod yX2_count, Cond.selects RX2 yX2_count yX2_count, Cond.code yX2_count cX2_count 3 (some .int), Cond.methodLink RL 30 yX3_told, Cond.instanceMethod yX3_told, Cond.selects RX3 yX3_told yX3_told, Cond.code yX3_told cX3_told 2 (some .int), Cond.methodLink RX3 78 yX0_countTold, Cond.instanceMethod yX0_countTold, Cond.selects RX0 yX0_countTold yX0_countTold, Cond.code yX0_countTold cX0_countTold 3 (some .int), Cond.methodLink RL 55 yX3_held, Cond.instanceMethod yX3_held, Cond.selects RX3 yX3_held yX3_held]
def wsL_law0_r5 : List Cond := [Cond.code yX3_held cX3_held 2 (some .int), Cond.fieldLink RX3 101 "CatalogueHarvester$Harvest" "store" "LCatalogueHarvester$Records;", Cond.methodLink RL 58 yX3_wrong, Cond.instanceMethod yX3_wrong, Cond.selects RX3 yX3_wrong yX3_wrong, Cond.code yX3_wrong cX3_wrong 3 (some .int), Cond.methodLink RX3 108 yX2_countUnlike, Cond.instanceMethod yX2_countUnlike, Cond.selects RX2 yX2_countUnlike yX2_countUnlike, Cond.code yX2_countUnlike cX2_countUnlike 4 (some .int), Cond.methodLink RX2 25 yX2_isLike, Cond.instanceMethod yX2_isLike, Cond.selects RX2 yX2_isLike yX2_isLike, Cond.code yX2_isLike cX2_isLike 3 (some .boolean), Cond.methodLink RL 48 yX3_mark, Cond.instanceMethod yX3_mark, Cond.selects RX3 yX3_mark yX3_mark, Cond.code yX3_mark cX3_mark 2 (some .int), Cond.fieldLink RX3 98 "CatalogueHarvester$Harvest" "mark" "I", Cond.methodLink RL 44 yX3_isOpen, Cond.instanceMethod yX3_isOpen, Cond.selects RX3 yX3_isOpen yX3_isOpen, Cond.code yX3_isOpen cX3_isOpen 2 (some .boolean), Cond.fieldLink RX3 88 "CatalogueHarvester$Harvest" "hasOpenList" "Z"]
def wsL_law0_r6 : List Cond := [Cond.methodLink RL 92 yL_far, Cond.static yL_far, Cond.codeWith yL_far cL_far 7 (some .int) [(0, 86, 87, 33), (0, 86, 93, 35)], Cond.classLink RL 33 "java/lang/IllegalArgumentException", Cond.classLink RL 35 "java/lang/IllegalStateException", Cond.methodLink RL 9 yX3_setCatalogue, Cond.instanceMethod yX3_setCatalogue, Cond.selects RX3 yX3_setCatalogue yX3_setCatalogue, Cond.code yX3_setCatalogue cX3_setCatalogue 6 (some .int), Cond.fieldLink RX3 32 "CatalogueHarvester$FarCatalogue" "unit" "I", Cond.fieldLink RX3 37 "CatalogueHarvester$FarCatalogue" "deletes" "I", Cond.methodLink RX3 24 yX3_refuseOutside, Cond.static yX3_refuseOutside, Cond.code yX3_refuseOutside cX3_refuseOutside 3 none, Cond.methodLink RX3 40 yX0_forgetToldDeletes, Cond.instanceMethod yX0_forgetToldDeletes, Cond.selects RX0 yX0_forgetToldDeletes yX0_forgetToldDeletes, Cond.code yX0_forgetToldDeletes cX0_forgetToldDeletes 4 none, Cond.methodLink RL 15 yX3_put, Cond.instanceMethod yX3_put, Cond.selects RX3 yX3_put yX3_put, Cond.code yX3_put cX3_put 6 (some .int), Cond.methodLink RX3 44 yX3_refuseRecord, Cond.static yX3_refuseRecord]
def wsL_law0_r7 : List Cond := [Cond.code yX3_refuseRecord cX3_refuseRecord 1 none, Cond.methodLink RX3 47 yX0_change, Cond.instanceMethod yX0_change, Cond.selects RX0 yX0_change yX0_change, Cond.code yX0_change cX0_change 6 (some .int), Cond.methodLink RX0 36 yX0_stampOfDay, Cond.instanceMethod yX0_stampOfDay, Cond.selects RX0 yX0_stampOfDay yX0_stampOfDay, Cond.code yX0_stampOfDay cX0_stampOfDay 2 (some .int), Cond.methodLink RX0 40 yX2_keep, Cond.instanceMethod yX2_keep, Cond.selects RX2 yX2_keep yX2_keep, Cond.code yX2_keep cX2_keep 5 none, Cond.methodLink RL 19 yX3_remove, Cond.instanceMethod yX3_remove, Cond.selects RX3 yX3_remove yX3_remove, Cond.code yX3_remove cX3_remove 4 (some .boolean), Cond.classLink RX3 61 "java/lang/IllegalStateException", Cond.initialized "java/lang/IllegalStateException", Cond.fieldLink RX3 55 "CatalogueHarvester$Records" "isThere" "[Z", Cond.methodLink RX3 68 yX0_delete, Cond.instanceMethod yX0_delete, Cond.selects RX0 yX0_delete yX0_delete, Cond.code yX0_delete cX0_delete 3 (some .boolean)]
def wsL_law0_r8 : List Cond := [Cond.methodLink RX0 44 yX2_drop, Cond.instanceMethod yX2_drop, Cond.selects RX2 yX2_drop yX2_drop, Cond.code yX2_drop cX2_drop 2 none, Cond.methodLink RL 23 yX3_pass, Cond.instanceMethod yX3_pass, Cond.selects RX3 yX3_pass yX3_pass, Cond.code yX3_pass cX3_pass 3 (some .int), Cond.methodLink RL 95 yL_near, Cond.static yL_near, Cond.codeWith yL_near cL_near 5 (some .int) [(0, 129, 130, 33), (0, 129, 136, 35)], Cond.methodLink RL 37 yX3_open, Cond.instanceMethod yX3_open, Cond.selects RX3 yX3_open yX3_open, Cond.code yX3_open cX3_open 4 (some .int), Cond.methodLink RX3 81 yX1_begin, Cond.instanceMethod yX1_begin, Cond.selects RX1 yX1_begin yX1_begin, Cond.code yX1_begin cX1_begin 4 none, Cond.methodLink RX3 85 yX1_firstStamp, Cond.instanceMethod yX1_firstStamp, Cond.selects RX1 yX1_firstStamp yX1_firstStamp, Cond.code yX1_firstStamp cX1_firstStamp 1 (some .int), Cond.methodLink RL 41 yX3_read]
def wsL_law0_r9 : List Cond := [Cond.instanceMethod yX3_read, Cond.selects RX3 yX3_read yX3_read, Cond.code yX3_read cX3_read 3 (some .int), Cond.methodLink RX3 94 yX1_takePage, Cond.instanceMethod yX1_takePage, Cond.selects RX1 yX1_takePage yX1_takePage, Cond.code yX1_takePage cX1_takePage 4 (some .int), Cond.methodLink RX1 52 yX1_begin, Cond.methodLink RX1 56 yX1_nextOfList, Cond.instanceMethod yX1_nextOfList, Cond.selects RX1 yX1_nextOfList yX1_nextOfList, Cond.code yX1_nextOfList cX1_nextOfList 1 (some .int), Cond.methodLink RX1 67 yX1_firstStamp, Cond.methodLink RX1 70 yX0_nextListed, Cond.instanceMethod yX0_nextListed, Cond.selects RX0 yX0_nextListed yX0_nextListed, Cond.code yX0_nextListed cX0_nextListed 10 (some .int), Cond.methodLink RX0 54 yX0_listedStamp, Cond.instanceMethod yX0_listedStamp, Cond.selects RX0 yX0_listedStamp yX0_listedStamp, Cond.code yX0_listedStamp cX0_listedStamp 2 (some .int), Cond.fieldLink RX0 48 "CatalogueHarvester$Records" "isThere" "[Z", Cond.fieldLink RX0 51 "CatalogueHarvester$Records" "stamps" "[I", Cond.methodLink RX1 60 yX1_takeOver]
def wsL_law0_r10 : List Cond := [Cond.instanceMethod yX1_takeOver, Cond.selects RX1 yX1_takeOver yX1_takeOver, Cond.code yX1_takeOver cX1_takeOver 3 none, Cond.fieldLink RX1 78 "CatalogueHarvester$FarCatalogue" "records" "LCatalogueHarvester$Records;", Cond.fieldLink RX1 81 "CatalogueHarvester$Records" "isThere" "[Z", Cond.fieldLink RX1 84 "CatalogueHarvester$Records" "works" "[I", Cond.fieldLink RX1 88 "CatalogueHarvester$Records" "values" "[I", Cond.fieldLink RX1 91 "CatalogueHarvester$Records" "stamps" "[I", Cond.methodLink RX1 74 yX0_listedStamp, Cond.methodLink RX1 94 yX2_keep, Cond.methodLink RX1 98 yX2_drop, Cond.methodLink RX1 64 yX1_finish, Cond.instanceMethod yX1_finish, Cond.selects RX1 yX1_finish yX1_finish, Cond.code yX1_finish cX1_finish 1 none, Cond.methodLink RX1 101 yX0_stampOfDay, Cond.methodLink RX1 104 yX1_dropWhatIsGone, Cond.instanceMethod yX1_dropWhatIsGone, Cond.selects RX1 yX1_dropWhatIsGone yX1_dropWhatIsGone, Cond.code yX1_dropWhatIsGone cX1_dropWhatIsGone 2 none, Cond.methodLink RL 51 yX3_stored, Cond.instanceMethod yX3_stored, Cond.selects RX3 yX3_stored yX3_stored, Cond.code yX3_stored cX3_stored 4 (some .int)]
def wsL_law0_r11 : List Cond := [Cond.fieldLink RX3 104 "CatalogueHarvester$Records" "values" "[I", Cond.methodLink RL 61 yX3_copies, Cond.instanceMethod yX3_copies, Cond.selects RX3 yX3_copies yX3_copies, Cond.code yX3_copies cX3_copies 4 (some .int), Cond.methodLink RX3 112 yX2_countOfWork, Cond.instanceMethod yX2_countOfWork, Cond.selects RX2 yX2_countOfWork yX2_countOfWork, Cond.code yX2_countOfWork cX2_countOfWork 4 (some .int), Cond.methodLink RL 64 yX3_best, Cond.instanceMethod yX3_best, Cond.selects RX3 yX3_best yX3_best, Cond.code yX3_best cX3_best 7 (some .int), Cond.fieldLink RX3 118 "CatalogueHarvester$Records" "stamps" "[I", Cond.methodLink RX3 115 yX2_latestOfWork, Cond.instanceMethod yX2_latestOfWork, Cond.selects RX2 yX2_latestOfWork yX2_latestOfWork, Cond.code yX2_latestOfWork cX2_latestOfWork 5 (some .int), Cond.methodLink RL 108 yL_dice, Cond.static yL_dice, Cond.code yL_dice cL_dice 2 (some .int), Cond.constant RL 7 (1955562222), Cond.constant RL 8 (2147483647), Cond.methodLink RL 112 yL_clear]
def wsL_law0_r12 : List Cond := [Cond.static yL_clear, Cond.code yL_clear cL_clear 7 none, Cond.methodLink RL 116 yL_isPut, Cond.static yL_isPut, Cond.code yL_isPut cL_isPut 9 (some .boolean), Cond.methodLink RL 120 yL_isRemoved, Cond.static yL_isRemoved, Cond.code yL_isRemoved cL_isRemoved 8 (some .boolean), Cond.methodLink RL 99 yL_isRound, Cond.static yL_isRound, Cond.code yL_isRound cL_isRound 11 (some .boolean), Cond.methodLink RL 83 yL_stampOf, Cond.static yL_stampOf, Cond.code yL_stampOf cL_stampOf 1 (some .int), Cond.methodLink RL 124 yL_isPage, Cond.static yL_isPage, Cond.code yL_isPage cL_isPage 16 (some .boolean), Cond.methodLink RL 128 yL_isKnown, Cond.static yL_isKnown, Cond.code yL_isKnown cL_isKnown 5 (some .boolean), Cond.methodLink RL 131 yL_areAll, Cond.static yL_areAll, Cond.code yL_areAll cL_areAll 12 (some .boolean)]
def wsL_law0 : List Cond := (wsL_law0_r1 ++ (wsL_law0_r2 ++ (wsL_law0_r3 ++ (wsL_law0_r4 ++ (wsL_law0_r5 ++ (wsL_law0_r6 ++ (wsL_law0_r7 ++ (wsL_law0_r8 ++ (wsL_law0_r9 ++ (wsL_law0_r10 ++ (wsL_law0_r11 ++ wsL_law0_r12))))))))))) ++ wsX30 ++ wsX10 ++ wsX00 ++ wsX20 ++ ([] : List Cond)
def wsL_law : List Cond := wsL_law0 ++ (vx_atS RX3 125 "java/lang/IllegalArgumentException" ["java/lang/RuntimeException", "java/lang/Exception"]).filter goodWord ++ (vx_atS RX3 65 "java/lang/IllegalStateException" ["java/lang/RuntimeException", "java/lang/Exception"]).filter goodWord
set_option maxRecDepth 20000 in
theorem ggX0_init_X2_init : GoodIn wsX0_init wsX2_init := goodIn_r _ [16, 17, 2, 3, 8, 18, 10, 19, 20, 21, 22, 23, 24, 25] (by decide +kernel) (by decide +kernel)
set_option maxRecDepth 20000 in
theorem gX0_init_X2_init_n11 : GoodIn wsX0_init (wsX2_init) := ggX0_init_X2_init
theorem dX0_init_0 : decode cX0_init 0 = .ok (.aload_n 0, 1) := by decide +kernel
theorem dX0_init_1 : decode cX0_init 1 = .ok (.invokespecial 3, 3) := by decide +kernel
theorem dX0_init_4 : decode cX0_init 4 = .ok (.aload_n 0, 1) := by decide +kernel
theorem dX0_init_5 : decode cX0_init 5 = .ok (.new 9, 3) := by decide +kernel
theorem dX0_init_8 : decode cX0_init 8 = .ok (.dup, 1) := by decide +kernel
theorem dX0_init_9 : decode cX0_init 9 = .ok (.invokespecial 11, 3) := by decide +kernel
theorem dX0_init_12 : decode cX0_init 12 = .ok (.putfield 12, 3) := by decide +kernel
theorem dX0_init_15 : decode cX0_init 15 = .ok (.aload_n 0, 1) := by decide +kernel
theorem dX0_init_16 : decode cX0_init 16 = .ok (.bipush 20, 2) := by decide +kernel
theorem dX0_init_18 : decode cX0_init 18 = .ok (.newarray .boolean, 2) := by decide +kernel
theorem dX0_init_20 : decode cX0_init 20 = .ok (.putfield 18, 3) := by decide +kernel
theorem dX0_init_23 : decode cX0_init 23 = .ok (.aload_n 0, 1) := by decide +kernel
theorem dX0_init_24 : decode cX0_init 24 = .ok (.bipush 20, 2) := by decide +kernel
theorem dX0_init_26 : decode cX0_init 26 = .ok (.newarray .int, 2) := by decide +kernel
theorem dX0_init_28 : decode cX0_init 28 = .ok (.putfield 22, 3) := by decide +kernel
theorem dX0_init_31 : decode cX0_init 31 = .ok (.aload_n 0, 1) := by decide +kernel
theorem dX0_init_32 : decode cX0_init 32 = .ok (.bipush 20, 2) := by decide +kernel
theorem dX0_init_34 : decode cX0_init 34 = .ok (.newarray .int, 2) := by decide +kernel
theorem dX0_init_36 : decode cX0_init 36 = .ok (.putfield 26, 3) := by decide +kernel
theorem dX0_init_39 : decode cX0_init 39 = .ok (.aload_n 0, 1) := by decide +kernel
theorem dX0_init_40 : decode cX0_init 40 = .ok (.iconst 1, 1) := by decide +kernel
theorem dX0_init_41 : decode cX0_init 41 = .ok (.putfield 29, 3) := by decide +kernel
theorem dX0_init_44 : decode cX0_init 44 = .ok (.aload_n 0, 1) := by decide +kernel
theorem dX0_init_45 : decode cX0_init 45 = .ok (.iconst 0, 1) := by decide +kernel
theorem dX0_init_46 : decode cX0_init 46 = .ok (.putfield 33, 3) := by decide +kernel
theorem dX0_init_49 : decode cX0_init 49 = .ok (.return_, 1) := by decide +kernel
theorem dX0_stampOfDay_0 : decode cX0_stampOfDay 0 = .ok (.aload_n 0, 1) := by decide +kernel
theorem dX0_stampOfDay_1 : decode cX0_stampOfDay 1 = .ok (.getfield 29, 3) := by decide +kernel
theorem dX0_stampOfDay_4 : decode cX0_stampOfDay 4 = .ok (.iconst 1, 1) := by decide +kernel
theorem dX0_stampOfDay_5 : decode cX0_stampOfDay 5 = .ok (.if_icmp .le 14, 3) := by decide +kernel
theorem dX0_stampOfDay_8 : decode cX0_stampOfDay 8 = .ok (.iload_n 1, 1) := by decide +kernel
theorem dX0_stampOfDay_9 : decode cX0_stampOfDay 9 = .ok (.iload_n 1, 1) := by decide +kernel
theorem dX0_stampOfDay_10 : decode cX0_stampOfDay 10 = .ok (.aload_n 0, 1) := by decide +kernel
theorem dX0_stampOfDay_11 : decode cX0_stampOfDay 11 = .ok (.getfield 29, 3) := by decide +kernel
theorem dX0_stampOfDay_14 : decode cX0_stampOfDay 14 = .ok (.irem, 1) := by decide +kernel
theorem dX0_stampOfDay_15 : decode cX0_stampOfDay 15 = .ok (.isub, 1) := by decide +kernel
theorem dX0_stampOfDay_16 : decode cX0_stampOfDay 16 = .ok (.goto 4, 3) := by decide +kernel
theorem dX0_stampOfDay_19 : decode cX0_stampOfDay 19 = .ok (.iload_n 1, 1) := by decide +kernel
theorem dX0_stampOfDay_20 : decode cX0_stampOfDay 20 = .ok (.ireturn, 1) := by decide +kernel
set_option maxRecDepth 20000 in
theorem ggX0_change_X0_stampOfDay : GoodIn wsX0_change wsX0_stampOfDay := goodIn_r _ [7, 8, 18, 19, 20, 21, 22, 23] (by decide +kernel) (by decide +kernel)
set_option maxRecDepth 20000 in
theorem gX0_change_X0_stampOfDay : GoodIn wsX0_change (wsV RX0 36 RX0 yX0_stampOfDay wsX0_stampOfDay) := goodIn_app (goodIn_of _ (by decide +kernel)) ggX0_change_X0_stampOfDay
set_option maxRecDepth 20000 in
theorem ggX0_change_X2_keep : GoodIn wsX0_change wsX2_keep := goodIn_r _ [13, 14, 15, 16, 17, 24, 25, 26, 27] (by decide +kernel) (by decide +kernel)
set_option maxRecDepth 20000 in
theorem gX0_change_X2_keep : GoodIn wsX0_change (wsV RX0 40 RX2 yX2_keep wsX2_keep) := goodIn_app (goodIn_of _ (by decide +kernel)) ggX0_change_X2_keep
theorem dX0_change_0 : decode cX0_change 0 = .ok (.aload_n 0, 1) := by decide +kernel
theorem dX0_change_1 : decode cX0_change 1 = .ok (.iload 4, 2) := by decide +kernel
theorem dX0_change_3 : decode cX0_change 3 = .ok (.invokevirtual 36, 3) := by decide +kernel
theorem dX0_change_6 : decode cX0_change 6 = .ok (.istore 5, 2) := by decide +kernel
theorem dX0_change_8 : decode cX0_change 8 = .ok (.aload_n 0, 1) := by decide +kernel
theorem dX0_change_9 : decode cX0_change 9 = .ok (.getfield 12, 3) := by decide +kernel
theorem dX0_change_12 : decode cX0_change 12 = .ok (.iload_n 1, 1) := by decide +kernel
theorem dX0_change_13 : decode cX0_change 13 = .ok (.iload_n 2, 1) := by decide +kernel
theorem dX0_change_14 : decode cX0_change 14 = .ok (.iload_n 3, 1) := by decide +kernel
theorem dX0_change_15 : decode cX0_change 15 = .ok (.iload 5, 2) := by decide +kernel
theorem dX0_change_17 : decode cX0_change 17 = .ok (.invokevirtual 40, 3) := by decide +kernel
theorem dX0_change_20 : decode cX0_change 20 = .ok (.aload_n 0, 1) := by decide +kernel
theorem dX0_change_21 : decode cX0_change 21 = .ok (.getfield 18, 3) := by decide +kernel
theorem dX0_change_24 : decode cX0_change 24 = .ok (.iload_n 1, 1) := by decide +kernel
theorem dX0_change_25 : decode cX0_change 25 = .ok (.iconst 0, 1) := by decide +kernel
theorem dX0_change_26 : decode cX0_change 26 = .ok (.bastore, 1) := by decide +kernel
theorem dX0_change_27 : decode cX0_change 27 = .ok (.iload 5, 2) := by decide +kernel
theorem dX0_change_29 : decode cX0_change 29 = .ok (.ireturn, 1) := by decide +kernel
set_option maxRecDepth 20000 in
theorem ggX0_delete_X2_drop : GoodIn wsX0_delete wsX2_drop := goodIn_r _ [10, 11, 24, 25, 26, 27] (by decide +kernel) (by decide +kernel)
set_option maxRecDepth 20000 in
theorem gX0_delete_X2_drop : GoodIn wsX0_delete (wsV RX0 44 RX2 yX2_drop wsX2_drop) := goodIn_app (goodIn_of _ (by decide +kernel)) ggX0_delete_X2_drop
set_option maxRecDepth 20000 in
theorem ggX0_delete_X0_stampOfDay : GoodIn wsX0_delete wsX0_stampOfDay := goodIn_r _ [16, 17, 18, 19, 20, 21, 22, 23] (by decide +kernel) (by decide +kernel)
set_option maxRecDepth 20000 in
theorem gX0_delete_X0_stampOfDay : GoodIn wsX0_delete (wsV RX0 36 RX0 yX0_stampOfDay wsX0_stampOfDay) := goodIn_app (goodIn_of _ (by decide +kernel)) ggX0_delete_X0_stampOfDay
theorem dX0_delete_0 : decode cX0_delete 0 = .ok (.aload_n 0, 1) := by decide +kernel
theorem dX0_delete_1 : decode cX0_delete 1 = .ok (.getfield 12, 3) := by decide +kernel
theorem dX0_delete_4 : decode cX0_delete 4 = .ok (.iload_n 1, 1) := by decide +kernel
theorem dX0_delete_5 : decode cX0_delete 5 = .ok (.invokevirtual 44, 3) := by decide +kernel
theorem dX0_delete_8 : decode cX0_delete 8 = .ok (.aload_n 0, 1) := by decide +kernel
theorem dX0_delete_9 : decode cX0_delete 9 = .ok (.getfield 18, 3) := by decide +kernel
theorem dX0_delete_12 : decode cX0_delete 12 = .ok (.iload_n 1, 1) := by decide +kernel
theorem dX0_delete_13 : decode cX0_delete 13 = .ok (.aload_n 0, 1) := by decide +kernel
theorem dX0_delete_14 : decode cX0_delete 14 = .ok (.getfield 33, 3) := by decide +kernel
theorem dX0_delete_17 : decode cX0_delete 17 = .ok (.iconst 2, 1) := by decide +kernel
theorem dX0_delete_18 : decode cX0_delete 18 = .ok (.if_icmp .eq 7, 3) := by decide +kernel
theorem dX0_delete_21 : decode cX0_delete 21 = .ok (.iconst 1, 1) := by decide +kernel
theorem dX0_delete_22 : decode cX0_delete 22 = .ok (.goto 4, 3) := by decide +kernel
theorem dX0_delete_25 : decode cX0_delete 25 = .ok (.iconst 0, 1) := by decide +kernel
theorem dX0_delete_26 : decode cX0_delete 26 = .ok (.bastore, 1) := by decide +kernel
theorem dX0_delete_27 : decode cX0_delete 27 = .ok (.aload_n 0, 1) := by decide +kernel
theorem dX0_delete_28 : decode cX0_delete 28 = .ok (.getfield 22, 3) := by decide +kernel
theorem dX0_delete_31 : decode cX0_delete 31 = .ok (.iload_n 1, 1) := by decide +kernel
theorem dX0_delete_32 : decode cX0_delete 32 = .ok (.aload_n 0, 1) := by decide +kernel
theorem dX0_delete_33 : decode cX0_delete 33 = .ok (.iload_n 2, 1) := by decide +kernel
theorem dX0_delete_34 : decode cX0_delete 34 = .ok (.invokevirtual 36, 3) := by decide +kernel
theorem dX0_delete_37 : decode cX0_delete 37 = .ok (.iastore, 1) := by decide +kernel
theorem dX0_delete_38 : decode cX0_delete 38 = .ok (.aload_n 0, 1) := by decide +kernel
theorem dX0_delete_39 : decode cX0_delete 39 = .ok (.getfield 26, 3) := by decide +kernel
theorem dX0_delete_42 : decode cX0_delete 42 = .ok (.iload_n 1, 1) := by decide +kernel
theorem dX0_delete_43 : decode cX0_delete 43 = .ok (.iload_n 2, 1) := by decide +kernel
theorem dX0_delete_44 : decode cX0_delete 44 = .ok (.iastore, 1) := by decide +kernel
theorem dX0_delete_45 : decode cX0_delete 45 = .ok (.aload_n 0, 1) := by decide +kernel
theorem dX0_delete_46 : decode cX0_delete 46 = .ok (.getfield 18, 3) := by decide +kernel
theorem dX0_delete_49 : decode cX0_delete 49 = .ok (.iload_n 1, 1) := by decide +kernel
theorem dX0_delete_50 : decode cX0_delete 50 = .ok (.baload, 1) := by decide +kernel
theorem dX0_delete_51 : decode cX0_delete 51 = .ok (.ireturn, 1) := by decide +kernel
theorem dX0_forgetToldDeletes_0 : decode cX0_forgetToldDeletes 0 = .ok (.iconst 0, 1) := by decide +kernel
theorem dX0_forgetToldDeletes_1 : decode cX0_forgetToldDeletes 1 = .ok (.istore_n 2, 1) := by decide +kernel
theorem dX0_forgetToldDeletes_2 : decode cX0_forgetToldDeletes 2 = .ok (.iload_n 2, 1) := by decide +kernel
theorem dX0_forgetToldDeletes_3 : decode cX0_forgetToldDeletes 3 = .ok (.bipush 20, 2) := by decide +kernel
theorem dX0_forgetToldDeletes_5 : decode cX0_forgetToldDeletes 5 = .ok (.if_icmp .ge 55, 3) := by decide +kernel
theorem dX0_forgetToldDeletes_8 : decode cX0_forgetToldDeletes 8 = .ok (.iload_n 1, 1) := by decide +kernel
theorem dX0_forgetToldDeletes_9 : decode cX0_forgetToldDeletes 9 = .ok (.aload_n 0, 1) := by decide +kernel
theorem dX0_forgetToldDeletes_10 : decode cX0_forgetToldDeletes 10 = .ok (.getfield 26, 3) := by decide +kernel
theorem dX0_forgetToldDeletes_13 : decode cX0_forgetToldDeletes 13 = .ok (.iload_n 2, 1) := by decide +kernel
theorem dX0_forgetToldDeletes_14 : decode cX0_forgetToldDeletes 14 = .ok (.iaload, 1) := by decide +kernel
theorem dX0_forgetToldDeletes_15 : decode cX0_forgetToldDeletes 15 = .ok (.isub, 1) := by decide +kernel
theorem dX0_forgetToldDeletes_16 : decode cX0_forgetToldDeletes 16 = .ok (.bipush 10, 2) := by decide +kernel
theorem dX0_forgetToldDeletes_18 : decode cX0_forgetToldDeletes 18 = .ok (.if_icmp .lt 7, 3) := by decide +kernel
theorem dX0_forgetToldDeletes_21 : decode cX0_forgetToldDeletes 21 = .ok (.iconst 1, 1) := by decide +kernel
theorem dX0_forgetToldDeletes_22 : decode cX0_forgetToldDeletes 22 = .ok (.goto 4, 3) := by decide +kernel
theorem dX0_forgetToldDeletes_25 : decode cX0_forgetToldDeletes 25 = .ok (.iconst 0, 1) := by decide +kernel
theorem dX0_forgetToldDeletes_26 : decode cX0_forgetToldDeletes 26 = .ok (.istore_n 3, 1) := by decide +kernel
theorem dX0_forgetToldDeletes_27 : decode cX0_forgetToldDeletes 27 = .ok (.aload_n 0, 1) := by decide +kernel
theorem dX0_forgetToldDeletes_28 : decode cX0_forgetToldDeletes 28 = .ok (.getfield 33, 3) := by decide +kernel
theorem dX0_forgetToldDeletes_31 : decode cX0_forgetToldDeletes 31 = .ok (.iconst 2, 1) := by decide +kernel
theorem dX0_forgetToldDeletes_32 : decode cX0_forgetToldDeletes 32 = .ok (.if_icmp .eq 15, 3) := by decide +kernel
theorem dX0_forgetToldDeletes_35 : decode cX0_forgetToldDeletes 35 = .ok (.aload_n 0, 1) := by decide +kernel
theorem dX0_forgetToldDeletes_36 : decode cX0_forgetToldDeletes 36 = .ok (.getfield 33, 3) := by decide +kernel
theorem dX0_forgetToldDeletes_39 : decode cX0_forgetToldDeletes 39 = .ok (.iconst 1, 1) := by decide +kernel
theorem dX0_forgetToldDeletes_40 : decode cX0_forgetToldDeletes 40 = .ok (.if_icmp .ne 14, 3) := by decide +kernel
theorem dX0_forgetToldDeletes_43 : decode cX0_forgetToldDeletes 43 = .ok (.iload_n 3, 1) := by decide +kernel
theorem dX0_forgetToldDeletes_44 : decode cX0_forgetToldDeletes 44 = .ok (.ifCond .eq 10, 3) := by decide +kernel
theorem dX0_forgetToldDeletes_47 : decode cX0_forgetToldDeletes 47 = .ok (.aload_n 0, 1) := by decide +kernel
theorem dX0_forgetToldDeletes_48 : decode cX0_forgetToldDeletes 48 = .ok (.getfield 18, 3) := by decide +kernel
theorem dX0_forgetToldDeletes_51 : decode cX0_forgetToldDeletes 51 = .ok (.iload_n 2, 1) := by decide +kernel
theorem dX0_forgetToldDeletes_52 : decode cX0_forgetToldDeletes 52 = .ok (.iconst 0, 1) := by decide +kernel
theorem dX0_forgetToldDeletes_53 : decode cX0_forgetToldDeletes 53 = .ok (.bastore, 1) := by decide +kernel
theorem dX0_forgetToldDeletes_54 : decode cX0_forgetToldDeletes 54 = .ok (.iinc 2 1, 3) := by decide +kernel
theorem dX0_forgetToldDeletes_57 : decode cX0_forgetToldDeletes 57 = .ok (.goto (-55), 3) := by decide +kernel
theorem dX0_forgetToldDeletes_60 : decode cX0_forgetToldDeletes 60 = .ok (.return_, 1) := by decide +kernel
theorem dX0_countTold_0 : decode cX0_countTold 0 = .ok (.iconst 0, 1) := by decide +kernel
theorem dX0_countTold_1 : decode cX0_countTold 1 = .ok (.istore_n 1, 1) := by decide +kernel
theorem dX0_countTold_2 : decode cX0_countTold 2 = .ok (.iconst 0, 1) := by decide +kernel
theorem dX0_countTold_3 : decode cX0_countTold 3 = .ok (.istore_n 2, 1) := by decide +kernel
theorem dX0_countTold_4 : decode cX0_countTold 4 = .ok (.iload_n 2, 1) := by decide +kernel
theorem dX0_countTold_5 : decode cX0_countTold 5 = .ok (.bipush 20, 2) := by decide +kernel
theorem dX0_countTold_7 : decode cX0_countTold 7 = .ok (.if_icmp .ge 21, 3) := by decide +kernel
theorem dX0_countTold_10 : decode cX0_countTold 10 = .ok (.aload_n 0, 1) := by decide +kernel
theorem dX0_countTold_11 : decode cX0_countTold 11 = .ok (.getfield 18, 3) := by decide +kernel
theorem dX0_countTold_14 : decode cX0_countTold 14 = .ok (.iload_n 2, 1) := by decide +kernel
theorem dX0_countTold_15 : decode cX0_countTold 15 = .ok (.baload, 1) := by decide +kernel
theorem dX0_countTold_16 : decode cX0_countTold 16 = .ok (.ifCond .eq 6, 3) := by decide +kernel
theorem dX0_countTold_19 : decode cX0_countTold 19 = .ok (.iinc 1 1, 3) := by decide +kernel
theorem dX0_countTold_22 : decode cX0_countTold 22 = .ok (.iinc 2 1, 3) := by decide +kernel
theorem dX0_countTold_25 : decode cX0_countTold 25 = .ok (.goto (-21), 3) := by decide +kernel
theorem dX0_countTold_28 : decode cX0_countTold 28 = .ok (.iload_n 1, 1) := by decide +kernel
theorem dX0_countTold_29 : decode cX0_countTold 29 = .ok (.ireturn, 1) := by decide +kernel
theorem dX0_listedStamp_0 : decode cX0_listedStamp 0 = .ok (.aload_n 0, 1) := by decide +kernel
theorem dX0_listedStamp_1 : decode cX0_listedStamp 1 = .ok (.getfield 12, 3) := by decide +kernel
theorem dX0_listedStamp_4 : decode cX0_listedStamp 4 = .ok (.getfield 48, 3) := by decide +kernel
theorem dX0_listedStamp_7 : decode cX0_listedStamp 7 = .ok (.iload_n 1, 1) := by decide +kernel
theorem dX0_listedStamp_8 : decode cX0_listedStamp 8 = .ok (.baload, 1) := by decide +kernel
theorem dX0_listedStamp_9 : decode cX0_listedStamp 9 = .ok (.ifCond .eq 13, 3) := by decide +kernel
theorem dX0_listedStamp_12 : decode cX0_listedStamp 12 = .ok (.aload_n 0, 1) := by decide +kernel
theorem dX0_listedStamp_13 : decode cX0_listedStamp 13 = .ok (.getfield 12, 3) := by decide +kernel
theorem dX0_listedStamp_16 : decode cX0_listedStamp 16 = .ok (.getfield 51, 3) := by decide +kernel
theorem dX0_listedStamp_19 : decode cX0_listedStamp 19 = .ok (.iload_n 1, 1) := by decide +kernel
theorem dX0_listedStamp_20 : decode cX0_listedStamp 20 = .ok (.iaload, 1) := by decide +kernel
theorem dX0_listedStamp_21 : decode cX0_listedStamp 21 = .ok (.ireturn, 1) := by decide +kernel
theorem dX0_listedStamp_22 : decode cX0_listedStamp 22 = .ok (.aload_n 0, 1) := by decide +kernel
theorem dX0_listedStamp_23 : decode cX0_listedStamp 23 = .ok (.getfield 18, 3) := by decide +kernel
theorem dX0_listedStamp_26 : decode cX0_listedStamp 26 = .ok (.iload_n 1, 1) := by decide +kernel
theorem dX0_listedStamp_27 : decode cX0_listedStamp 27 = .ok (.baload, 1) := by decide +kernel
theorem dX0_listedStamp_28 : decode cX0_listedStamp 28 = .ok (.ifCond .eq 12, 3) := by decide +kernel
theorem dX0_listedStamp_31 : decode cX0_listedStamp 31 = .ok (.aload_n 0, 1) := by decide +kernel
theorem dX0_listedStamp_32 : decode cX0_listedStamp 32 = .ok (.getfield 22, 3) := by decide +kernel
theorem dX0_listedStamp_35 : decode cX0_listedStamp 35 = .ok (.iload_n 1, 1) := by decide +kernel
theorem dX0_listedStamp_36 : decode cX0_listedStamp 36 = .ok (.iaload, 1) := by decide +kernel
theorem dX0_listedStamp_37 : decode cX0_listedStamp 37 = .ok (.goto 4, 3) := by decide +kernel
theorem dX0_listedStamp_40 : decode cX0_listedStamp 40 = .ok (.iconst (-1), 1) := by decide +kernel
theorem dX0_listedStamp_41 : decode cX0_listedStamp 41 = .ok (.ireturn, 1) := by decide +kernel
set_option maxRecDepth 20000 in
theorem ggX0_nextListed_X0_listedStamp : GoodIn wsX0_nextListed wsX0_listedStamp := goodIn_r _ [5, 6, 7, 8, 9, 10, 11, 12, 13, 14, 15, 16, 17, 18, 19, 20] (by decide +kernel) (by decide +kernel)
set_option maxRecDepth 20000 in
theorem gX0_nextListed_X0_listedStamp : GoodIn wsX0_nextListed (wsV RX0 54 RX0 yX0_listedStamp wsX0_listedStamp) := goodIn_app (goodIn_of _ (by decide +kernel)) ggX0_nextListed_X0_listedStamp
theorem dX0_nextListed_0 : decode cX0_nextListed 0 = .ok (.iconst (-1), 1) := by decide +kernel
theorem dX0_nextListed_1 : decode cX0_nextListed 1 = .ok (.istore 4, 2) := by decide +kernel
theorem dX0_nextListed_3 : decode cX0_nextListed 3 = .ok (.iconst (-1), 1) := by decide +kernel
theorem dX0_nextListed_4 : decode cX0_nextListed 4 = .ok (.istore 5, 2) := by decide +kernel
theorem dX0_nextListed_6 : decode cX0_nextListed 6 = .ok (.iconst 0, 1) := by decide +kernel
theorem dX0_nextListed_7 : decode cX0_nextListed 7 = .ok (.istore 6, 2) := by decide +kernel
theorem dX0_nextListed_9 : decode cX0_nextListed 9 = .ok (.iload 6, 2) := by decide +kernel
theorem dX0_nextListed_11 : decode cX0_nextListed 11 = .ok (.bipush 20, 2) := by decide +kernel
theorem dX0_nextListed_13 : decode cX0_nextListed 13 = .ok (.if_icmp .ge 92, 3) := by decide +kernel
theorem dX0_nextListed_16 : decode cX0_nextListed 16 = .ok (.aload_n 0, 1) := by decide +kernel
theorem dX0_nextListed_17 : decode cX0_nextListed 17 = .ok (.iload 6, 2) := by decide +kernel
theorem dX0_nextListed_19 : decode cX0_nextListed 19 = .ok (.invokevirtual 54, 3) := by decide +kernel
theorem dX0_nextListed_22 : decode cX0_nextListed 22 = .ok (.istore 7, 2) := by decide +kernel
theorem dX0_nextListed_24 : decode cX0_nextListed 24 = .ok (.iload 7, 2) := by decide +kernel
theorem dX0_nextListed_26 : decode cX0_nextListed 26 = .ok (.iload_n 2, 1) := by decide +kernel
theorem dX0_nextListed_27 : decode cX0_nextListed 27 = .ok (.if_icmp .gt 15, 3) := by decide +kernel
theorem dX0_nextListed_30 : decode cX0_nextListed 30 = .ok (.iload 7, 2) := by decide +kernel
theorem dX0_nextListed_32 : decode cX0_nextListed 32 = .ok (.iload_n 2, 1) := by decide +kernel
theorem dX0_nextListed_33 : decode cX0_nextListed 33 = .ok (.if_icmp .ne 13, 3) := by decide +kernel
theorem dX0_nextListed_36 : decode cX0_nextListed 36 = .ok (.iload 6, 2) := by decide +kernel
theorem dX0_nextListed_38 : decode cX0_nextListed 38 = .ok (.iload_n 3, 1) := by decide +kernel
theorem dX0_nextListed_39 : decode cX0_nextListed 39 = .ok (.if_icmp .le 7, 3) := by decide +kernel
theorem dX0_nextListed_42 : decode cX0_nextListed 42 = .ok (.iconst 1, 1) := by decide +kernel
theorem dX0_nextListed_43 : decode cX0_nextListed 43 = .ok (.goto 4, 3) := by decide +kernel
theorem dX0_nextListed_46 : decode cX0_nextListed 46 = .ok (.iconst 0, 1) := by decide +kernel
theorem dX0_nextListed_47 : decode cX0_nextListed 47 = .ok (.istore 8, 2) := by decide +kernel
theorem dX0_nextListed_49 : decode cX0_nextListed 49 = .ok (.iload 4, 2) := by decide +kernel
theorem dX0_nextListed_51 : decode cX0_nextListed 51 = .ok (.iconst (-1), 1) := by decide +kernel
theorem dX0_nextListed_52 : decode cX0_nextListed 52 = .ok (.if_icmp .eq 10, 3) := by decide +kernel
theorem dX0_nextListed_55 : decode cX0_nextListed 55 = .ok (.iload 7, 2) := by decide +kernel
theorem dX0_nextListed_57 : decode cX0_nextListed 57 = .ok (.iload 5, 2) := by decide +kernel
theorem dX0_nextListed_59 : decode cX0_nextListed 59 = .ok (.if_icmp .ge 7, 3) := by decide +kernel
theorem dX0_nextListed_62 : decode cX0_nextListed 62 = .ok (.iconst 1, 1) := by decide +kernel
theorem dX0_nextListed_63 : decode cX0_nextListed 63 = .ok (.goto 4, 3) := by decide +kernel
theorem dX0_nextListed_66 : decode cX0_nextListed 66 = .ok (.iconst 0, 1) := by decide +kernel
theorem dX0_nextListed_67 : decode cX0_nextListed 67 = .ok (.istore 9, 2) := by decide +kernel
theorem dX0_nextListed_69 : decode cX0_nextListed 69 = .ok (.iload 7, 2) := by decide +kernel
theorem dX0_nextListed_71 : decode cX0_nextListed 71 = .ok (.iconst (-1), 1) := by decide +kernel
theorem dX0_nextListed_72 : decode cX0_nextListed 72 = .ok (.if_icmp .eq 27, 3) := by decide +kernel
theorem dX0_nextListed_75 : decode cX0_nextListed 75 = .ok (.iload 7, 2) := by decide +kernel
theorem dX0_nextListed_77 : decode cX0_nextListed 77 = .ok (.iload_n 1, 1) := by decide +kernel
theorem dX0_nextListed_78 : decode cX0_nextListed 78 = .ok (.if_icmp .lt 21, 3) := by decide +kernel
theorem dX0_nextListed_81 : decode cX0_nextListed 81 = .ok (.iload 8, 2) := by decide +kernel
theorem dX0_nextListed_83 : decode cX0_nextListed 83 = .ok (.ifCond .eq 16, 3) := by decide +kernel
theorem dX0_nextListed_86 : decode cX0_nextListed 86 = .ok (.iload 9, 2) := by decide +kernel
theorem dX0_nextListed_88 : decode cX0_nextListed 88 = .ok (.ifCond .eq 11, 3) := by decide +kernel
theorem dX0_nextListed_91 : decode cX0_nextListed 91 = .ok (.iload 6, 2) := by decide +kernel
theorem dX0_nextListed_93 : decode cX0_nextListed 93 = .ok (.istore 4, 2) := by decide +kernel
theorem dX0_nextListed_95 : decode cX0_nextListed 95 = .ok (.iload 7, 2) := by decide +kernel
theorem dX0_nextListed_97 : decode cX0_nextListed 97 = .ok (.istore 5, 2) := by decide +kernel
theorem dX0_nextListed_99 : decode cX0_nextListed 99 = .ok (.iinc 6 1, 3) := by decide +kernel
theorem dX0_nextListed_102 : decode cX0_nextListed 102 = .ok (.goto (-93), 3) := by decide +kernel
theorem dX0_nextListed_105 : decode cX0_nextListed 105 = .ok (.iload 4, 2) := by decide +kernel
theorem dX0_nextListed_107 : decode cX0_nextListed 107 = .ok (.ireturn, 1) := by decide +kernel
set_option maxRecDepth 20000 in
theorem ggX1_init_X0_init : GoodIn wsX1_init wsX0_init := goodIn_r _ [22, 23, 2, 3, 24, 9, 10, 25, 19, 26, 27, 28, 29, 30, 31, 32, 33, 34, 35, 36, 37, 38, 55, 56, 57, 58, 39, 40, 41, 42, 43, 44] (by decide +kernel) (by decide +kernel)
set_option maxRecDepth 20000 in
theorem gX1_init_X0_init_n11 : GoodIn wsX1_init (wsX0_init) := ggX1_init_X0_init
set_option maxRecDepth 20000 in
theorem ggX1_init_X2_init : GoodIn wsX1_init wsX2_init := goodIn_r _ [33, 34, 2, 3, 19, 35, 27, 36, 37, 38, 55, 56, 57, 58] (by decide +kernel) (by decide +kernel)
set_option maxRecDepth 20000 in
theorem gX1_init_X2_init_n20 : GoodIn wsX1_init (wsX2_init) := ggX1_init_X2_init
theorem dX1_init_0 : decode cX1_init 0 = .ok (.aload_n 0, 1) := by decide +kernel
theorem dX1_init_1 : decode cX1_init 1 = .ok (.invokespecial 3, 3) := by decide +kernel
theorem dX1_init_4 : decode cX1_init 4 = .ok (.aload_n 0, 1) := by decide +kernel
theorem dX1_init_5 : decode cX1_init 5 = .ok (.new 9, 3) := by decide +kernel
theorem dX1_init_8 : decode cX1_init 8 = .ok (.dup, 1) := by decide +kernel
theorem dX1_init_9 : decode cX1_init 9 = .ok (.invokespecial 11, 3) := by decide +kernel
theorem dX1_init_12 : decode cX1_init 12 = .ok (.putfield 12, 3) := by decide +kernel
theorem dX1_init_15 : decode cX1_init 15 = .ok (.aload_n 0, 1) := by decide +kernel
theorem dX1_init_16 : decode cX1_init 16 = .ok (.new 18, 3) := by decide +kernel
theorem dX1_init_19 : decode cX1_init 19 = .ok (.dup, 1) := by decide +kernel
theorem dX1_init_20 : decode cX1_init 20 = .ok (.invokespecial 20, 3) := by decide +kernel
theorem dX1_init_23 : decode cX1_init 23 = .ok (.putfield 21, 3) := by decide +kernel
theorem dX1_init_26 : decode cX1_init 26 = .ok (.aload_n 0, 1) := by decide +kernel
theorem dX1_init_27 : decode cX1_init 27 = .ok (.iconst 0, 1) := by decide +kernel
theorem dX1_init_28 : decode cX1_init 28 = .ok (.putfield 25, 3) := by decide +kernel
theorem dX1_init_31 : decode cX1_init 31 = .ok (.aload_n 0, 1) := by decide +kernel
theorem dX1_init_32 : decode cX1_init 32 = .ok (.iconst 0, 1) := by decide +kernel
theorem dX1_init_33 : decode cX1_init 33 = .ok (.putfield 29, 3) := by decide +kernel
theorem dX1_init_36 : decode cX1_init 36 = .ok (.aload_n 0, 1) := by decide +kernel
theorem dX1_init_37 : decode cX1_init 37 = .ok (.iconst 0, 1) := by decide +kernel
theorem dX1_init_38 : decode cX1_init 38 = .ok (.putfield 33, 3) := by decide +kernel
theorem dX1_init_41 : decode cX1_init 41 = .ok (.aload_n 0, 1) := by decide +kernel
theorem dX1_init_42 : decode cX1_init 42 = .ok (.iconst 0, 1) := by decide +kernel
theorem dX1_init_43 : decode cX1_init 43 = .ok (.putfield 36, 3) := by decide +kernel
theorem dX1_init_46 : decode cX1_init 46 = .ok (.aload_n 0, 1) := by decide +kernel
theorem dX1_init_47 : decode cX1_init 47 = .ok (.iconst 0, 1) := by decide +kernel
theorem dX1_init_48 : decode cX1_init 48 = .ok (.putfield 39, 3) := by decide +kernel
theorem dX1_init_51 : decode cX1_init 51 = .ok (.aload_n 0, 1) := by decide +kernel
theorem dX1_init_52 : decode cX1_init 52 = .ok (.iconst (-1), 1) := by decide +kernel
theorem dX1_init_53 : decode cX1_init 53 = .ok (.putfield 42, 3) := by decide +kernel
theorem dX1_init_56 : decode cX1_init 56 = .ok (.aload_n 0, 1) := by decide +kernel
theorem dX1_init_57 : decode cX1_init 57 = .ok (.iconst (-1), 1) := by decide +kernel
theorem dX1_init_58 : decode cX1_init 58 = .ok (.putfield 45, 3) := by decide +kernel
theorem dX1_init_61 : decode cX1_init 61 = .ok (.aload_n 0, 1) := by decide +kernel
theorem dX1_init_62 : decode cX1_init 62 = .ok (.bipush 20, 2) := by decide +kernel
theorem dX1_init_64 : decode cX1_init 64 = .ok (.newarray .boolean, 2) := by decide +kernel
theorem dX1_init_66 : decode cX1_init 66 = .ok (.putfield 48, 3) := by decide +kernel
theorem dX1_init_69 : decode cX1_init 69 = .ok (.return_, 1) := by decide +kernel
theorem dX1_begin_0 : decode cX1_begin 0 = .ok (.aload_n 0, 1) := by decide +kernel
theorem dX1_begin_1 : decode cX1_begin 1 = .ok (.iconst 1, 1) := by decide +kernel
theorem dX1_begin_2 : decode cX1_begin 2 = .ok (.putfield 29, 3) := by decide +kernel
theorem dX1_begin_5 : decode cX1_begin 5 = .ok (.aload_n 0, 1) := by decide +kernel
theorem dX1_begin_6 : decode cX1_begin 6 = .ok (.iload_n 1, 1) := by decide +kernel
theorem dX1_begin_7 : decode cX1_begin 7 = .ok (.putfield 33, 3) := by decide +kernel
theorem dX1_begin_10 : decode cX1_begin 10 = .ok (.aload_n 0, 1) := by decide +kernel
theorem dX1_begin_11 : decode cX1_begin 11 = .ok (.iload_n 2, 1) := by decide +kernel
theorem dX1_begin_12 : decode cX1_begin 12 = .ok (.putfield 36, 3) := by decide +kernel
theorem dX1_begin_15 : decode cX1_begin 15 = .ok (.aload_n 0, 1) := by decide +kernel
theorem dX1_begin_16 : decode cX1_begin 16 = .ok (.iload_n 2, 1) := by decide +kernel
theorem dX1_begin_17 : decode cX1_begin 17 = .ok (.putfield 39, 3) := by decide +kernel
theorem dX1_begin_20 : decode cX1_begin 20 = .ok (.aload_n 0, 1) := by decide +kernel
theorem dX1_begin_21 : decode cX1_begin 21 = .ok (.iconst (-1), 1) := by decide +kernel
theorem dX1_begin_22 : decode cX1_begin 22 = .ok (.putfield 42, 3) := by decide +kernel
theorem dX1_begin_25 : decode cX1_begin 25 = .ok (.aload_n 0, 1) := by decide +kernel
theorem dX1_begin_26 : decode cX1_begin 26 = .ok (.iconst (-1), 1) := by decide +kernel
theorem dX1_begin_27 : decode cX1_begin 27 = .ok (.putfield 45, 3) := by decide +kernel
theorem dX1_begin_30 : decode cX1_begin 30 = .ok (.iconst 0, 1) := by decide +kernel
theorem dX1_begin_31 : decode cX1_begin 31 = .ok (.istore_n 3, 1) := by decide +kernel
theorem dX1_begin_32 : decode cX1_begin 32 = .ok (.iload_n 3, 1) := by decide +kernel
theorem dX1_begin_33 : decode cX1_begin 33 = .ok (.bipush 20, 2) := by decide +kernel
theorem dX1_begin_35 : decode cX1_begin 35 = .ok (.if_icmp .ge 16, 3) := by decide +kernel
theorem dX1_begin_38 : decode cX1_begin 38 = .ok (.aload_n 0, 1) := by decide +kernel
theorem dX1_begin_39 : decode cX1_begin 39 = .ok (.getfield 48, 3) := by decide +kernel
theorem dX1_begin_42 : decode cX1_begin 42 = .ok (.iload_n 3, 1) := by decide +kernel
theorem dX1_begin_43 : decode cX1_begin 43 = .ok (.iconst 0, 1) := by decide +kernel
theorem dX1_begin_44 : decode cX1_begin 44 = .ok (.bastore, 1) := by decide +kernel
theorem dX1_begin_45 : decode cX1_begin 45 = .ok (.iinc 3 1, 3) := by decide +kernel
theorem dX1_begin_48 : decode cX1_begin 48 = .ok (.goto (-16), 3) := by decide +kernel
theorem dX1_begin_51 : decode cX1_begin 51 = .ok (.return_, 1) := by decide +kernel
theorem dX1_firstStamp_0 : decode cX1_firstStamp 0 = .ok (.aload_n 0, 1) := by decide +kernel
theorem dX1_firstStamp_1 : decode cX1_firstStamp 1 = .ok (.getfield 33, 3) := by decide +kernel
theorem dX1_firstStamp_4 : decode cX1_firstStamp 4 = .ok (.ifCond .eq 7, 3) := by decide +kernel
theorem dX1_firstStamp_7 : decode cX1_firstStamp 7 = .ok (.iconst 0, 1) := by decide +kernel
theorem dX1_firstStamp_8 : decode cX1_firstStamp 8 = .ok (.goto 7, 3) := by decide +kernel
theorem dX1_firstStamp_11 : decode cX1_firstStamp 11 = .ok (.aload_n 0, 1) := by decide +kernel
theorem dX1_firstStamp_12 : decode cX1_firstStamp 12 = .ok (.getfield 25, 3) := by decide +kernel
theorem dX1_firstStamp_15 : decode cX1_firstStamp 15 = .ok (.ireturn, 1) := by decide +kernel
set_option maxRecDepth 20000 in
theorem ggX1_takePage_X1_begin : GoodIn wsX1_takePage wsX1_begin := goodIn_r _ [7, 8, 2, 9, 1, 10, 11, 12, 74, 75, 76, 77, 78, 79, 80, 81, 82, 83] (by decide +kernel) (by decide +kernel)
set_option maxRecDepth 20000 in
theorem gX1_takePage_X1_begin : GoodIn wsX1_takePage (wsV RX1 52 RX1 yX1_begin wsX1_begin) := goodIn_app (goodIn_of _ (by decide +kernel)) ggX1_takePage_X1_begin
set_option maxRecDepth 20000 in
theorem ggX1_takePage_X1_nextOfList : GoodIn wsX1_takePage wsX1_nextOfList := goodIn_r _ [16, 17, 10, 11, 18, 19, 20, 6, 21, 2, 22, 23, 24, 25, 26, 27, 28, 29, 30, 31, 32, 33, 34, 35, 36, 74, 75, 76, 77, 78, 79, 80, 81, 82, 83, 84, 85, 86, 87, 88, 89, 90, 91, 92, 93] (by decide +kernel) (by decide +kernel)
set_option maxRecDepth 20000 in
theorem gX1_takePage_X1_nextOfList : GoodIn wsX1_takePage (wsV RX1 56 RX1 yX1_nextOfList wsX1_nextOfList) := goodIn_app (goodIn_of _ (by decide +kernel)) ggX1_takePage_X1_nextOfList
set_option maxRecDepth 20000 in
theorem ggX1_takePage_X1_takeOver : GoodIn wsX1_takePage wsX1_takeOver := goodIn_r _ [40, 17, 10, 11, 41, 42, 43, 44, 45, 46, 12, 47, 29, 30, 26, 31, 32, 33, 34, 35, 36, 48, 49, 50, 51, 52, 53, 54, 55, 56, 57, 58, 59, 60, 74, 75, 76, 77, 78, 79, 80, 81, 82, 83, 84, 85, 86, 87, 88, 89, 90, 91, 92, 93] (by decide +kernel) (by decide +kernel)
set_option maxRecDepth 20000 in
theorem gX1_takePage_X1_takeOver : GoodIn wsX1_takePage (wsV RX1 60 RX1 yX1_takeOver wsX1_takeOver) := goodIn_app (goodIn_of _ (by decide +kernel)) ggX1_takePage_X1_takeOver
set_option maxRecDepth 20000 in
theorem ggX1_takePage_X1_finish : GoodIn wsX1_takePage wsX1_finish := goodIn_r _ [64, 8, 17, 9, 22, 2, 65, 66, 67, 26, 68, 69, 70, 71, 72, 6, 73, 12, 43, 57, 58, 59, 51, 60, 53, 74, 75, 76, 77, 78, 79, 80, 81, 82, 83, 84, 85, 86, 87, 88, 89, 90, 91, 92, 93] (by decide +kernel) (by decide +kernel)
set_option maxRecDepth 20000 in
theorem gX1_takePage_X1_finish : GoodIn wsX1_takePage (wsV RX1 64 RX1 yX1_finish wsX1_finish) := goodIn_app (goodIn_of _ (by decide +kernel)) ggX1_takePage_X1_finish
theorem dX1_takePage_0 : decode cX1_takePage 0 = .ok (.iload_n 1, 1) := by decide +kernel
theorem dX1_takePage_1 : decode cX1_takePage 1 = .ok (.aload_n 0, 1) := by decide +kernel
theorem dX1_takePage_2 : decode cX1_takePage 2 = .ok (.getfield 39, 3) := by decide +kernel
theorem dX1_takePage_5 : decode cX1_takePage 5 = .ok (.isub, 1) := by decide +kernel
theorem dX1_takePage_6 : decode cX1_takePage 6 = .ok (.iconst 5, 1) := by decide +kernel
theorem dX1_takePage_7 : decode cX1_takePage 7 = .ok (.if_icmp .le 12, 3) := by decide +kernel
theorem dX1_takePage_10 : decode cX1_takePage 10 = .ok (.aload_n 0, 1) := by decide +kernel
theorem dX1_takePage_11 : decode cX1_takePage 11 = .ok (.aload_n 0, 1) := by decide +kernel
theorem dX1_takePage_12 : decode cX1_takePage 12 = .ok (.getfield 33, 3) := by decide +kernel
theorem dX1_takePage_15 : decode cX1_takePage 15 = .ok (.iload_n 1, 1) := by decide +kernel
theorem dX1_takePage_16 : decode cX1_takePage 16 = .ok (.invokevirtual 52, 3) := by decide +kernel
theorem dX1_takePage_19 : decode cX1_takePage 19 = .ok (.aload_n 0, 1) := by decide +kernel
theorem dX1_takePage_20 : decode cX1_takePage 20 = .ok (.iload_n 1, 1) := by decide +kernel
theorem dX1_takePage_21 : decode cX1_takePage 21 = .ok (.putfield 39, 3) := by decide +kernel
theorem dX1_takePage_24 : decode cX1_takePage 24 = .ok (.iconst 0, 1) := by decide +kernel
theorem dX1_takePage_25 : decode cX1_takePage 25 = .ok (.istore_n 2, 1) := by decide +kernel
theorem dX1_takePage_26 : decode cX1_takePage 26 = .ok (.aload_n 0, 1) := by decide +kernel
theorem dX1_takePage_27 : decode cX1_takePage 27 = .ok (.invokevirtual 56, 3) := by decide +kernel
theorem dX1_takePage_30 : decode cX1_takePage 30 = .ok (.istore_n 3, 1) := by decide +kernel
theorem dX1_takePage_31 : decode cX1_takePage 31 = .ok (.iload_n 3, 1) := by decide +kernel
theorem dX1_takePage_32 : decode cX1_takePage 32 = .ok (.iconst (-1), 1) := by decide +kernel
theorem dX1_takePage_33 : decode cX1_takePage 33 = .ok (.if_icmp .eq 24, 3) := by decide +kernel
theorem dX1_takePage_36 : decode cX1_takePage 36 = .ok (.iload_n 2, 1) := by decide +kernel
theorem dX1_takePage_37 : decode cX1_takePage 37 = .ok (.iconst 3, 1) := by decide +kernel
theorem dX1_takePage_38 : decode cX1_takePage 38 = .ok (.if_icmp .ge 19, 3) := by decide +kernel
theorem dX1_takePage_41 : decode cX1_takePage 41 = .ok (.aload_n 0, 1) := by decide +kernel
theorem dX1_takePage_42 : decode cX1_takePage 42 = .ok (.iload_n 3, 1) := by decide +kernel
theorem dX1_takePage_43 : decode cX1_takePage 43 = .ok (.invokevirtual 60, 3) := by decide +kernel
theorem dX1_takePage_46 : decode cX1_takePage 46 = .ok (.iinc 2 1, 3) := by decide +kernel
theorem dX1_takePage_49 : decode cX1_takePage 49 = .ok (.aload_n 0, 1) := by decide +kernel
theorem dX1_takePage_50 : decode cX1_takePage 50 = .ok (.invokevirtual 56, 3) := by decide +kernel
theorem dX1_takePage_53 : decode cX1_takePage 53 = .ok (.istore_n 3, 1) := by decide +kernel
theorem dX1_takePage_54 : decode cX1_takePage 54 = .ok (.goto (-23), 3) := by decide +kernel
theorem dX1_takePage_57 : decode cX1_takePage 57 = .ok (.iload_n 3, 1) := by decide +kernel
theorem dX1_takePage_58 : decode cX1_takePage 58 = .ok (.iconst (-1), 1) := by decide +kernel
theorem dX1_takePage_59 : decode cX1_takePage 59 = .ok (.if_icmp .ne 7, 3) := by decide +kernel
theorem dX1_takePage_62 : decode cX1_takePage 62 = .ok (.aload_n 0, 1) := by decide +kernel
theorem dX1_takePage_63 : decode cX1_takePage 63 = .ok (.invokevirtual 64, 3) := by decide +kernel
theorem dX1_takePage_66 : decode cX1_takePage 66 = .ok (.iload_n 2, 1) := by decide +kernel
theorem dX1_takePage_67 : decode cX1_takePage 67 = .ok (.ireturn, 1) := by decide +kernel
set_option maxRecDepth 20000 in
theorem ggX1_nextOfList_X1_firstStamp : GoodIn wsX1_nextOfList wsX1_firstStamp := goodIn_r _ [8, 9, 10, 25, 26, 27, 28, 29, 30, 31, 32, 33, 34] (by decide +kernel) (by decide +kernel)
set_option maxRecDepth 20000 in
theorem gX1_nextOfList_X1_firstStamp : GoodIn wsX1_nextOfList (wsV RX1 67 RX1 yX1_firstStamp wsX1_firstStamp) := goodIn_app (goodIn_of _ (by decide +kernel)) ggX1_nextOfList_X1_firstStamp
set_option maxRecDepth 20000 in
theorem ggX1_nextOfList_X0_nextListed : GoodIn wsX1_nextOfList wsX0_nextListed := goodIn_r _ [15, 16, 17, 18, 14, 19, 20, 21, 22, 23, 24, 35, 36, 37, 38, 39, 40, 41, 42, 43, 44] (by decide +kernel) (by decide +kernel)
set_option maxRecDepth 20000 in
theorem gX1_nextOfList_X0_nextListed : GoodIn wsX1_nextOfList (wsV RX1 70 RX0 yX0_nextListed wsX0_nextListed) := goodIn_app (goodIn_of _ (by decide +kernel)) ggX1_nextOfList_X0_nextListed
theorem dX1_nextOfList_0 : decode cX1_nextOfList 0 = .ok (.aload_n 0, 1) := by decide +kernel
theorem dX1_nextOfList_1 : decode cX1_nextOfList 1 = .ok (.getfield 12, 3) := by decide +kernel
theorem dX1_nextOfList_4 : decode cX1_nextOfList 4 = .ok (.aload_n 0, 1) := by decide +kernel
theorem dX1_nextOfList_5 : decode cX1_nextOfList 5 = .ok (.invokevirtual 67, 3) := by decide +kernel
theorem dX1_nextOfList_8 : decode cX1_nextOfList 8 = .ok (.aload_n 0, 1) := by decide +kernel
theorem dX1_nextOfList_9 : decode cX1_nextOfList 9 = .ok (.getfield 42, 3) := by decide +kernel
theorem dX1_nextOfList_12 : decode cX1_nextOfList 12 = .ok (.aload_n 0, 1) := by decide +kernel
theorem dX1_nextOfList_13 : decode cX1_nextOfList 13 = .ok (.getfield 45, 3) := by decide +kernel
theorem dX1_nextOfList_16 : decode cX1_nextOfList 16 = .ok (.invokevirtual 70, 3) := by decide +kernel
theorem dX1_nextOfList_19 : decode cX1_nextOfList 19 = .ok (.ireturn, 1) := by decide +kernel
set_option maxRecDepth 20000 in
theorem ggX1_takeOver_X0_listedStamp : GoodIn wsX1_takeOver wsX0_listedStamp := goodIn_r _ [15, 16, 17, 18, 19, 20, 44, 45, 46, 47, 48, 49, 50, 51, 52, 53] (by decide +kernel) (by decide +kernel)
set_option maxRecDepth 20000 in
theorem gX1_takeOver_X0_listedStamp : GoodIn wsX1_takeOver (wsV RX1 74 RX0 yX0_listedStamp wsX0_listedStamp) := goodIn_app (goodIn_of _ (by decide +kernel)) ggX1_takeOver_X0_listedStamp
set_option maxRecDepth 20000 in
theorem ggX1_takeOver_X2_keep : GoodIn wsX1_takeOver wsX2_keep := goodIn_r _ [25, 26, 27, 28, 29, 50, 51, 52, 53] (by decide +kernel) (by decide +kernel)
set_option maxRecDepth 20000 in
theorem gX1_takeOver_X2_keep : GoodIn wsX1_takeOver (wsV RX1 94 RX2 yX2_keep wsX2_keep) := goodIn_app (goodIn_of _ (by decide +kernel)) ggX1_takeOver_X2_keep
set_option maxRecDepth 20000 in
theorem ggX1_takeOver_X2_drop : GoodIn wsX1_takeOver wsX2_drop := goodIn_r _ [33, 26, 50, 51, 52, 53] (by decide +kernel) (by decide +kernel)
set_option maxRecDepth 20000 in
theorem gX1_takeOver_X2_drop : GoodIn wsX1_takeOver (wsV RX1 98 RX2 yX2_drop wsX2_drop) := goodIn_app (goodIn_of _ (by decide +kernel)) ggX1_takeOver_X2_drop
theorem dX1_takeOver_0 : decode cX1_takeOver 0 = .ok (.aload_n 0, 1) := by decide +kernel
theorem dX1_takeOver_1 : decode cX1_takeOver 1 = .ok (.aload_n 0, 1) := by decide +kernel
theorem dX1_takeOver_2 : decode cX1_takeOver 2 = .ok (.getfield 12, 3) := by decide +kernel
theorem dX1_takeOver_5 : decode cX1_takeOver 5 = .ok (.iload_n 1, 1) := by decide +kernel
theorem dX1_takeOver_6 : decode cX1_takeOver 6 = .ok (.invokevirtual 74, 3) := by decide +kernel
theorem dX1_takeOver_9 : decode cX1_takeOver 9 = .ok (.putfield 42, 3) := by decide +kernel
theorem dX1_takeOver_12 : decode cX1_takeOver 12 = .ok (.aload_n 0, 1) := by decide +kernel
theorem dX1_takeOver_13 : decode cX1_takeOver 13 = .ok (.iload_n 1, 1) := by decide +kernel
theorem dX1_takeOver_14 : decode cX1_takeOver 14 = .ok (.putfield 45, 3) := by decide +kernel
theorem dX1_takeOver_17 : decode cX1_takeOver 17 = .ok (.aload_n 0, 1) := by decide +kernel
theorem dX1_takeOver_18 : decode cX1_takeOver 18 = .ok (.getfield 12, 3) := by decide +kernel
theorem dX1_takeOver_21 : decode cX1_takeOver 21 = .ok (.getfield 78, 3) := by decide +kernel
theorem dX1_takeOver_24 : decode cX1_takeOver 24 = .ok (.astore_n 2, 1) := by decide +kernel
theorem dX1_takeOver_25 : decode cX1_takeOver 25 = .ok (.aload_n 2, 1) := by decide +kernel
theorem dX1_takeOver_26 : decode cX1_takeOver 26 = .ok (.getfield 81, 3) := by decide +kernel
theorem dX1_takeOver_29 : decode cX1_takeOver 29 = .ok (.iload_n 1, 1) := by decide +kernel
theorem dX1_takeOver_30 : decode cX1_takeOver 30 = .ok (.baload, 1) := by decide +kernel
theorem dX1_takeOver_31 : decode cX1_takeOver 31 = .ok (.ifCond .eq 39, 3) := by decide +kernel
theorem dX1_takeOver_34 : decode cX1_takeOver 34 = .ok (.aload_n 0, 1) := by decide +kernel
theorem dX1_takeOver_35 : decode cX1_takeOver 35 = .ok (.getfield 21, 3) := by decide +kernel
theorem dX1_takeOver_38 : decode cX1_takeOver 38 = .ok (.iload_n 1, 1) := by decide +kernel
theorem dX1_takeOver_39 : decode cX1_takeOver 39 = .ok (.aload_n 2, 1) := by decide +kernel
theorem dX1_takeOver_40 : decode cX1_takeOver 40 = .ok (.getfield 84, 3) := by decide +kernel
theorem dX1_takeOver_43 : decode cX1_takeOver 43 = .ok (.iload_n 1, 1) := by decide +kernel
theorem dX1_takeOver_44 : decode cX1_takeOver 44 = .ok (.iaload, 1) := by decide +kernel
theorem dX1_takeOver_45 : decode cX1_takeOver 45 = .ok (.aload_n 2, 1) := by decide +kernel
theorem dX1_takeOver_46 : decode cX1_takeOver 46 = .ok (.getfield 88, 3) := by decide +kernel
theorem dX1_takeOver_49 : decode cX1_takeOver 49 = .ok (.iload_n 1, 1) := by decide +kernel
theorem dX1_takeOver_50 : decode cX1_takeOver 50 = .ok (.iaload, 1) := by decide +kernel
theorem dX1_takeOver_51 : decode cX1_takeOver 51 = .ok (.aload_n 2, 1) := by decide +kernel
theorem dX1_takeOver_52 : decode cX1_takeOver 52 = .ok (.getfield 91, 3) := by decide +kernel
theorem dX1_takeOver_55 : decode cX1_takeOver 55 = .ok (.iload_n 1, 1) := by decide +kernel
theorem dX1_takeOver_56 : decode cX1_takeOver 56 = .ok (.iaload, 1) := by decide +kernel
theorem dX1_takeOver_57 : decode cX1_takeOver 57 = .ok (.invokevirtual 94, 3) := by decide +kernel
theorem dX1_takeOver_60 : decode cX1_takeOver 60 = .ok (.aload_n 0, 1) := by decide +kernel
theorem dX1_takeOver_61 : decode cX1_takeOver 61 = .ok (.getfield 48, 3) := by decide +kernel
theorem dX1_takeOver_64 : decode cX1_takeOver 64 = .ok (.iload_n 1, 1) := by decide +kernel
theorem dX1_takeOver_65 : decode cX1_takeOver 65 = .ok (.iconst 1, 1) := by decide +kernel
theorem dX1_takeOver_66 : decode cX1_takeOver 66 = .ok (.bastore, 1) := by decide +kernel
theorem dX1_takeOver_67 : decode cX1_takeOver 67 = .ok (.goto 11, 3) := by decide +kernel
theorem dX1_takeOver_70 : decode cX1_takeOver 70 = .ok (.aload_n 0, 1) := by decide +kernel
theorem dX1_takeOver_71 : decode cX1_takeOver 71 = .ok (.getfield 21, 3) := by decide +kernel
theorem dX1_takeOver_74 : decode cX1_takeOver 74 = .ok (.iload_n 1, 1) := by decide +kernel
theorem dX1_takeOver_75 : decode cX1_takeOver 75 = .ok (.invokevirtual 98, 3) := by decide +kernel
theorem dX1_takeOver_78 : decode cX1_takeOver 78 = .ok (.return_, 1) := by decide +kernel
set_option maxRecDepth 20000 in
theorem ggX1_finish_X0_stampOfDay : GoodIn wsX1_finish wsX0_stampOfDay := goodIn_r _ [10, 11, 35, 36, 37, 38, 39, 40] (by decide +kernel) (by decide +kernel)
set_option maxRecDepth 20000 in
theorem gX1_finish_X0_stampOfDay : GoodIn wsX1_finish (wsV RX1 101 RX0 yX0_stampOfDay wsX0_stampOfDay) := goodIn_app (goodIn_of _ (by decide +kernel)) ggX1_finish_X0_stampOfDay
set_option maxRecDepth 20000 in
theorem ggX1_finish_X1_dropWhatIsGone : GoodIn wsX1_finish wsX1_dropWhatIsGone := goodIn_r _ [16, 17, 18, 19, 20, 21, 22, 23, 24, 25, 26, 27, 28, 29, 30, 31, 32, 33, 34, 41, 42, 43, 44] (by decide +kernel) (by decide +kernel)
set_option maxRecDepth 20000 in
theorem gX1_finish_X1_dropWhatIsGone : GoodIn wsX1_finish (wsV RX1 104 RX1 yX1_dropWhatIsGone wsX1_dropWhatIsGone) := goodIn_app (goodIn_of _ (by decide +kernel)) ggX1_finish_X1_dropWhatIsGone
theorem dX1_finish_0 : decode cX1_finish 0 = .ok (.aload_n 0, 1) := by decide +kernel
theorem dX1_finish_1 : decode cX1_finish 1 = .ok (.iconst 0, 1) := by decide +kernel
theorem dX1_finish_2 : decode cX1_finish 2 = .ok (.putfield 29, 3) := by decide +kernel
theorem dX1_finish_5 : decode cX1_finish 5 = .ok (.aload_n 0, 1) := by decide +kernel
theorem dX1_finish_6 : decode cX1_finish 6 = .ok (.aload_n 0, 1) := by decide +kernel
theorem dX1_finish_7 : decode cX1_finish 7 = .ok (.getfield 12, 3) := by decide +kernel
theorem dX1_finish_10 : decode cX1_finish 10 = .ok (.aload_n 0, 1) := by decide +kernel
theorem dX1_finish_11 : decode cX1_finish 11 = .ok (.getfield 36, 3) := by decide +kernel
theorem dX1_finish_14 : decode cX1_finish 14 = .ok (.invokevirtual 101, 3) := by decide +kernel
theorem dX1_finish_17 : decode cX1_finish 17 = .ok (.putfield 25, 3) := by decide +kernel
theorem dX1_finish_20 : decode cX1_finish 20 = .ok (.aload_n 0, 1) := by decide +kernel
theorem dX1_finish_21 : decode cX1_finish 21 = .ok (.getfield 33, 3) := by decide +kernel
theorem dX1_finish_24 : decode cX1_finish 24 = .ok (.ifCond .eq 7, 3) := by decide +kernel
theorem dX1_finish_27 : decode cX1_finish 27 = .ok (.aload_n 0, 1) := by decide +kernel
theorem dX1_finish_28 : decode cX1_finish 28 = .ok (.invokevirtual 104, 3) := by decide +kernel
theorem dX1_finish_31 : decode cX1_finish 31 = .ok (.return_, 1) := by decide +kernel
set_option maxRecDepth 20000 in
theorem ggX1_dropWhatIsGone_X2_drop : GoodIn wsX1_dropWhatIsGone wsX2_drop := goodIn_r _ [7, 8, 19, 20, 21, 22] (by decide +kernel) (by decide +kernel)
set_option maxRecDepth 20000 in
theorem gX1_dropWhatIsGone_X2_drop : GoodIn wsX1_dropWhatIsGone (wsV RX1 98 RX2 yX2_drop wsX2_drop) := goodIn_app (goodIn_of _ (by decide +kernel)) ggX1_dropWhatIsGone_X2_drop
theorem dX1_dropWhatIsGone_0 : decode cX1_dropWhatIsGone 0 = .ok (.iconst 0, 1) := by decide +kernel
theorem dX1_dropWhatIsGone_1 : decode cX1_dropWhatIsGone 1 = .ok (.istore_n 1, 1) := by decide +kernel
theorem dX1_dropWhatIsGone_2 : decode cX1_dropWhatIsGone 2 = .ok (.iload_n 1, 1) := by decide +kernel
theorem dX1_dropWhatIsGone_3 : decode cX1_dropWhatIsGone 3 = .ok (.bipush 20, 2) := by decide +kernel
theorem dX1_dropWhatIsGone_5 : decode cX1_dropWhatIsGone 5 = .ok (.if_icmp .ge 26, 3) := by decide +kernel
theorem dX1_dropWhatIsGone_8 : decode cX1_dropWhatIsGone 8 = .ok (.aload_n 0, 1) := by decide +kernel
theorem dX1_dropWhatIsGone_9 : decode cX1_dropWhatIsGone 9 = .ok (.getfield 48, 3) := by decide +kernel
theorem dX1_dropWhatIsGone_12 : decode cX1_dropWhatIsGone 12 = .ok (.iload_n 1, 1) := by decide +kernel
theorem dX1_dropWhatIsGone_13 : decode cX1_dropWhatIsGone 13 = .ok (.baload, 1) := by decide +kernel
theorem dX1_dropWhatIsGone_14 : decode cX1_dropWhatIsGone 14 = .ok (.ifCond .ne 11, 3) := by decide +kernel
theorem dX1_dropWhatIsGone_17 : decode cX1_dropWhatIsGone 17 = .ok (.aload_n 0, 1) := by decide +kernel
theorem dX1_dropWhatIsGone_18 : decode cX1_dropWhatIsGone 18 = .ok (.getfield 21, 3) := by decide +kernel
theorem dX1_dropWhatIsGone_21 : decode cX1_dropWhatIsGone 21 = .ok (.iload_n 1, 1) := by decide +kernel
theorem dX1_dropWhatIsGone_22 : decode cX1_dropWhatIsGone 22 = .ok (.invokevirtual 98, 3) := by decide +kernel
theorem dX1_dropWhatIsGone_25 : decode cX1_dropWhatIsGone 25 = .ok (.iinc 1 1, 3) := by decide +kernel
theorem dX1_dropWhatIsGone_28 : decode cX1_dropWhatIsGone 28 = .ok (.goto (-26), 3) := by decide +kernel
theorem dX1_dropWhatIsGone_31 : decode cX1_dropWhatIsGone 31 = .ok (.return_, 1) := by decide +kernel
theorem dX2_init_0 : decode cX2_init 0 = .ok (.aload_n 0, 1) := by decide +kernel
theorem dX2_init_1 : decode cX2_init 1 = .ok (.invokespecial 3, 3) := by decide +kernel
theorem dX2_init_4 : decode cX2_init 4 = .ok (.aload_n 0, 1) := by decide +kernel
theorem dX2_init_5 : decode cX2_init 5 = .ok (.bipush 20, 2) := by decide +kernel
theorem dX2_init_7 : decode cX2_init 7 = .ok (.newarray .boolean, 2) := by decide +kernel
theorem dX2_init_9 : decode cX2_init 9 = .ok (.putfield 9, 3) := by decide +kernel
theorem dX2_init_12 : decode cX2_init 12 = .ok (.aload_n 0, 1) := by decide +kernel
theorem dX2_init_13 : decode cX2_init 13 = .ok (.bipush 20, 2) := by decide +kernel
theorem dX2_init_15 : decode cX2_init 15 = .ok (.newarray .int, 2) := by decide +kernel
theorem dX2_init_17 : decode cX2_init 17 = .ok (.putfield 15, 3) := by decide +kernel
theorem dX2_init_20 : decode cX2_init 20 = .ok (.aload_n 0, 1) := by decide +kernel
theorem dX2_init_21 : decode cX2_init 21 = .ok (.bipush 20, 2) := by decide +kernel
theorem dX2_init_23 : decode cX2_init 23 = .ok (.newarray .int, 2) := by decide +kernel
theorem dX2_init_25 : decode cX2_init 25 = .ok (.putfield 19, 3) := by decide +kernel
theorem dX2_init_28 : decode cX2_init 28 = .ok (.aload_n 0, 1) := by decide +kernel
theorem dX2_init_29 : decode cX2_init 29 = .ok (.bipush 20, 2) := by decide +kernel
theorem dX2_init_31 : decode cX2_init 31 = .ok (.newarray .int, 2) := by decide +kernel
theorem dX2_init_33 : decode cX2_init 33 = .ok (.putfield 22, 3) := by decide +kernel
theorem dX2_init_36 : decode cX2_init 36 = .ok (.return_, 1) := by decide +kernel
theorem dX2_keep_0 : decode cX2_keep 0 = .ok (.aload_n 0, 1) := by decide +kernel
theorem dX2_keep_1 : decode cX2_keep 1 = .ok (.getfield 9, 3) := by decide +kernel
theorem dX2_keep_4 : decode cX2_keep 4 = .ok (.iload_n 1, 1) := by decide +kernel
theorem dX2_keep_5 : decode cX2_keep 5 = .ok (.iconst 1, 1) := by decide +kernel
theorem dX2_keep_6 : decode cX2_keep 6 = .ok (.bastore, 1) := by decide +kernel
theorem dX2_keep_7 : decode cX2_keep 7 = .ok (.aload_n 0, 1) := by decide +kernel
theorem dX2_keep_8 : decode cX2_keep 8 = .ok (.getfield 15, 3) := by decide +kernel
theorem dX2_keep_11 : decode cX2_keep 11 = .ok (.iload_n 1, 1) := by decide +kernel
theorem dX2_keep_12 : decode cX2_keep 12 = .ok (.iload_n 2, 1) := by decide +kernel
theorem dX2_keep_13 : decode cX2_keep 13 = .ok (.iastore, 1) := by decide +kernel
theorem dX2_keep_14 : decode cX2_keep 14 = .ok (.aload_n 0, 1) := by decide +kernel
theorem dX2_keep_15 : decode cX2_keep 15 = .ok (.getfield 19, 3) := by decide +kernel
theorem dX2_keep_18 : decode cX2_keep 18 = .ok (.iload_n 1, 1) := by decide +kernel
theorem dX2_keep_19 : decode cX2_keep 19 = .ok (.iload_n 3, 1) := by decide +kernel
theorem dX2_keep_20 : decode cX2_keep 20 = .ok (.iastore, 1) := by decide +kernel
theorem dX2_keep_21 : decode cX2_keep 21 = .ok (.aload_n 0, 1) := by decide +kernel
theorem dX2_keep_22 : decode cX2_keep 22 = .ok (.getfield 22, 3) := by decide +kernel
theorem dX2_keep_25 : decode cX2_keep 25 = .ok (.iload_n 1, 1) := by decide +kernel
theorem dX2_keep_26 : decode cX2_keep 26 = .ok (.iload 4, 2) := by decide +kernel
theorem dX2_keep_28 : decode cX2_keep 28 = .ok (.iastore, 1) := by decide +kernel
theorem dX2_keep_29 : decode cX2_keep 29 = .ok (.return_, 1) := by decide +kernel
theorem dX2_drop_0 : decode cX2_drop 0 = .ok (.aload_n 0, 1) := by decide +kernel
theorem dX2_drop_1 : decode cX2_drop 1 = .ok (.getfield 9, 3) := by decide +kernel
theorem dX2_drop_4 : decode cX2_drop 4 = .ok (.iload_n 1, 1) := by decide +kernel
theorem dX2_drop_5 : decode cX2_drop 5 = .ok (.iconst 0, 1) := by decide +kernel
theorem dX2_drop_6 : decode cX2_drop 6 = .ok (.bastore, 1) := by decide +kernel
theorem dX2_drop_7 : decode cX2_drop 7 = .ok (.return_, 1) := by decide +kernel
theorem dX2_count_0 : decode cX2_count 0 = .ok (.iconst 0, 1) := by decide +kernel
theorem dX2_count_1 : decode cX2_count 1 = .ok (.istore_n 1, 1) := by decide +kernel
theorem dX2_count_2 : decode cX2_count 2 = .ok (.iconst 0, 1) := by decide +kernel
theorem dX2_count_3 : decode cX2_count 3 = .ok (.istore_n 2, 1) := by decide +kernel
theorem dX2_count_4 : decode cX2_count 4 = .ok (.iload_n 2, 1) := by decide +kernel
theorem dX2_count_5 : decode cX2_count 5 = .ok (.bipush 20, 2) := by decide +kernel
theorem dX2_count_7 : decode cX2_count 7 = .ok (.if_icmp .ge 21, 3) := by decide +kernel
theorem dX2_count_10 : decode cX2_count 10 = .ok (.aload_n 0, 1) := by decide +kernel
theorem dX2_count_11 : decode cX2_count 11 = .ok (.getfield 9, 3) := by decide +kernel
theorem dX2_count_14 : decode cX2_count 14 = .ok (.iload_n 2, 1) := by decide +kernel
theorem dX2_count_15 : decode cX2_count 15 = .ok (.baload, 1) := by decide +kernel
theorem dX2_count_16 : decode cX2_count 16 = .ok (.ifCond .eq 6, 3) := by decide +kernel
theorem dX2_count_19 : decode cX2_count 19 = .ok (.iinc 1 1, 3) := by decide +kernel
theorem dX2_count_22 : decode cX2_count 22 = .ok (.iinc 2 1, 3) := by decide +kernel
theorem dX2_count_25 : decode cX2_count 25 = .ok (.goto (-21), 3) := by decide +kernel
theorem dX2_count_28 : decode cX2_count 28 = .ok (.iload_n 1, 1) := by decide +kernel
theorem dX2_count_29 : decode cX2_count 29 = .ok (.ireturn, 1) := by decide +kernel
theorem dX2_countOfWork_0 : decode cX2_countOfWork 0 = .ok (.iconst 0, 1) := by decide +kernel
theorem dX2_countOfWork_1 : decode cX2_countOfWork 1 = .ok (.istore_n 2, 1) := by decide +kernel
theorem dX2_countOfWork_2 : decode cX2_countOfWork 2 = .ok (.iconst 0, 1) := by decide +kernel
theorem dX2_countOfWork_3 : decode cX2_countOfWork 3 = .ok (.istore_n 3, 1) := by decide +kernel
theorem dX2_countOfWork_4 : decode cX2_countOfWork 4 = .ok (.iload_n 3, 1) := by decide +kernel
theorem dX2_countOfWork_5 : decode cX2_countOfWork 5 = .ok (.bipush 20, 2) := by decide +kernel
theorem dX2_countOfWork_7 : decode cX2_countOfWork 7 = .ok (.if_icmp .ge 31, 3) := by decide +kernel
theorem dX2_countOfWork_10 : decode cX2_countOfWork 10 = .ok (.aload_n 0, 1) := by decide +kernel
theorem dX2_countOfWork_11 : decode cX2_countOfWork 11 = .ok (.getfield 9, 3) := by decide +kernel
theorem dX2_countOfWork_14 : decode cX2_countOfWork 14 = .ok (.iload_n 3, 1) := by decide +kernel
theorem dX2_countOfWork_15 : decode cX2_countOfWork 15 = .ok (.baload, 1) := by decide +kernel
theorem dX2_countOfWork_16 : decode cX2_countOfWork 16 = .ok (.ifCond .eq 16, 3) := by decide +kernel
theorem dX2_countOfWork_19 : decode cX2_countOfWork 19 = .ok (.aload_n 0, 1) := by decide +kernel
theorem dX2_countOfWork_20 : decode cX2_countOfWork 20 = .ok (.getfield 15, 3) := by decide +kernel
theorem dX2_countOfWork_23 : decode cX2_countOfWork 23 = .ok (.iload_n 3, 1) := by decide +kernel
theorem dX2_countOfWork_24 : decode cX2_countOfWork 24 = .ok (.iaload, 1) := by decide +kernel
theorem dX2_countOfWork_25 : decode cX2_countOfWork 25 = .ok (.iload_n 1, 1) := by decide +kernel
theorem dX2_countOfWork_26 : decode cX2_countOfWork 26 = .ok (.if_icmp .ne 6, 3) := by decide +kernel
theorem dX2_countOfWork_29 : decode cX2_countOfWork 29 = .ok (.iinc 2 1, 3) := by decide +kernel
theorem dX2_countOfWork_32 : decode cX2_countOfWork 32 = .ok (.iinc 3 1, 3) := by decide +kernel
theorem dX2_countOfWork_35 : decode cX2_countOfWork 35 = .ok (.goto (-31), 3) := by decide +kernel
theorem dX2_countOfWork_38 : decode cX2_countOfWork 38 = .ok (.iload_n 2, 1) := by decide +kernel
theorem dX2_countOfWork_39 : decode cX2_countOfWork 39 = .ok (.ireturn, 1) := by decide +kernel
set_option maxRecDepth 20000 in
theorem ggX2_countUnlike_X2_isLike : GoodIn wsX2_countUnlike wsX2_isLike := goodIn_r _ [5, 6, 7, 8, 9, 10, 11, 12, 13] (by decide +kernel) (by decide +kernel)
set_option maxRecDepth 20000 in
theorem gX2_countUnlike_X2_isLike : GoodIn wsX2_countUnlike (wsV RX2 25 RX2 yX2_isLike wsX2_isLike) := goodIn_app (goodIn_of _ (by decide +kernel)) ggX2_countUnlike_X2_isLike
theorem dX2_countUnlike_0 : decode cX2_countUnlike 0 = .ok (.iconst 0, 1) := by decide +kernel
theorem dX2_countUnlike_1 : decode cX2_countUnlike 1 = .ok (.istore_n 2, 1) := by decide +kernel
theorem dX2_countUnlike_2 : decode cX2_countUnlike 2 = .ok (.iconst 0, 1) := by decide +kernel
theorem dX2_countUnlike_3 : decode cX2_countUnlike 3 = .ok (.istore_n 3, 1) := by decide +kernel
theorem dX2_countUnlike_4 : decode cX2_countUnlike 4 = .ok (.iload_n 3, 1) := by decide +kernel
theorem dX2_countUnlike_5 : decode cX2_countUnlike 5 = .ok (.bipush 20, 2) := by decide +kernel
theorem dX2_countUnlike_7 : decode cX2_countUnlike 7 = .ok (.if_icmp .ge 21, 3) := by decide +kernel
theorem dX2_countUnlike_10 : decode cX2_countUnlike 10 = .ok (.aload_n 0, 1) := by decide +kernel
theorem dX2_countUnlike_11 : decode cX2_countUnlike 11 = .ok (.aload_n 1, 1) := by decide +kernel
theorem dX2_countUnlike_12 : decode cX2_countUnlike 12 = .ok (.iload_n 3, 1) := by decide +kernel
theorem dX2_countUnlike_13 : decode cX2_countUnlike 13 = .ok (.invokevirtual 25, 3) := by decide +kernel
theorem dX2_countUnlike_16 : decode cX2_countUnlike 16 = .ok (.ifCond .ne 6, 3) := by decide +kernel
theorem dX2_countUnlike_19 : decode cX2_countUnlike 19 = .ok (.iinc 2 1, 3) := by decide +kernel
theorem dX2_countUnlike_22 : decode cX2_countUnlike 22 = .ok (.iinc 3 1, 3) := by decide +kernel
theorem dX2_countUnlike_25 : decode cX2_countUnlike 25 = .ok (.goto (-21), 3) := by decide +kernel
theorem dX2_countUnlike_28 : decode cX2_countUnlike 28 = .ok (.iload_n 2, 1) := by decide +kernel
theorem dX2_countUnlike_29 : decode cX2_countUnlike 29 = .ok (.ireturn, 1) := by decide +kernel
theorem dX2_isLike_0 : decode cX2_isLike 0 = .ok (.aload_n 0, 1) := by decide +kernel
theorem dX2_isLike_1 : decode cX2_isLike 1 = .ok (.getfield 9, 3) := by decide +kernel
theorem dX2_isLike_4 : decode cX2_isLike 4 = .ok (.iload_n 2, 1) := by decide +kernel
theorem dX2_isLike_5 : decode cX2_isLike 5 = .ok (.baload, 1) := by decide +kernel
theorem dX2_isLike_6 : decode cX2_isLike 6 = .ok (.ifCond .eq 12, 3) := by decide +kernel
theorem dX2_isLike_9 : decode cX2_isLike 9 = .ok (.aload_n 1, 1) := by decide +kernel
theorem dX2_isLike_10 : decode cX2_isLike 10 = .ok (.getfield 9, 3) := by decide +kernel
theorem dX2_isLike_13 : decode cX2_isLike 13 = .ok (.iload_n 2, 1) := by decide +kernel
theorem dX2_isLike_14 : decode cX2_isLike 14 = .ok (.baload, 1) := by decide +kernel
theorem dX2_isLike_15 : decode cX2_isLike 15 = .ok (.ifCond .ne 24, 3) := by decide +kernel
theorem dX2_isLike_18 : decode cX2_isLike 18 = .ok (.aload_n 0, 1) := by decide +kernel
theorem dX2_isLike_19 : decode cX2_isLike 19 = .ok (.getfield 9, 3) := by decide +kernel
theorem dX2_isLike_22 : decode cX2_isLike 22 = .ok (.iload_n 2, 1) := by decide +kernel
theorem dX2_isLike_23 : decode cX2_isLike 23 = .ok (.baload, 1) := by decide +kernel
theorem dX2_isLike_24 : decode cX2_isLike 24 = .ok (.aload_n 1, 1) := by decide +kernel
theorem dX2_isLike_25 : decode cX2_isLike 25 = .ok (.getfield 9, 3) := by decide +kernel
theorem dX2_isLike_28 : decode cX2_isLike 28 = .ok (.iload_n 2, 1) := by decide +kernel
theorem dX2_isLike_29 : decode cX2_isLike 29 = .ok (.baload, 1) := by decide +kernel
theorem dX2_isLike_30 : decode cX2_isLike 30 = .ok (.if_icmp .ne 7, 3) := by decide +kernel
theorem dX2_isLike_33 : decode cX2_isLike 33 = .ok (.iconst 1, 1) := by decide +kernel
theorem dX2_isLike_34 : decode cX2_isLike 34 = .ok (.goto 4, 3) := by decide +kernel
theorem dX2_isLike_37 : decode cX2_isLike 37 = .ok (.iconst 0, 1) := by decide +kernel
theorem dX2_isLike_38 : decode cX2_isLike 38 = .ok (.ireturn, 1) := by decide +kernel
theorem dX2_isLike_39 : decode cX2_isLike 39 = .ok (.aload_n 0, 1) := by decide +kernel
theorem dX2_isLike_40 : decode cX2_isLike 40 = .ok (.getfield 15, 3) := by decide +kernel
theorem dX2_isLike_43 : decode cX2_isLike 43 = .ok (.iload_n 2, 1) := by decide +kernel
theorem dX2_isLike_44 : decode cX2_isLike 44 = .ok (.iaload, 1) := by decide +kernel
theorem dX2_isLike_45 : decode cX2_isLike 45 = .ok (.aload_n 1, 1) := by decide +kernel
theorem dX2_isLike_46 : decode cX2_isLike 46 = .ok (.getfield 15, 3) := by decide +kernel
theorem dX2_isLike_49 : decode cX2_isLike 49 = .ok (.iload_n 2, 1) := by decide +kernel
theorem dX2_isLike_50 : decode cX2_isLike 50 = .ok (.iaload, 1) := by decide +kernel
theorem dX2_isLike_51 : decode cX2_isLike 51 = .ok (.if_icmp .ne 37, 3) := by decide +kernel
theorem dX2_isLike_54 : decode cX2_isLike 54 = .ok (.aload_n 0, 1) := by decide +kernel
theorem dX2_isLike_55 : decode cX2_isLike 55 = .ok (.getfield 19, 3) := by decide +kernel
theorem dX2_isLike_58 : decode cX2_isLike 58 = .ok (.iload_n 2, 1) := by decide +kernel
theorem dX2_isLike_59 : decode cX2_isLike 59 = .ok (.iaload, 1) := by decide +kernel
theorem dX2_isLike_60 : decode cX2_isLike 60 = .ok (.aload_n 1, 1) := by decide +kernel
theorem dX2_isLike_61 : decode cX2_isLike 61 = .ok (.getfield 19, 3) := by decide +kernel
theorem dX2_isLike_64 : decode cX2_isLike 64 = .ok (.iload_n 2, 1) := by decide +kernel
theorem dX2_isLike_65 : decode cX2_isLike 65 = .ok (.iaload, 1) := by decide +kernel
theorem dX2_isLike_66 : decode cX2_isLike 66 = .ok (.if_icmp .ne 22, 3) := by decide +kernel
theorem dX2_isLike_69 : decode cX2_isLike 69 = .ok (.aload_n 0, 1) := by decide +kernel
theorem dX2_isLike_70 : decode cX2_isLike 70 = .ok (.getfield 22, 3) := by decide +kernel
theorem dX2_isLike_73 : decode cX2_isLike 73 = .ok (.iload_n 2, 1) := by decide +kernel
theorem dX2_isLike_74 : decode cX2_isLike 74 = .ok (.iaload, 1) := by decide +kernel
theorem dX2_isLike_75 : decode cX2_isLike 75 = .ok (.aload_n 1, 1) := by decide +kernel
theorem dX2_isLike_76 : decode cX2_isLike 76 = .ok (.getfield 22, 3) := by decide +kernel
theorem dX2_isLike_79 : decode cX2_isLike 79 = .ok (.iload_n 2, 1) := by decide +kernel
theorem dX2_isLike_80 : decode cX2_isLike 80 = .ok (.iaload, 1) := by decide +kernel
theorem dX2_isLike_81 : decode cX2_isLike 81 = .ok (.if_icmp .ne 7, 3) := by decide +kernel
theorem dX2_isLike_84 : decode cX2_isLike 84 = .ok (.iconst 1, 1) := by decide +kernel
theorem dX2_isLike_85 : decode cX2_isLike 85 = .ok (.goto 4, 3) := by decide +kernel
theorem dX2_isLike_88 : decode cX2_isLike 88 = .ok (.iconst 0, 1) := by decide +kernel
theorem dX2_isLike_89 : decode cX2_isLike 89 = .ok (.ireturn, 1) := by decide +kernel
theorem dX2_latestOfWork_0 : decode cX2_latestOfWork 0 = .ok (.iconst (-1), 1) := by decide +kernel
theorem dX2_latestOfWork_1 : decode cX2_latestOfWork 1 = .ok (.istore_n 2, 1) := by decide +kernel
theorem dX2_latestOfWork_2 : decode cX2_latestOfWork 2 = .ok (.iconst (-1), 1) := by decide +kernel
theorem dX2_latestOfWork_3 : decode cX2_latestOfWork 3 = .ok (.istore_n 3, 1) := by decide +kernel
theorem dX2_latestOfWork_4 : decode cX2_latestOfWork 4 = .ok (.iconst 0, 1) := by decide +kernel
theorem dX2_latestOfWork_5 : decode cX2_latestOfWork 5 = .ok (.istore 4, 2) := by decide +kernel
theorem dX2_latestOfWork_7 : decode cX2_latestOfWork 7 = .ok (.iload 4, 2) := by decide +kernel
theorem dX2_latestOfWork_9 : decode cX2_latestOfWork 9 = .ok (.bipush 20, 2) := by decide +kernel
theorem dX2_latestOfWork_11 : decode cX2_latestOfWork 11 = .ok (.if_icmp .ge 52, 3) := by decide +kernel
theorem dX2_latestOfWork_14 : decode cX2_latestOfWork 14 = .ok (.aload_n 0, 1) := by decide +kernel
theorem dX2_latestOfWork_15 : decode cX2_latestOfWork 15 = .ok (.getfield 9, 3) := by decide +kernel
theorem dX2_latestOfWork_18 : decode cX2_latestOfWork 18 = .ok (.iload 4, 2) := by decide +kernel
theorem dX2_latestOfWork_20 : decode cX2_latestOfWork 20 = .ok (.baload, 1) := by decide +kernel
theorem dX2_latestOfWork_21 : decode cX2_latestOfWork 21 = .ok (.ifCond .eq 36, 3) := by decide +kernel
theorem dX2_latestOfWork_24 : decode cX2_latestOfWork 24 = .ok (.aload_n 0, 1) := by decide +kernel
theorem dX2_latestOfWork_25 : decode cX2_latestOfWork 25 = .ok (.getfield 15, 3) := by decide +kernel
theorem dX2_latestOfWork_28 : decode cX2_latestOfWork 28 = .ok (.iload 4, 2) := by decide +kernel
theorem dX2_latestOfWork_30 : decode cX2_latestOfWork 30 = .ok (.iaload, 1) := by decide +kernel
theorem dX2_latestOfWork_31 : decode cX2_latestOfWork 31 = .ok (.iload_n 1, 1) := by decide +kernel
theorem dX2_latestOfWork_32 : decode cX2_latestOfWork 32 = .ok (.if_icmp .ne 25, 3) := by decide +kernel
theorem dX2_latestOfWork_35 : decode cX2_latestOfWork 35 = .ok (.aload_n 0, 1) := by decide +kernel
theorem dX2_latestOfWork_36 : decode cX2_latestOfWork 36 = .ok (.getfield 22, 3) := by decide +kernel
theorem dX2_latestOfWork_39 : decode cX2_latestOfWork 39 = .ok (.iload 4, 2) := by decide +kernel
theorem dX2_latestOfWork_41 : decode cX2_latestOfWork 41 = .ok (.iaload, 1) := by decide +kernel
theorem dX2_latestOfWork_42 : decode cX2_latestOfWork 42 = .ok (.iload_n 3, 1) := by decide +kernel
theorem dX2_latestOfWork_43 : decode cX2_latestOfWork 43 = .ok (.if_icmp .le 14, 3) := by decide +kernel
theorem dX2_latestOfWork_46 : decode cX2_latestOfWork 46 = .ok (.iload 4, 2) := by decide +kernel
theorem dX2_latestOfWork_48 : decode cX2_latestOfWork 48 = .ok (.istore_n 2, 1) := by decide +kernel
theorem dX2_latestOfWork_49 : decode cX2_latestOfWork 49 = .ok (.aload_n 0, 1) := by decide +kernel
theorem dX2_latestOfWork_50 : decode cX2_latestOfWork 50 = .ok (.getfield 22, 3) := by decide +kernel
theorem dX2_latestOfWork_53 : decode cX2_latestOfWork 53 = .ok (.iload 4, 2) := by decide +kernel
theorem dX2_latestOfWork_55 : decode cX2_latestOfWork 55 = .ok (.iaload, 1) := by decide +kernel
theorem dX2_latestOfWork_56 : decode cX2_latestOfWork 56 = .ok (.istore_n 3, 1) := by decide +kernel
theorem dX2_latestOfWork_57 : decode cX2_latestOfWork 57 = .ok (.iinc 4 1, 3) := by decide +kernel
theorem dX2_latestOfWork_60 : decode cX2_latestOfWork 60 = .ok (.goto (-53), 3) := by decide +kernel
theorem dX2_latestOfWork_63 : decode cX2_latestOfWork 63 = .ok (.iload_n 2, 1) := by decide +kernel
theorem dX2_latestOfWork_64 : decode cX2_latestOfWork 64 = .ok (.ireturn, 1) := by decide +kernel
set_option maxRecDepth 20000 in
theorem ggX3_init_X1_init : GoodIn wsX3_init wsX1_init := goodIn_r _ [10, 11, 2, 3, 12, 13, 14, 15, 16, 17, 18, 19, 20, 21, 22, 23, 24, 25, 26, 27, 28, 29, 30, 31, 32, 33, 34, 35, 36, 37, 38, 39, 40, 41, 42, 43, 44, 45, 46, 59, 60, 61, 62, 63, 64, 49, 50, 51, 52, 53, 54, 55, 56, 57, 58, 65, 66, 67, 68] (by decide +kernel) (by decide +kernel)
set_option maxRecDepth 20000 in
theorem gX3_init_X1_init_n15 : GoodIn wsX3_init (wsX1_init) := ggX3_init_X1_init
theorem dX3_init_0 : decode cX3_init 0 = .ok (.aload_n 0, 1) := by decide +kernel
theorem dX3_init_1 : decode cX3_init 1 = .ok (.invokespecial 1, 3) := by decide +kernel
theorem dX3_init_4 : decode cX3_init 4 = .ok (.aload_n 0, 1) := by decide +kernel
theorem dX3_init_5 : decode cX3_init 5 = .ok (.iconst 4, 1) := by decide +kernel
theorem dX3_init_6 : decode cX3_init 6 = .ok (.anewarray 9, 3) := by decide +kernel
theorem dX3_init_9 : decode cX3_init 9 = .ok (.putfield 11, 3) := by decide +kernel
theorem dX3_init_12 : decode cX3_init 12 = .ok (.iconst 0, 1) := by decide +kernel
theorem dX3_init_13 : decode cX3_init 13 = .ok (.istore_n 1, 1) := by decide +kernel
theorem dX3_init_14 : decode cX3_init 14 = .ok (.iload_n 1, 1) := by decide +kernel
theorem dX3_init_15 : decode cX3_init 15 = .ok (.iconst 4, 1) := by decide +kernel
theorem dX3_init_16 : decode cX3_init 16 = .ok (.if_icmp .ge 22, 3) := by decide +kernel
theorem dX3_init_19 : decode cX3_init 19 = .ok (.aload_n 0, 1) := by decide +kernel
theorem dX3_init_20 : decode cX3_init 20 = .ok (.getfield 11, 3) := by decide +kernel
theorem dX3_init_23 : decode cX3_init 23 = .ok (.iload_n 1, 1) := by decide +kernel
theorem dX3_init_24 : decode cX3_init 24 = .ok (.new 9, 3) := by decide +kernel
theorem dX3_init_27 : decode cX3_init 27 = .ok (.dup, 1) := by decide +kernel
theorem dX3_init_28 : decode cX3_init 28 = .ok (.invokespecial 15, 3) := by decide +kernel
theorem dX3_init_31 : decode cX3_init 31 = .ok (.aastore, 1) := by decide +kernel
theorem dX3_init_32 : decode cX3_init 32 = .ok (.iinc 1 1, 3) := by decide +kernel
theorem dX3_init_35 : decode cX3_init 35 = .ok (.goto (-21), 3) := by decide +kernel
theorem dX3_init_38 : decode cX3_init 38 = .ok (.aload_n 0, 1) := by decide +kernel
theorem dX3_init_39 : decode cX3_init 39 = .ok (.iconst 0, 1) := by decide +kernel
theorem dX3_init_40 : decode cX3_init 40 = .ok (.putfield 16, 3) := by decide +kernel
theorem dX3_init_43 : decode cX3_init 43 = .ok (.return_, 1) := by decide +kernel
set_option maxRecDepth 20000 in
theorem ggX3_setCatalogue_X3_harvestOf : GoodIn wsX3_setCatalogue wsX3_harvestOf := goodIn_ca (goodIn_r _ [9, 10, 11, 12, 40, 41] (by decide +kernel) (by decide +kernel)) (goodIn_sub (fun _ h => List.mem_cons_of_mem _ (List.mem_append_right _ h)) (by decide +kernel))
set_option maxRecDepth 20000 in
theorem gX3_setCatalogue_X3_harvestOf : GoodIn wsX3_setCatalogue (wsV RX3 20 RX3 yX3_harvestOf wsX3_harvestOf) := goodIn_app (goodIn_of _ (by decide +kernel)) ggX3_setCatalogue_X3_harvestOf
set_option maxRecDepth 20000 in
theorem ggX3_setCatalogue_X3_refuseOutside : GoodIn wsX3_setCatalogue wsX3_refuseOutside := goodIn_ca (goodIn_r _ [15, 10, 11] (by decide +kernel) (by decide +kernel)) (goodIn_sub (fun _ h => List.mem_cons_of_mem _ (List.mem_append_right _ h)) (by decide +kernel))
set_option maxRecDepth 20000 in
theorem gX3_setCatalogue_X3_refuseOutside : GoodIn wsX3_setCatalogue (va_wsS RX3 24 yX3_refuseOutside wsX3_refuseOutside) := goodIn_app (goodIn_of _ (by decide +kernel)) ggX3_setCatalogue_X3_refuseOutside
set_option maxRecDepth 20000 in
theorem ggX3_setCatalogue_X0_forgetToldDeletes : GoodIn wsX3_setCatalogue wsX0_forgetToldDeletes := goodIn_r _ [20, 21, 22, 23, 34, 35, 36, 37, 38, 39] (by decide +kernel) (by decide +kernel)
set_option maxRecDepth 20000 in
theorem gX3_setCatalogue_X0_forgetToldDeletes : GoodIn wsX3_setCatalogue (wsV RX3 40 RX0 yX0_forgetToldDeletes wsX0_forgetToldDeletes) := goodIn_app (goodIn_of _ (by decide +kernel)) ggX3_setCatalogue_X0_forgetToldDeletes
theorem dX3_setCatalogue_0 : decode cX3_setCatalogue 0 = .ok (.aload_n 0, 1) := by decide +kernel
theorem dX3_setCatalogue_1 : decode cX3_setCatalogue 1 = .ok (.iload_n 1, 1) := by decide +kernel
theorem dX3_setCatalogue_2 : decode cX3_setCatalogue 2 = .ok (.invokevirtual 20, 3) := by decide +kernel
theorem dX3_setCatalogue_5 : decode cX3_setCatalogue 5 = .ok (.astore 4, 2) := by decide +kernel
theorem dX3_setCatalogue_7 : decode cX3_setCatalogue 7 = .ok (.iload_n 2, 1) := by decide +kernel
theorem dX3_setCatalogue_8 : decode cX3_setCatalogue 8 = .ok (.iconst 1, 1) := by decide +kernel
theorem dX3_setCatalogue_9 : decode cX3_setCatalogue 9 = .ok (.bipush 30, 2) := by decide +kernel
theorem dX3_setCatalogue_11 : decode cX3_setCatalogue 11 = .ok (.invokestatic 24, 3) := by decide +kernel
theorem dX3_setCatalogue_14 : decode cX3_setCatalogue 14 = .ok (.iload_n 3, 1) := by decide +kernel
theorem dX3_setCatalogue_15 : decode cX3_setCatalogue 15 = .ok (.iconst 0, 1) := by decide +kernel
theorem dX3_setCatalogue_16 : decode cX3_setCatalogue 16 = .ok (.iconst 2, 1) := by decide +kernel
theorem dX3_setCatalogue_17 : decode cX3_setCatalogue 17 = .ok (.invokestatic 24, 3) := by decide +kernel
theorem dX3_setCatalogue_20 : decode cX3_setCatalogue 20 = .ok (.aload 4, 2) := by decide +kernel
theorem dX3_setCatalogue_22 : decode cX3_setCatalogue 22 = .ok (.getfield 28, 3) := by decide +kernel
theorem dX3_setCatalogue_25 : decode cX3_setCatalogue 25 = .ok (.getfield 32, 3) := by decide +kernel
theorem dX3_setCatalogue_28 : decode cX3_setCatalogue 28 = .ok (.istore 5, 2) := by decide +kernel
theorem dX3_setCatalogue_30 : decode cX3_setCatalogue 30 = .ok (.aload 4, 2) := by decide +kernel
theorem dX3_setCatalogue_32 : decode cX3_setCatalogue 32 = .ok (.getfield 28, 3) := by decide +kernel
theorem dX3_setCatalogue_35 : decode cX3_setCatalogue 35 = .ok (.iload_n 2, 1) := by decide +kernel
theorem dX3_setCatalogue_36 : decode cX3_setCatalogue 36 = .ok (.putfield 32, 3) := by decide +kernel
theorem dX3_setCatalogue_39 : decode cX3_setCatalogue 39 = .ok (.aload 4, 2) := by decide +kernel
theorem dX3_setCatalogue_41 : decode cX3_setCatalogue 41 = .ok (.getfield 28, 3) := by decide +kernel
theorem dX3_setCatalogue_44 : decode cX3_setCatalogue 44 = .ok (.iload_n 3, 1) := by decide +kernel
theorem dX3_setCatalogue_45 : decode cX3_setCatalogue 45 = .ok (.putfield 37, 3) := by decide +kernel
theorem dX3_setCatalogue_48 : decode cX3_setCatalogue 48 = .ok (.aload 4, 2) := by decide +kernel
theorem dX3_setCatalogue_50 : decode cX3_setCatalogue 50 = .ok (.getfield 28, 3) := by decide +kernel
theorem dX3_setCatalogue_53 : decode cX3_setCatalogue 53 = .ok (.aload_n 0, 1) := by decide +kernel
theorem dX3_setCatalogue_54 : decode cX3_setCatalogue 54 = .ok (.getfield 16, 3) := by decide +kernel
theorem dX3_setCatalogue_57 : decode cX3_setCatalogue 57 = .ok (.invokevirtual 40, 3) := by decide +kernel
theorem dX3_setCatalogue_60 : decode cX3_setCatalogue 60 = .ok (.iload 5, 2) := by decide +kernel
theorem dX3_setCatalogue_62 : decode cX3_setCatalogue 62 = .ok (.ireturn, 1) := by decide +kernel
set_option maxRecDepth 20000 in
theorem ggX3_put_X3_harvestOf : GoodIn wsX3_put wsX3_harvestOf := goodIn_ca (goodIn_r _ [7, 8, 9, 10, 48, 49] (by decide +kernel) (by decide +kernel)) (goodIn_sub (fun _ h => List.mem_cons_of_mem _ (List.mem_append_right _ h)) (by decide +kernel))
set_option maxRecDepth 20000 in
theorem gX3_put_X3_harvestOf : GoodIn wsX3_put (wsV RX3 20 RX3 yX3_harvestOf wsX3_harvestOf) := goodIn_app (goodIn_of _ (by decide +kernel)) ggX3_put_X3_harvestOf
set_option maxRecDepth 20000 in
theorem ggX3_put_X3_refuseRecord : GoodIn wsX3_put wsX3_refuseRecord := goodIn_ca (goodIn_r _ [13, 14, 15, 6, 16, 8, 9] (by decide +kernel) (by decide +kernel)) (goodIn_sub (fun _ h => List.mem_cons_of_mem _ (List.mem_append_right _ h)) (by decide +kernel))
set_option maxRecDepth 20000 in
theorem gX3_put_X3_refuseRecord : GoodIn wsX3_put (va_wsS RX3 44 yX3_refuseRecord wsX3_refuseRecord) := goodIn_app (goodIn_of _ (by decide +kernel)) ggX3_put_X3_refuseRecord
set_option maxRecDepth 20000 in
theorem ggX3_put_X3_refuseOutside : GoodIn wsX3_put wsX3_refuseOutside := goodIn_ca (goodIn_r _ [16, 8, 9] (by decide +kernel) (by decide +kernel)) (goodIn_sub (fun _ h => List.mem_cons_of_mem _ (List.mem_append_right _ h)) (by decide +kernel))
set_option maxRecDepth 20000 in
theorem gX3_put_X3_refuseOutside : GoodIn wsX3_put (va_wsS RX3 24 yX3_refuseOutside wsX3_refuseOutside) := goodIn_app (goodIn_of _ (by decide +kernel)) ggX3_put_X3_refuseOutside
set_option maxRecDepth 20000 in
theorem ggX3_put_X0_change : GoodIn wsX3_put wsX0_change := goodIn_r _ [21, 22, 23, 24, 25, 26, 20, 27, 28, 29, 30, 31, 32, 33, 34, 35, 36, 37, 50, 51, 52, 53, 54, 55, 56, 57, 58, 59] (by decide +kernel) (by decide +kernel)
set_option maxRecDepth 20000 in
theorem gX3_put_X0_change : GoodIn wsX3_put (wsV RX3 47 RX0 yX0_change wsX0_change) := goodIn_app (goodIn_of _ (by decide +kernel)) ggX3_put_X0_change
theorem dX3_put_0 : decode cX3_put 0 = .ok (.aload_n 0, 1) := by decide +kernel
theorem dX3_put_1 : decode cX3_put 1 = .ok (.iload_n 1, 1) := by decide +kernel
theorem dX3_put_2 : decode cX3_put 2 = .ok (.invokevirtual 20, 3) := by decide +kernel
theorem dX3_put_5 : decode cX3_put 5 = .ok (.astore 5, 2) := by decide +kernel
theorem dX3_put_7 : decode cX3_put 7 = .ok (.iload_n 2, 1) := by decide +kernel
theorem dX3_put_8 : decode cX3_put 8 = .ok (.invokestatic 44, 3) := by decide +kernel
theorem dX3_put_11 : decode cX3_put 11 = .ok (.iload_n 3, 1) := by decide +kernel
theorem dX3_put_12 : decode cX3_put 12 = .ok (.iconst 0, 1) := by decide +kernel
theorem dX3_put_13 : decode cX3_put 13 = .ok (.bipush 9, 2) := by decide +kernel
theorem dX3_put_15 : decode cX3_put 15 = .ok (.invokestatic 24, 3) := by decide +kernel
theorem dX3_put_18 : decode cX3_put 18 = .ok (.iload 4, 2) := by decide +kernel
theorem dX3_put_20 : decode cX3_put 20 = .ok (.iconst 0, 1) := by decide +kernel
theorem dX3_put_21 : decode cX3_put 21 = .ok (.sipush 1000, 3) := by decide +kernel
theorem dX3_put_24 : decode cX3_put 24 = .ok (.invokestatic 24, 3) := by decide +kernel
theorem dX3_put_27 : decode cX3_put 27 = .ok (.aload 5, 2) := by decide +kernel
theorem dX3_put_29 : decode cX3_put 29 = .ok (.getfield 28, 3) := by decide +kernel
theorem dX3_put_32 : decode cX3_put 32 = .ok (.iload_n 2, 1) := by decide +kernel
theorem dX3_put_33 : decode cX3_put 33 = .ok (.iload_n 3, 1) := by decide +kernel
theorem dX3_put_34 : decode cX3_put 34 = .ok (.iload 4, 2) := by decide +kernel
theorem dX3_put_36 : decode cX3_put 36 = .ok (.aload_n 0, 1) := by decide +kernel
theorem dX3_put_37 : decode cX3_put 37 = .ok (.getfield 16, 3) := by decide +kernel
theorem dX3_put_40 : decode cX3_put 40 = .ok (.invokevirtual 47, 3) := by decide +kernel
theorem dX3_put_43 : decode cX3_put 43 = .ok (.ireturn, 1) := by decide +kernel
set_option maxRecDepth 20000 in
theorem ggX3_remove_X3_harvestOf : GoodIn wsX3_remove wsX3_harvestOf := goodIn_ca (goodIn_r _ [11, 12, 13, 14, 62, 63] (by decide +kernel) (by decide +kernel)) (goodIn_sub (fun _ h => List.mem_cons_of_mem _ (List.mem_append_right _ h)) (by decide +kernel))
set_option maxRecDepth 20000 in
theorem gX3_remove_X3_harvestOf : GoodIn wsX3_remove (wsV RX3 20 RX3 yX3_harvestOf wsX3_harvestOf) := goodIn_app (goodIn_of _ (by decide +kernel)) ggX3_remove_X3_harvestOf
set_option maxRecDepth 20000 in
theorem ggX3_remove_X3_refuseRecord : GoodIn wsX3_remove wsX3_refuseRecord := goodIn_ca (goodIn_r _ [17, 18, 19, 10, 20, 12, 13] (by decide +kernel) (by decide +kernel)) (goodIn_sub (fun _ h => List.mem_cons_of_mem _ (List.mem_append_right _ h)) (by decide +kernel))
set_option maxRecDepth 20000 in
theorem gX3_remove_X3_refuseRecord : GoodIn wsX3_remove (va_wsS RX3 44 yX3_refuseRecord wsX3_refuseRecord) := goodIn_app (goodIn_of _ (by decide +kernel)) ggX3_remove_X3_refuseRecord
set_option maxRecDepth 20000 in
theorem ggX3_remove_X0_delete : GoodIn wsX3_remove wsX0_delete := goodIn_r _ [25, 26, 27, 28, 29, 30, 31, 32, 33, 34, 35, 36, 37, 38, 39, 24, 40, 41, 52, 53, 54, 55, 56, 57, 58, 59, 60, 61] (by decide +kernel) (by decide +kernel)
set_option maxRecDepth 20000 in
theorem gX3_remove_X0_delete : GoodIn wsX3_remove (wsV RX3 68 RX0 yX0_delete wsX0_delete) := goodIn_app (goodIn_of _ (by decide +kernel)) ggX3_remove_X0_delete
theorem dX3_remove_0 : decode cX3_remove 0 = .ok (.aload_n 0, 1) := by decide +kernel
theorem dX3_remove_1 : decode cX3_remove 1 = .ok (.iload_n 1, 1) := by decide +kernel
theorem dX3_remove_2 : decode cX3_remove 2 = .ok (.invokevirtual 20, 3) := by decide +kernel
theorem dX3_remove_5 : decode cX3_remove 5 = .ok (.astore_n 3, 1) := by decide +kernel
theorem dX3_remove_6 : decode cX3_remove 6 = .ok (.iload_n 2, 1) := by decide +kernel
theorem dX3_remove_7 : decode cX3_remove 7 = .ok (.invokestatic 44, 3) := by decide +kernel
theorem dX3_remove_10 : decode cX3_remove 10 = .ok (.aload_n 3, 1) := by decide +kernel
theorem dX3_remove_11 : decode cX3_remove 11 = .ok (.getfield 28, 3) := by decide +kernel
theorem dX3_remove_14 : decode cX3_remove 14 = .ok (.getfield 51, 3) := by decide +kernel
theorem dX3_remove_17 : decode cX3_remove 17 = .ok (.getfield 55, 3) := by decide +kernel
theorem dX3_remove_20 : decode cX3_remove 20 = .ok (.iload_n 2, 1) := by decide +kernel
theorem dX3_remove_21 : decode cX3_remove 21 = .ok (.baload, 1) := by decide +kernel
theorem dX3_remove_22 : decode cX3_remove 22 = .ok (.ifCond .ne 13, 3) := by decide +kernel
theorem dX3_remove_25 : decode cX3_remove 25 = .ok (.new 61, 3) := by decide +kernel
theorem dX3_remove_28 : decode cX3_remove 28 = .ok (.dup, 1) := by decide +kernel
theorem dX3_remove_29 : decode cX3_remove 29 = .ok (.ldc 63, 2) := by decide +kernel
theorem dX3_remove_31 : decode cX3_remove 31 = .ok (.invokespecial 65, 3) := by decide +kernel
theorem dX3_remove_34 : decode cX3_remove 34 = .ok (.athrow, 1) := by decide +kernel
theorem dX3_remove_35 : decode cX3_remove 35 = .ok (.aload_n 3, 1) := by decide +kernel
theorem dX3_remove_36 : decode cX3_remove 36 = .ok (.getfield 28, 3) := by decide +kernel
theorem dX3_remove_39 : decode cX3_remove 39 = .ok (.iload_n 2, 1) := by decide +kernel
theorem dX3_remove_40 : decode cX3_remove 40 = .ok (.aload_n 0, 1) := by decide +kernel
theorem dX3_remove_41 : decode cX3_remove 41 = .ok (.getfield 16, 3) := by decide +kernel
theorem dX3_remove_44 : decode cX3_remove 44 = .ok (.invokevirtual 68, 3) := by decide +kernel
theorem dX3_remove_47 : decode cX3_remove 47 = .ok (.ireturn, 1) := by decide +kernel
set_option maxRecDepth 20000 in
theorem ggX3_pass_X3_refuseOutside : GoodIn wsX3_pass wsX3_refuseOutside := goodIn_ca (goodIn_r _ [8, 9, 10] (by decide +kernel) (by decide +kernel)) (goodIn_sub (fun _ h => List.mem_cons_of_mem _ (List.mem_append_right _ h)) (by decide +kernel))
set_option maxRecDepth 20000 in
theorem gX3_pass_X3_refuseOutside : GoodIn wsX3_pass (va_wsS RX3 24 yX3_refuseOutside wsX3_refuseOutside) := goodIn_app (goodIn_of _ (by decide +kernel)) ggX3_pass_X3_refuseOutside
set_option maxRecDepth 20000 in
theorem ggX3_pass_X3_harvestOf : GoodIn wsX3_pass wsX3_harvestOf := goodIn_ca (goodIn_r _ [14, 9, 10, 15, 24, 25] (by decide +kernel) (by decide +kernel)) (goodIn_sub (fun _ h => List.mem_cons_of_mem _ (List.mem_append_right _ h)) (by decide +kernel))
set_option maxRecDepth 20000 in
theorem gX3_pass_X3_harvestOf : GoodIn wsX3_pass (wsV RX3 20 RX3 yX3_harvestOf wsX3_harvestOf) := goodIn_app (goodIn_of _ (by decide +kernel)) ggX3_pass_X3_harvestOf
set_option maxRecDepth 20000 in
theorem ggX3_pass_X0_forgetToldDeletes : GoodIn wsX3_pass wsX0_forgetToldDeletes := goodIn_r _ [20, 21, 22, 23, 36, 37, 38, 39, 40, 41] (by decide +kernel) (by decide +kernel)
set_option maxRecDepth 20000 in
theorem gX3_pass_X0_forgetToldDeletes : GoodIn wsX3_pass (wsV RX3 40 RX0 yX0_forgetToldDeletes wsX0_forgetToldDeletes) := goodIn_app (goodIn_of _ (by decide +kernel)) ggX3_pass_X0_forgetToldDeletes
theorem dX3_pass_0 : decode cX3_pass 0 = .ok (.iload_n 1, 1) := by decide +kernel
theorem dX3_pass_1 : decode cX3_pass 1 = .ok (.iconst 1, 1) := by decide +kernel
theorem dX3_pass_2 : decode cX3_pass 2 = .ok (.bipush 100, 2) := by decide +kernel
theorem dX3_pass_4 : decode cX3_pass 4 = .ok (.invokestatic 24, 3) := by decide +kernel
theorem dX3_pass_7 : decode cX3_pass 7 = .ok (.aload_n 0, 1) := by decide +kernel
theorem dX3_pass_8 : decode cX3_pass 8 = .ok (.getfield 16, 3) := by decide +kernel
theorem dX3_pass_11 : decode cX3_pass 11 = .ok (.iload_n 1, 1) := by decide +kernel
theorem dX3_pass_12 : decode cX3_pass 12 = .ok (.iadd, 1) := by decide +kernel
theorem dX3_pass_13 : decode cX3_pass 13 = .ok (.sipush 5000, 3) := by decide +kernel
theorem dX3_pass_16 : decode cX3_pass 16 = .ok (.if_icmp .le 13, 3) := by decide +kernel
theorem dX3_pass_19 : decode cX3_pass 19 = .ok (.new 61, 3) := by decide +kernel
theorem dX3_pass_22 : decode cX3_pass 22 = .ok (.dup, 1) := by decide +kernel
theorem dX3_pass_23 : decode cX3_pass 23 = .ok (.ldc 72, 2) := by decide +kernel
theorem dX3_pass_25 : decode cX3_pass 25 = .ok (.invokespecial 65, 3) := by decide +kernel
theorem dX3_pass_28 : decode cX3_pass 28 = .ok (.athrow, 1) := by decide +kernel
theorem dX3_pass_29 : decode cX3_pass 29 = .ok (.aload_n 0, 1) := by decide +kernel
theorem dX3_pass_30 : decode cX3_pass 30 = .ok (.dup, 1) := by decide +kernel
theorem dX3_pass_31 : decode cX3_pass 31 = .ok (.getfield 16, 3) := by decide +kernel
theorem dX3_pass_34 : decode cX3_pass 34 = .ok (.iload_n 1, 1) := by decide +kernel
theorem dX3_pass_35 : decode cX3_pass 35 = .ok (.iadd, 1) := by decide +kernel
theorem dX3_pass_36 : decode cX3_pass 36 = .ok (.putfield 16, 3) := by decide +kernel
theorem dX3_pass_39 : decode cX3_pass 39 = .ok (.iconst 0, 1) := by decide +kernel
theorem dX3_pass_40 : decode cX3_pass 40 = .ok (.istore_n 2, 1) := by decide +kernel
theorem dX3_pass_41 : decode cX3_pass 41 = .ok (.iload_n 2, 1) := by decide +kernel
theorem dX3_pass_42 : decode cX3_pass 42 = .ok (.iconst 4, 1) := by decide +kernel
theorem dX3_pass_43 : decode cX3_pass 43 = .ok (.if_icmp .ge 24, 3) := by decide +kernel
theorem dX3_pass_46 : decode cX3_pass 46 = .ok (.aload_n 0, 1) := by decide +kernel
theorem dX3_pass_47 : decode cX3_pass 47 = .ok (.iload_n 2, 1) := by decide +kernel
theorem dX3_pass_48 : decode cX3_pass 48 = .ok (.invokevirtual 20, 3) := by decide +kernel
theorem dX3_pass_51 : decode cX3_pass 51 = .ok (.getfield 28, 3) := by decide +kernel
theorem dX3_pass_54 : decode cX3_pass 54 = .ok (.aload_n 0, 1) := by decide +kernel
theorem dX3_pass_55 : decode cX3_pass 55 = .ok (.getfield 16, 3) := by decide +kernel
theorem dX3_pass_58 : decode cX3_pass 58 = .ok (.invokevirtual 40, 3) := by decide +kernel
theorem dX3_pass_61 : decode cX3_pass 61 = .ok (.iinc 2 1, 3) := by decide +kernel
theorem dX3_pass_64 : decode cX3_pass 64 = .ok (.goto (-23), 3) := by decide +kernel
theorem dX3_pass_67 : decode cX3_pass 67 = .ok (.aload_n 0, 1) := by decide +kernel
theorem dX3_pass_68 : decode cX3_pass 68 = .ok (.getfield 16, 3) := by decide +kernel
theorem dX3_pass_71 : decode cX3_pass 71 = .ok (.ireturn, 1) := by decide +kernel
theorem dX3_today_0 : decode cX3_today 0 = .ok (.aload_n 0, 1) := by decide +kernel
theorem dX3_today_1 : decode cX3_today 1 = .ok (.getfield 16, 3) := by decide +kernel
theorem dX3_today_4 : decode cX3_today 4 = .ok (.ireturn, 1) := by decide +kernel
set_option maxRecDepth 20000 in
theorem ggX3_far_X3_harvestOf : GoodIn wsX3_far wsX3_harvestOf := goodIn_ca (goodIn_r _ [7, 8, 9, 10, 33, 34] (by decide +kernel) (by decide +kernel)) (goodIn_sub (fun _ h => List.mem_cons_of_mem _ (List.mem_append_right _ h)) (by decide +kernel))
set_option maxRecDepth 20000 in
theorem gX3_far_X3_harvestOf : GoodIn wsX3_far (wsV RX3 20 RX3 yX3_harvestOf wsX3_harvestOf) := goodIn_app (goodIn_of _ (by decide +kernel)) ggX3_far_X3_harvestOf
set_option maxRecDepth 20000 in
theorem ggX3_far_X2_count : GoodIn wsX3_far wsX2_count := goodIn_r _ [15, 16, 35, 36, 37, 38] (by decide +kernel) (by decide +kernel)
set_option maxRecDepth 20000 in
theorem gX3_far_X2_count : GoodIn wsX3_far (wsV RX3 74 RX2 yX2_count wsX2_count) := goodIn_app (goodIn_of _ (by decide +kernel)) ggX3_far_X2_count
theorem dX3_far_0 : decode cX3_far 0 = .ok (.aload_n 0, 1) := by decide +kernel
theorem dX3_far_1 : decode cX3_far 1 = .ok (.iload_n 1, 1) := by decide +kernel
theorem dX3_far_2 : decode cX3_far 2 = .ok (.invokevirtual 20, 3) := by decide +kernel
theorem dX3_far_5 : decode cX3_far 5 = .ok (.getfield 28, 3) := by decide +kernel
theorem dX3_far_8 : decode cX3_far 8 = .ok (.getfield 51, 3) := by decide +kernel
theorem dX3_far_11 : decode cX3_far 11 = .ok (.invokevirtual 74, 3) := by decide +kernel
theorem dX3_far_14 : decode cX3_far 14 = .ok (.ireturn, 1) := by decide +kernel
set_option maxRecDepth 20000 in
theorem ggX3_told_X3_harvestOf : GoodIn wsX3_told wsX3_harvestOf := goodIn_ca (goodIn_r _ [6, 7, 8, 9, 26, 27] (by decide +kernel) (by decide +kernel)) (goodIn_sub (fun _ h => List.mem_cons_of_mem _ (List.mem_append_right _ h)) (by decide +kernel))
set_option maxRecDepth 20000 in
theorem gX3_told_X3_harvestOf : GoodIn wsX3_told (wsV RX3 20 RX3 yX3_harvestOf wsX3_harvestOf) := goodIn_app (goodIn_of _ (by decide +kernel)) ggX3_told_X3_harvestOf
set_option maxRecDepth 20000 in
theorem ggX3_told_X0_countTold : GoodIn wsX3_told wsX0_countTold := goodIn_r _ [14, 15, 28, 29, 30, 31, 32, 33] (by decide +kernel) (by decide +kernel)
set_option maxRecDepth 20000 in
theorem gX3_told_X0_countTold : GoodIn wsX3_told (wsV RX3 78 RX0 yX0_countTold wsX0_countTold) := goodIn_app (goodIn_of _ (by decide +kernel)) ggX3_told_X0_countTold
theorem dX3_told_0 : decode cX3_told 0 = .ok (.aload_n 0, 1) := by decide +kernel
theorem dX3_told_1 : decode cX3_told 1 = .ok (.iload_n 1, 1) := by decide +kernel
theorem dX3_told_2 : decode cX3_told 2 = .ok (.invokevirtual 20, 3) := by decide +kernel
theorem dX3_told_5 : decode cX3_told 5 = .ok (.getfield 28, 3) := by decide +kernel
theorem dX3_told_8 : decode cX3_told 8 = .ok (.invokevirtual 78, 3) := by decide +kernel
theorem dX3_told_11 : decode cX3_told 11 = .ok (.ireturn, 1) := by decide +kernel
set_option maxRecDepth 20000 in
theorem ggX3_open_X3_harvestOf : GoodIn wsX3_open wsX3_harvestOf := goodIn_ca (goodIn_r _ [6, 7, 8, 9, 27, 28] (by decide +kernel) (by decide +kernel)) (goodIn_sub (fun _ h => List.mem_cons_of_mem _ (List.mem_append_right _ h)) (by decide +kernel))
set_option maxRecDepth 20000 in
theorem gX3_open_X3_harvestOf : GoodIn wsX3_open (wsV RX3 20 RX3 yX3_harvestOf wsX3_harvestOf) := goodIn_app (goodIn_of _ (by decide +kernel)) ggX3_open_X3_harvestOf
set_option maxRecDepth 20000 in
theorem ggX3_open_X1_begin : GoodIn wsX3_open wsX1_begin := goodIn_r _ [14, 15, 16, 17, 18, 19, 20, 21, 29, 30, 31, 32, 33, 34, 35, 36, 37, 38] (by decide +kernel) (by decide +kernel)
set_option maxRecDepth 20000 in
theorem gX3_open_X1_begin : GoodIn wsX3_open (wsV RX3 81 RX1 yX1_begin wsX1_begin) := goodIn_app (goodIn_of _ (by decide +kernel)) ggX3_open_X1_begin
set_option maxRecDepth 20000 in
theorem ggX3_open_X1_firstStamp : GoodIn wsX3_open wsX1_firstStamp := goodIn_r _ [25, 16, 26, 29, 30, 31, 32, 33, 34, 35, 36, 37, 38] (by decide +kernel) (by decide +kernel)
set_option maxRecDepth 20000 in
theorem gX3_open_X1_firstStamp : GoodIn wsX3_open (wsV RX3 85 RX1 yX1_firstStamp wsX1_firstStamp) := goodIn_app (goodIn_of _ (by decide +kernel)) ggX3_open_X1_firstStamp
theorem dX3_open_0 : decode cX3_open 0 = .ok (.aload_n 0, 1) := by decide +kernel
theorem dX3_open_1 : decode cX3_open 1 = .ok (.iload_n 1, 1) := by decide +kernel
theorem dX3_open_2 : decode cX3_open 2 = .ok (.invokevirtual 20, 3) := by decide +kernel
theorem dX3_open_5 : decode cX3_open 5 = .ok (.astore_n 3, 1) := by decide +kernel
theorem dX3_open_6 : decode cX3_open 6 = .ok (.aload_n 3, 1) := by decide +kernel
theorem dX3_open_7 : decode cX3_open 7 = .ok (.iload_n 2, 1) := by decide +kernel
theorem dX3_open_8 : decode cX3_open 8 = .ok (.aload_n 0, 1) := by decide +kernel
theorem dX3_open_9 : decode cX3_open 9 = .ok (.getfield 16, 3) := by decide +kernel
theorem dX3_open_12 : decode cX3_open 12 = .ok (.invokevirtual 81, 3) := by decide +kernel
theorem dX3_open_15 : decode cX3_open 15 = .ok (.aload_n 3, 1) := by decide +kernel
theorem dX3_open_16 : decode cX3_open 16 = .ok (.invokevirtual 85, 3) := by decide +kernel
theorem dX3_open_19 : decode cX3_open 19 = .ok (.ireturn, 1) := by decide +kernel
set_option maxRecDepth 20000 in
theorem ggX3_read_X3_harvestOf : GoodIn wsX3_read wsX3_harvestOf := goodIn_ca (goodIn_r _ [9, 10, 11, 12, 100, 101] (by decide +kernel) (by decide +kernel)) (goodIn_sub (fun _ h => List.mem_cons_of_mem _ (List.mem_append_right _ h)) (by decide +kernel))
set_option maxRecDepth 20000 in
theorem gX3_read_X3_harvestOf : GoodIn wsX3_read (wsV RX3 20 RX3 yX3_harvestOf wsX3_harvestOf) := goodIn_app (goodIn_of _ (by decide +kernel)) ggX3_read_X3_harvestOf
set_option maxRecDepth 20000 in
theorem ggX3_read_X1_takePage : GoodIn wsX3_read wsX1_takePage := goodIn_r _ [17, 18, 19, 20, 21, 22, 16, 23, 24, 25, 26, 27, 28, 29, 30, 31, 32, 33, 34, 35, 36, 37, 38, 39, 40, 41, 42, 43, 44, 45, 46, 47, 48, 49, 50, 51, 52, 53, 54, 55, 56, 57, 58, 59, 60, 61, 62, 63, 64, 65, 66, 67, 68, 69, 70, 71, 72, 73, 74, 75, 76, 77, 78, 79, 80, 81, 82, 83, 84, 85, 86, 87, 88, 89, 90, 91, 92, 93, 94, 95, 96, 97, 98, 99, 102, 103, 104, 105, 106, 107, 108, 109, 110, 111] (by decide +kernel) (by decide +kernel)
set_option maxRecDepth 20000 in
theorem gX3_read_X1_takePage : GoodIn wsX3_read (wsV RX3 94 RX1 yX1_takePage wsX1_takePage) := goodIn_app (goodIn_of _ (by decide +kernel)) ggX3_read_X1_takePage
theorem dX3_read_0 : decode cX3_read 0 = .ok (.aload_n 0, 1) := by decide +kernel
theorem dX3_read_1 : decode cX3_read 1 = .ok (.iload_n 1, 1) := by decide +kernel
theorem dX3_read_2 : decode cX3_read 2 = .ok (.invokevirtual 20, 3) := by decide +kernel
theorem dX3_read_5 : decode cX3_read 5 = .ok (.astore_n 2, 1) := by decide +kernel
theorem dX3_read_6 : decode cX3_read 6 = .ok (.aload_n 2, 1) := by decide +kernel
theorem dX3_read_7 : decode cX3_read 7 = .ok (.getfield 88, 3) := by decide +kernel
theorem dX3_read_10 : decode cX3_read 10 = .ok (.ifCond .ne 13, 3) := by decide +kernel
theorem dX3_read_13 : decode cX3_read 13 = .ok (.new 61, 3) := by decide +kernel
theorem dX3_read_16 : decode cX3_read 16 = .ok (.dup, 1) := by decide +kernel
theorem dX3_read_17 : decode cX3_read 17 = .ok (.ldc 92, 2) := by decide +kernel
theorem dX3_read_19 : decode cX3_read 19 = .ok (.invokespecial 65, 3) := by decide +kernel
theorem dX3_read_22 : decode cX3_read 22 = .ok (.athrow, 1) := by decide +kernel
theorem dX3_read_23 : decode cX3_read 23 = .ok (.aload_n 2, 1) := by decide +kernel
theorem dX3_read_24 : decode cX3_read 24 = .ok (.aload_n 0, 1) := by decide +kernel
theorem dX3_read_25 : decode cX3_read 25 = .ok (.getfield 16, 3) := by decide +kernel
theorem dX3_read_28 : decode cX3_read 28 = .ok (.invokevirtual 94, 3) := by decide +kernel
theorem dX3_read_31 : decode cX3_read 31 = .ok (.ireturn, 1) := by decide +kernel
set_option maxRecDepth 20000 in
theorem ggX3_isOpen_X3_harvestOf : GoodIn wsX3_isOpen wsX3_harvestOf := goodIn_ca (goodIn_r _ [6, 7, 8, 9, 20, 21] (by decide +kernel) (by decide +kernel)) (goodIn_sub (fun _ h => List.mem_cons_of_mem _ (List.mem_append_right _ h)) (by decide +kernel))
set_option maxRecDepth 20000 in
theorem gX3_isOpen_X3_harvestOf : GoodIn wsX3_isOpen (wsV RX3 20 RX3 yX3_harvestOf wsX3_harvestOf) := goodIn_app (goodIn_of _ (by decide +kernel)) ggX3_isOpen_X3_harvestOf
theorem dX3_isOpen_0 : decode cX3_isOpen 0 = .ok (.aload_n 0, 1) := by decide +kernel
theorem dX3_isOpen_1 : decode cX3_isOpen 1 = .ok (.iload_n 1, 1) := by decide +kernel
theorem dX3_isOpen_2 : decode cX3_isOpen 2 = .ok (.invokevirtual 20, 3) := by decide +kernel
theorem dX3_isOpen_5 : decode cX3_isOpen 5 = .ok (.getfield 88, 3) := by decide +kernel
theorem dX3_isOpen_8 : decode cX3_isOpen 8 = .ok (.ireturn, 1) := by decide +kernel
set_option maxRecDepth 20000 in
theorem ggX3_mark_X3_harvestOf : GoodIn wsX3_mark wsX3_harvestOf := goodIn_ca (goodIn_r _ [6, 7, 8, 9, 20, 21] (by decide +kernel) (by decide +kernel)) (goodIn_sub (fun _ h => List.mem_cons_of_mem _ (List.mem_append_right _ h)) (by decide +kernel))
set_option maxRecDepth 20000 in
theorem gX3_mark_X3_harvestOf : GoodIn wsX3_mark (wsV RX3 20 RX3 yX3_harvestOf wsX3_harvestOf) := goodIn_app (goodIn_of _ (by decide +kernel)) ggX3_mark_X3_harvestOf
theorem dX3_mark_0 : decode cX3_mark 0 = .ok (.aload_n 0, 1) := by decide +kernel
theorem dX3_mark_1 : decode cX3_mark 1 = .ok (.iload_n 1, 1) := by decide +kernel
theorem dX3_mark_2 : decode cX3_mark 2 = .ok (.invokevirtual 20, 3) := by decide +kernel
theorem dX3_mark_5 : decode cX3_mark 5 = .ok (.getfield 98, 3) := by decide +kernel
theorem dX3_mark_8 : decode cX3_mark 8 = .ok (.ireturn, 1) := by decide +kernel
set_option maxRecDepth 20000 in
theorem ggX3_stored_X3_harvestOf : GoodIn wsX3_stored wsX3_harvestOf := goodIn_ca (goodIn_r _ [8, 9, 10, 11, 32, 33] (by decide +kernel) (by decide +kernel)) (goodIn_sub (fun _ h => List.mem_cons_of_mem _ (List.mem_append_right _ h)) (by decide +kernel))
set_option maxRecDepth 20000 in
theorem gX3_stored_X3_harvestOf : GoodIn wsX3_stored (wsV RX3 20 RX3 yX3_harvestOf wsX3_harvestOf) := goodIn_app (goodIn_of _ (by decide +kernel)) ggX3_stored_X3_harvestOf
set_option maxRecDepth 20000 in
theorem ggX3_stored_X3_refuseRecord : GoodIn wsX3_stored wsX3_refuseRecord := goodIn_ca (goodIn_r _ [14, 15, 16, 7, 17, 9, 10] (by decide +kernel) (by decide +kernel)) (goodIn_sub (fun _ h => List.mem_cons_of_mem _ (List.mem_append_right _ h)) (by decide +kernel))
set_option maxRecDepth 20000 in
theorem gX3_stored_X3_refuseRecord : GoodIn wsX3_stored (va_wsS RX3 44 yX3_refuseRecord wsX3_refuseRecord) := goodIn_app (goodIn_of _ (by decide +kernel)) ggX3_stored_X3_refuseRecord
theorem dX3_stored_0 : decode cX3_stored 0 = .ok (.aload_n 0, 1) := by decide +kernel
theorem dX3_stored_1 : decode cX3_stored 1 = .ok (.iload_n 1, 1) := by decide +kernel
theorem dX3_stored_2 : decode cX3_stored 2 = .ok (.invokevirtual 20, 3) := by decide +kernel
theorem dX3_stored_5 : decode cX3_stored 5 = .ok (.astore_n 3, 1) := by decide +kernel
theorem dX3_stored_6 : decode cX3_stored 6 = .ok (.iload_n 2, 1) := by decide +kernel
theorem dX3_stored_7 : decode cX3_stored 7 = .ok (.invokestatic 44, 3) := by decide +kernel
theorem dX3_stored_10 : decode cX3_stored 10 = .ok (.aload_n 3, 1) := by decide +kernel
theorem dX3_stored_11 : decode cX3_stored 11 = .ok (.getfield 101, 3) := by decide +kernel
theorem dX3_stored_14 : decode cX3_stored 14 = .ok (.getfield 55, 3) := by decide +kernel
theorem dX3_stored_17 : decode cX3_stored 17 = .ok (.iload_n 2, 1) := by decide +kernel
theorem dX3_stored_18 : decode cX3_stored 18 = .ok (.baload, 1) := by decide +kernel
theorem dX3_stored_19 : decode cX3_stored 19 = .ok (.ifCond .eq 15, 3) := by decide +kernel
theorem dX3_stored_22 : decode cX3_stored 22 = .ok (.aload_n 3, 1) := by decide +kernel
theorem dX3_stored_23 : decode cX3_stored 23 = .ok (.getfield 101, 3) := by decide +kernel
theorem dX3_stored_26 : decode cX3_stored 26 = .ok (.getfield 104, 3) := by decide +kernel
theorem dX3_stored_29 : decode cX3_stored 29 = .ok (.iload_n 2, 1) := by decide +kernel
theorem dX3_stored_30 : decode cX3_stored 30 = .ok (.iaload, 1) := by decide +kernel
theorem dX3_stored_31 : decode cX3_stored 31 = .ok (.goto 4, 3) := by decide +kernel
theorem dX3_stored_34 : decode cX3_stored 34 = .ok (.iconst (-1), 1) := by decide +kernel
theorem dX3_stored_35 : decode cX3_stored 35 = .ok (.ireturn, 1) := by decide +kernel
set_option maxRecDepth 20000 in
theorem ggX3_held_X3_harvestOf : GoodIn wsX3_held wsX3_harvestOf := goodIn_ca (goodIn_r _ [6, 7, 8, 9, 26, 27] (by decide +kernel) (by decide +kernel)) (goodIn_sub (fun _ h => List.mem_cons_of_mem _ (List.mem_append_right _ h)) (by decide +kernel))
set_option maxRecDepth 20000 in
theorem gX3_held_X3_harvestOf : GoodIn wsX3_held (wsV RX3 20 RX3 yX3_harvestOf wsX3_harvestOf) := goodIn_app (goodIn_of _ (by decide +kernel)) ggX3_held_X3_harvestOf
set_option maxRecDepth 20000 in
theorem ggX3_held_X2_count : GoodIn wsX3_held wsX2_count := goodIn_r _ [14, 15, 28, 29, 30, 31] (by decide +kernel) (by decide +kernel)
set_option maxRecDepth 20000 in
theorem gX3_held_X2_count : GoodIn wsX3_held (wsV RX3 74 RX2 yX2_count wsX2_count) := goodIn_app (goodIn_of _ (by decide +kernel)) ggX3_held_X2_count
theorem dX3_held_0 : decode cX3_held 0 = .ok (.aload_n 0, 1) := by decide +kernel
theorem dX3_held_1 : decode cX3_held 1 = .ok (.iload_n 1, 1) := by decide +kernel
theorem dX3_held_2 : decode cX3_held 2 = .ok (.invokevirtual 20, 3) := by decide +kernel
theorem dX3_held_5 : decode cX3_held 5 = .ok (.getfield 101, 3) := by decide +kernel
theorem dX3_held_8 : decode cX3_held 8 = .ok (.invokevirtual 74, 3) := by decide +kernel
theorem dX3_held_11 : decode cX3_held 11 = .ok (.ireturn, 1) := by decide +kernel
set_option maxRecDepth 20000 in
theorem ggX3_wrong_X3_harvestOf : GoodIn wsX3_wrong wsX3_harvestOf := goodIn_ca (goodIn_r _ [8, 9, 10, 11, 41, 42] (by decide +kernel) (by decide +kernel)) (goodIn_sub (fun _ h => List.mem_cons_of_mem _ (List.mem_append_right _ h)) (by decide +kernel))
set_option maxRecDepth 20000 in
theorem gX3_wrong_X3_harvestOf : GoodIn wsX3_wrong (wsV RX3 20 RX3 yX3_harvestOf wsX3_harvestOf) := goodIn_app (goodIn_of _ (by decide +kernel)) ggX3_wrong_X3_harvestOf
set_option maxRecDepth 20000 in
theorem ggX3_wrong_X2_countUnlike : GoodIn wsX3_wrong wsX2_countUnlike := goodIn_r _ [16, 17, 18, 19, 15, 20, 21, 22, 23, 24, 43, 44, 45, 46] (by decide +kernel) (by decide +kernel)
set_option maxRecDepth 20000 in
theorem gX3_wrong_X2_countUnlike : GoodIn wsX3_wrong (wsV RX3 108 RX2 yX2_countUnlike wsX2_countUnlike) := goodIn_app (goodIn_of _ (by decide +kernel)) ggX3_wrong_X2_countUnlike
theorem dX3_wrong_0 : decode cX3_wrong 0 = .ok (.aload_n 0, 1) := by decide +kernel
theorem dX3_wrong_1 : decode cX3_wrong 1 = .ok (.iload_n 1, 1) := by decide +kernel
theorem dX3_wrong_2 : decode cX3_wrong 2 = .ok (.invokevirtual 20, 3) := by decide +kernel
theorem dX3_wrong_5 : decode cX3_wrong 5 = .ok (.astore_n 2, 1) := by decide +kernel
theorem dX3_wrong_6 : decode cX3_wrong 6 = .ok (.aload_n 2, 1) := by decide +kernel
theorem dX3_wrong_7 : decode cX3_wrong 7 = .ok (.getfield 101, 3) := by decide +kernel
theorem dX3_wrong_10 : decode cX3_wrong 10 = .ok (.aload_n 2, 1) := by decide +kernel
theorem dX3_wrong_11 : decode cX3_wrong 11 = .ok (.getfield 28, 3) := by decide +kernel
theorem dX3_wrong_14 : decode cX3_wrong 14 = .ok (.getfield 51, 3) := by decide +kernel
theorem dX3_wrong_17 : decode cX3_wrong 17 = .ok (.invokevirtual 108, 3) := by decide +kernel
theorem dX3_wrong_20 : decode cX3_wrong 20 = .ok (.ireturn, 1) := by decide +kernel
set_option maxRecDepth 20000 in
theorem ggX3_copies_X3_refuseOutside : GoodIn wsX3_copies wsX3_refuseOutside := goodIn_ca (goodIn_r _ [5, 6, 7] (by decide +kernel) (by decide +kernel)) (goodIn_sub (fun _ h => List.mem_cons_of_mem _ (List.mem_append_right _ h)) (by decide +kernel))
set_option maxRecDepth 20000 in
theorem gX3_copies_X3_refuseOutside : GoodIn wsX3_copies (va_wsS RX3 24 yX3_refuseOutside wsX3_refuseOutside) := goodIn_app (goodIn_of _ (by decide +kernel)) ggX3_copies_X3_refuseOutside
set_option maxRecDepth 20000 in
theorem ggX3_copies_X3_harvestOf : GoodIn wsX3_copies wsX3_harvestOf := goodIn_ca (goodIn_r _ [11, 6, 7, 12, 30, 31] (by decide +kernel) (by decide +kernel)) (goodIn_sub (fun _ h => List.mem_cons_of_mem _ (List.mem_append_right _ h)) (by decide +kernel))
set_option maxRecDepth 20000 in
theorem gX3_copies_X3_harvestOf : GoodIn wsX3_copies (wsV RX3 20 RX3 yX3_harvestOf wsX3_harvestOf) := goodIn_app (goodIn_of _ (by decide +kernel)) ggX3_copies_X3_harvestOf
set_option maxRecDepth 20000 in
theorem ggX3_copies_X2_countOfWork : GoodIn wsX3_copies wsX2_countOfWork := goodIn_r _ [17, 18, 19, 32, 33, 34, 35] (by decide +kernel) (by decide +kernel)
set_option maxRecDepth 20000 in
theorem gX3_copies_X2_countOfWork : GoodIn wsX3_copies (wsV RX3 112 RX2 yX2_countOfWork wsX2_countOfWork) := goodIn_app (goodIn_of _ (by decide +kernel)) ggX3_copies_X2_countOfWork
theorem dX3_copies_0 : decode cX3_copies 0 = .ok (.iload_n 1, 1) := by decide +kernel
theorem dX3_copies_1 : decode cX3_copies 1 = .ok (.iconst 0, 1) := by decide +kernel
theorem dX3_copies_2 : decode cX3_copies 2 = .ok (.bipush 9, 2) := by decide +kernel
theorem dX3_copies_4 : decode cX3_copies 4 = .ok (.invokestatic 24, 3) := by decide +kernel
theorem dX3_copies_7 : decode cX3_copies 7 = .ok (.iconst 0, 1) := by decide +kernel
theorem dX3_copies_8 : decode cX3_copies 8 = .ok (.istore_n 2, 1) := by decide +kernel
theorem dX3_copies_9 : decode cX3_copies 9 = .ok (.iconst 0, 1) := by decide +kernel
theorem dX3_copies_10 : decode cX3_copies 10 = .ok (.istore_n 3, 1) := by decide +kernel
theorem dX3_copies_11 : decode cX3_copies 11 = .ok (.iload_n 3, 1) := by decide +kernel
theorem dX3_copies_12 : decode cX3_copies 12 = .ok (.iconst 4, 1) := by decide +kernel
theorem dX3_copies_13 : decode cX3_copies 13 = .ok (.if_icmp .ge 24, 3) := by decide +kernel
theorem dX3_copies_16 : decode cX3_copies 16 = .ok (.iload_n 2, 1) := by decide +kernel
theorem dX3_copies_17 : decode cX3_copies 17 = .ok (.aload_n 0, 1) := by decide +kernel
theorem dX3_copies_18 : decode cX3_copies 18 = .ok (.iload_n 3, 1) := by decide +kernel
theorem dX3_copies_19 : decode cX3_copies 19 = .ok (.invokevirtual 20, 3) := by decide +kernel
theorem dX3_copies_22 : decode cX3_copies 22 = .ok (.getfield 101, 3) := by decide +kernel
theorem dX3_copies_25 : decode cX3_copies 25 = .ok (.iload_n 1, 1) := by decide +kernel
theorem dX3_copies_26 : decode cX3_copies 26 = .ok (.invokevirtual 112, 3) := by decide +kernel
theorem dX3_copies_29 : decode cX3_copies 29 = .ok (.iadd, 1) := by decide +kernel
theorem dX3_copies_30 : decode cX3_copies 30 = .ok (.istore_n 2, 1) := by decide +kernel
theorem dX3_copies_31 : decode cX3_copies 31 = .ok (.iinc 3 1, 3) := by decide +kernel
theorem dX3_copies_34 : decode cX3_copies 34 = .ok (.goto (-23), 3) := by decide +kernel
theorem dX3_copies_37 : decode cX3_copies 37 = .ok (.iload_n 2, 1) := by decide +kernel
theorem dX3_copies_38 : decode cX3_copies 38 = .ok (.ireturn, 1) := by decide +kernel
set_option maxRecDepth 20000 in
theorem ggX3_best_X3_refuseOutside : GoodIn wsX3_best wsX3_refuseOutside := goodIn_ca (goodIn_r _ [6, 7, 8] (by decide +kernel) (by decide +kernel)) (goodIn_sub (fun _ h => List.mem_cons_of_mem _ (List.mem_append_right _ h)) (by decide +kernel))
set_option maxRecDepth 20000 in
theorem gX3_best_X3_refuseOutside : GoodIn wsX3_best (va_wsS RX3 24 yX3_refuseOutside wsX3_refuseOutside) := goodIn_app (goodIn_of _ (by decide +kernel)) ggX3_best_X3_refuseOutside
set_option maxRecDepth 20000 in
theorem ggX3_best_X3_harvestOf : GoodIn wsX3_best wsX3_harvestOf := goodIn_ca (goodIn_r _ [12, 7, 8, 13, 36, 37] (by decide +kernel) (by decide +kernel)) (goodIn_sub (fun _ h => List.mem_cons_of_mem _ (List.mem_append_right _ h)) (by decide +kernel))
set_option maxRecDepth 20000 in
theorem gX3_best_X3_harvestOf : GoodIn wsX3_best (wsV RX3 20 RX3 yX3_harvestOf wsX3_harvestOf) := goodIn_app (goodIn_of _ (by decide +kernel)) ggX3_best_X3_harvestOf
set_option maxRecDepth 20000 in
theorem ggX3_best_X2_latestOfWork : GoodIn wsX3_best wsX2_latestOfWork := goodIn_r _ [18, 19, 20, 21, 32, 33, 34, 35] (by decide +kernel) (by decide +kernel)
set_option maxRecDepth 20000 in
theorem gX3_best_X2_latestOfWork : GoodIn wsX3_best (wsV RX3 115 RX2 yX2_latestOfWork wsX2_latestOfWork) := goodIn_app (goodIn_of _ (by decide +kernel)) ggX3_best_X2_latestOfWork
theorem dX3_best_0 : decode cX3_best 0 = .ok (.iload_n 1, 1) := by decide +kernel
theorem dX3_best_1 : decode cX3_best 1 = .ok (.iconst 0, 1) := by decide +kernel
theorem dX3_best_2 : decode cX3_best 2 = .ok (.bipush 9, 2) := by decide +kernel
theorem dX3_best_4 : decode cX3_best 4 = .ok (.invokestatic 24, 3) := by decide +kernel
theorem dX3_best_7 : decode cX3_best 7 = .ok (.iconst (-1), 1) := by decide +kernel
theorem dX3_best_8 : decode cX3_best 8 = .ok (.istore_n 2, 1) := by decide +kernel
theorem dX3_best_9 : decode cX3_best 9 = .ok (.iconst (-1), 1) := by decide +kernel
theorem dX3_best_10 : decode cX3_best 10 = .ok (.istore_n 3, 1) := by decide +kernel
theorem dX3_best_11 : decode cX3_best 11 = .ok (.iconst 0, 1) := by decide +kernel
theorem dX3_best_12 : decode cX3_best 12 = .ok (.istore 4, 2) := by decide +kernel
theorem dX3_best_14 : decode cX3_best 14 = .ok (.iload 4, 2) := by decide +kernel
theorem dX3_best_16 : decode cX3_best 16 = .ok (.iconst 4, 1) := by decide +kernel
theorem dX3_best_17 : decode cX3_best 17 = .ok (.if_icmp .ge 64, 3) := by decide +kernel
theorem dX3_best_20 : decode cX3_best 20 = .ok (.aload_n 0, 1) := by decide +kernel
theorem dX3_best_21 : decode cX3_best 21 = .ok (.iload 4, 2) := by decide +kernel
theorem dX3_best_23 : decode cX3_best 23 = .ok (.invokevirtual 20, 3) := by decide +kernel
theorem dX3_best_26 : decode cX3_best 26 = .ok (.getfield 101, 3) := by decide +kernel
theorem dX3_best_29 : decode cX3_best 29 = .ok (.astore 5, 2) := by decide +kernel
theorem dX3_best_31 : decode cX3_best 31 = .ok (.aload 5, 2) := by decide +kernel
theorem dX3_best_33 : decode cX3_best 33 = .ok (.iload_n 1, 1) := by decide +kernel
theorem dX3_best_34 : decode cX3_best 34 = .ok (.invokevirtual 115, 3) := by decide +kernel
theorem dX3_best_37 : decode cX3_best 37 = .ok (.istore 6, 2) := by decide +kernel
theorem dX3_best_39 : decode cX3_best 39 = .ok (.iload 6, 2) := by decide +kernel
theorem dX3_best_41 : decode cX3_best 41 = .ok (.iconst (-1), 1) := by decide +kernel
theorem dX3_best_42 : decode cX3_best 42 = .ok (.if_icmp .eq 33, 3) := by decide +kernel
theorem dX3_best_45 : decode cX3_best 45 = .ok (.aload 5, 2) := by decide +kernel
theorem dX3_best_47 : decode cX3_best 47 = .ok (.getfield 118, 3) := by decide +kernel
theorem dX3_best_50 : decode cX3_best 50 = .ok (.iload 6, 2) := by decide +kernel
theorem dX3_best_52 : decode cX3_best 52 = .ok (.iaload, 1) := by decide +kernel
theorem dX3_best_53 : decode cX3_best 53 = .ok (.iload_n 3, 1) := by decide +kernel
theorem dX3_best_54 : decode cX3_best 54 = .ok (.if_icmp .le 21, 3) := by decide +kernel
theorem dX3_best_57 : decode cX3_best 57 = .ok (.bipush 100, 2) := by decide +kernel
theorem dX3_best_59 : decode cX3_best 59 = .ok (.iload 4, 2) := by decide +kernel
theorem dX3_best_61 : decode cX3_best 61 = .ok (.imul, 1) := by decide +kernel
theorem dX3_best_62 : decode cX3_best 62 = .ok (.iload 6, 2) := by decide +kernel
theorem dX3_best_64 : decode cX3_best 64 = .ok (.iadd, 1) := by decide +kernel
theorem dX3_best_65 : decode cX3_best 65 = .ok (.istore_n 2, 1) := by decide +kernel
theorem dX3_best_66 : decode cX3_best 66 = .ok (.aload 5, 2) := by decide +kernel
theorem dX3_best_68 : decode cX3_best 68 = .ok (.getfield 118, 3) := by decide +kernel
theorem dX3_best_71 : decode cX3_best 71 = .ok (.iload 6, 2) := by decide +kernel
theorem dX3_best_73 : decode cX3_best 73 = .ok (.iaload, 1) := by decide +kernel
theorem dX3_best_74 : decode cX3_best 74 = .ok (.istore_n 3, 1) := by decide +kernel
theorem dX3_best_75 : decode cX3_best 75 = .ok (.iinc 4 1, 3) := by decide +kernel
theorem dX3_best_78 : decode cX3_best 78 = .ok (.goto (-64), 3) := by decide +kernel
theorem dX3_best_81 : decode cX3_best 81 = .ok (.iload_n 2, 1) := by decide +kernel
theorem dX3_best_82 : decode cX3_best 82 = .ok (.ireturn, 1) := by decide +kernel
theorem dX3_harvestOf_0 : decode cX3_harvestOf 0 = .ok (.iload_n 1, 1) := by decide +kernel
theorem dX3_harvestOf_1 : decode cX3_harvestOf 1 = .ok (.ifCond .lt 17, 3) := by decide +kernel
theorem dX3_harvestOf_4 : decode cX3_harvestOf 4 = .ok (.iload_n 1, 1) := by decide +kernel
theorem dX3_harvestOf_5 : decode cX3_harvestOf 5 = .ok (.iconst 4, 1) := by decide +kernel
theorem dX3_harvestOf_6 : decode cX3_harvestOf 6 = .ok (.if_icmp .ge 12, 3) := by decide +kernel
theorem dX3_harvestOf_9 : decode cX3_harvestOf 9 = .ok (.aload_n 0, 1) := by decide +kernel
theorem dX3_harvestOf_10 : decode cX3_harvestOf 10 = .ok (.getfield 11, 3) := by decide +kernel
theorem dX3_harvestOf_13 : decode cX3_harvestOf 13 = .ok (.iload_n 1, 1) := by decide +kernel
theorem dX3_harvestOf_14 : decode cX3_harvestOf 14 = .ok (.aaload, 1) := by decide +kernel
theorem dX3_harvestOf_15 : decode cX3_harvestOf 15 = .ok (.goto 4, 3) := by decide +kernel
theorem dX3_harvestOf_18 : decode cX3_harvestOf 18 = .ok (.aconst_null, 1) := by decide +kernel
theorem dX3_harvestOf_19 : decode cX3_harvestOf 19 = .ok (.astore_n 2, 1) := by decide +kernel
theorem dX3_harvestOf_20 : decode cX3_harvestOf 20 = .ok (.aload_n 2, 1) := by decide +kernel
theorem dX3_harvestOf_21 : decode cX3_harvestOf 21 = .ok (.ifnonnull 13, 3) := by decide +kernel
theorem dX3_harvestOf_24 : decode cX3_harvestOf 24 = .ok (.new 121, 3) := by decide +kernel
theorem dX3_harvestOf_27 : decode cX3_harvestOf 27 = .ok (.dup, 1) := by decide +kernel
theorem dX3_harvestOf_28 : decode cX3_harvestOf 28 = .ok (.ldc 123, 2) := by decide +kernel
theorem dX3_harvestOf_30 : decode cX3_harvestOf 30 = .ok (.invokespecial 125, 3) := by decide +kernel
theorem dX3_harvestOf_33 : decode cX3_harvestOf 33 = .ok (.athrow, 1) := by decide +kernel
theorem dX3_harvestOf_34 : decode cX3_harvestOf 34 = .ok (.aload_n 2, 1) := by decide +kernel
theorem dX3_harvestOf_35 : decode cX3_harvestOf 35 = .ok (.areturn, 1) := by decide +kernel
set_option maxRecDepth 20000 in
theorem ggX3_refuseRecord_X3_refuseOutside : GoodIn wsX3_refuseRecord wsX3_refuseOutside := goodIn_ca (goodIn_r _ [4, 5, 6] (by decide +kernel) (by decide +kernel)) (goodIn_sub (fun _ h => List.mem_cons_of_mem _ (List.mem_append_right _ h)) (by decide +kernel))
set_option maxRecDepth 20000 in
theorem gX3_refuseRecord_X3_refuseOutside : GoodIn wsX3_refuseRecord (va_wsS RX3 24 yX3_refuseOutside wsX3_refuseOutside) := goodIn_app (goodIn_of _ (by decide +kernel)) ggX3_refuseRecord_X3_refuseOutside
theorem dX3_refuseRecord_0 : decode cX3_refuseRecord 0 = .ok (.iload_n 0, 1) := by decide +kernel
theorem dX3_refuseRecord_1 : decode cX3_refuseRecord 1 = .ok (.iconst 0, 1) := by decide +kernel
theorem dX3_refuseRecord_2 : decode cX3_refuseRecord 2 = .ok (.bipush 19, 2) := by decide +kernel
theorem dX3_refuseRecord_4 : decode cX3_refuseRecord 4 = .ok (.invokestatic 24, 3) := by decide +kernel
theorem dX3_refuseRecord_7 : decode cX3_refuseRecord 7 = .ok (.return_, 1) := by decide +kernel
theorem dX3_refuseOutside_0 : decode cX3_refuseOutside 0 = .ok (.iload_n 0, 1) := by decide +kernel
theorem dX3_refuseOutside_1 : decode cX3_refuseOutside 1 = .ok (.iload_n 1, 1) := by decide +kernel
theorem dX3_refuseOutside_2 : decode cX3_refuseOutside 2 = .ok (.if_icmp .lt 8, 3) := by decide +kernel
theorem dX3_refuseOutside_5 : decode cX3_refuseOutside 5 = .ok (.iload_n 0, 1) := by decide +kernel
theorem dX3_refuseOutside_6 : decode cX3_refuseOutside 6 = .ok (.iload_n 2, 1) := by decide +kernel
theorem dX3_refuseOutside_7 : decode cX3_refuseOutside 7 = .ok (.if_icmp .le 13, 3) := by decide +kernel
theorem dX3_refuseOutside_10 : decode cX3_refuseOutside 10 = .ok (.new 121, 3) := by decide +kernel
theorem dX3_refuseOutside_13 : decode cX3_refuseOutside 13 = .ok (.dup, 1) := by decide +kernel
theorem dX3_refuseOutside_14 : decode cX3_refuseOutside 14 = .ok (.ldc 126, 2) := by decide +kernel
theorem dX3_refuseOutside_16 : decode cX3_refuseOutside 16 = .ok (.invokespecial 125, 3) := by decide +kernel
theorem dX3_refuseOutside_19 : decode cX3_refuseOutside 19 = .ok (.athrow, 1) := by decide +kernel
theorem dX3_refuseOutside_20 : decode cX3_refuseOutside 20 = .ok (.return_, 1) := by decide +kernel
abbrev vwCl : List vw_C := [(RX0, TX0, 6), (RX1, TX1, 10), (RX2, TX2, 4), (RX3, TX3, 2)]
