/-! ===== BEGIN words of one list among another's, by their places ===== -/
theorem goodIn_r {big : List Cond} (ws : List Cond) (ps : List Nat) (hp : ws = ps.filterMap (fun i => big[i]?)) (h : ws.all goodWord = true) : GoodIn big ws := by
  intro w hw
  have h1 := List.all_eq_true.mp h w hw
  rw [hp] at hw
  obtain ⟨i, -, hi⟩ := List.mem_filterMap.mp hw
  have hm : w ∈ big := by first | exact List.mem_of_getElem? hi | exact List.getElem?_mem hi
  exact ⟨hm, good_of_word h1⟩
theorem goodIn_app {big a b : List Cond} (ha : GoodIn big a) (hb : GoodIn big b) : GoodIn big (a ++ b) := fun w h => (List.mem_append.mp h).elim (ha w) (hb w)
theorem goodIn_ca {big a b : List Cond} {c : Cond} (ha : GoodIn big (c :: a)) (hb : GoodIn big b) : GoodIn big (c :: (a ++ b)) := fun w h => (List.mem_cons.mp h).elim (fun e => ha w (List.mem_cons.mpr (Or.inl e))) (fun h => (List.mem_append.mp h).elim (fun h => ha w (List.mem_cons.mpr (Or.inr h))) (hb w))
theorem goodIn_sub {big ws : List Cond} (hm : ∀ w ∈ ws, w ∈ big) (h : ws.all goodWord = true) : GoodIn big ws := fun w hw => ⟨hm w hw, good_of_word (List.all_eq_true.mp h w hw)⟩
/-! ===== END ===== -/

/-! ===== BEGIN printed: names, fields, word lists, decode rows ===== -/
def RX0 : String := "NameNumbers"
def TX0 : u_T := fun k => match k with
  | 0 => ("NameNumbers", "draft", "[I", true)
  | 1 => ("NameNumbers", "draftLength", "I", false)
  | 2 => ("NameNumbers", "characters", "[I", true)
  | 3 => ("NameNumbers", "starts", "[I", true)
  | _ => ("NameNumbers", "rowCount", "I", false)
def tyX0 : Nat → FieldType := fun k => match k with
  | 0 => .array .int
  | 1 => .int
  | 2 => .array .int
  | 3 => .array .int
  | _ => .int
abbrev wsX00 : List Cond := u_ws RX0 TX0 5
theorem nmX0 : ∀ a, a < 5 → ∀ b, b < 5 → a ≠ b → (TX0 a).2.1 ≠ (TX0 b).2.1 := by decide +kernel
theorem tyX0_ok : ∀ k, k < 5 → parseFieldDescriptor (TX0 k).2.2.1 = some (tyX0 k) := by decide +kernel
abbrev cX0_init : ByteArray := prog_1_method_1_code
def yX0_init : MethodName := ⟨RX0, "<init>", "()V"⟩
abbrev cX0_write : ByteArray := prog_1_method_2_code
def yX0_write : MethodName := ⟨RX0, "write", "(II)I"⟩
abbrev cX0_cut : ByteArray := prog_1_method_3_code
def yX0_cut : MethodName := ⟨RX0, "cut", "(I)I"⟩
abbrev cX0_number : ByteArray := prog_1_method_4_code
def yX0_number : MethodName := ⟨RX0, "number", "()I"⟩
abbrev cX0_isKnown : ByteArray := prog_1_method_5_code
def yX0_isKnown : MethodName := ⟨RX0, "isKnown", "()Z"⟩
abbrev cX0_take : ByteArray := prog_1_method_6_code
def yX0_take : MethodName := ⟨RX0, "take", "(I)I"⟩
abbrev cX0_rows : ByteArray := prog_1_method_7_code
def yX0_rows : MethodName := ⟨RX0, "rows", "()I"⟩
abbrev cX0_length : ByteArray := prog_1_method_8_code
def yX0_length : MethodName := ⟨RX0, "length", "(I)I"⟩
abbrev cX0_sign : ByteArray := prog_1_method_9_code
def yX0_sign : MethodName := ⟨RX0, "sign", "(II)I"⟩
abbrev cX0_compare : ByteArray := prog_1_method_10_code
def yX0_compare : MethodName := ⟨RX0, "compare", "(II)I"⟩
abbrev cX0_colon : ByteArray := prog_1_method_11_code
def yX0_colon : MethodName := ⟨RX0, "colon", "(I)I"⟩
abbrev cX0_part : ByteArray := prog_1_method_12_code
def yX0_part : MethodName := ⟨RX0, "part", "(III)I"⟩
abbrev cX0_next : ByteArray := prog_1_method_13_code
def yX0_next : MethodName := ⟨RX0, "next", "(I)I"⟩
abbrev cX0_clear : ByteArray := prog_1_method_14_code
def yX0_clear : MethodName := ⟨RX0, "clear", "()I"⟩
abbrev cX0_isRow : ByteArray := prog_1_method_15_code
def yX0_isRow : MethodName := ⟨RX0, "isRow", "(I)Z"⟩
abbrev cX0_lengthOf : ByteArray := prog_1_method_16_code
def yX0_lengthOf : MethodName := ⟨RX0, "lengthOf", "(I)I"⟩
abbrev cX0_numberOf : ByteArray := prog_1_method_17_code
def yX0_numberOf : MethodName := ⟨RX0, "numberOf", "([III)I"⟩
abbrev cX0_find : ByteArray := prog_1_method_18_code
def yX0_find : MethodName := ⟨RX0, "find", "([III)I"⟩
abbrev cX0_isSame : ByteArray := prog_1_method_19_code
def yX0_isSame : MethodName := ⟨RX0, "isSame", "([III)Z"⟩
abbrev cX0_hasRoomFor : ByteArray := prog_1_method_20_code
def yX0_hasRoomFor : MethodName := ⟨RX0, "hasRoomFor", "(I)Z"⟩
abbrev cX0_add : ByteArray := prog_1_method_21_code
def yX0_add : MethodName := ⟨RX0, "add", "([III)I"⟩
abbrev cX0_order : ByteArray := prog_1_method_22_code
def yX0_order : MethodName := ⟨RX0, "order", "(II)I"⟩
abbrev cX0_findColon : ByteArray := prog_1_method_23_code
def yX0_findColon : MethodName := ⟨RX0, "findColon", "(II)I"⟩
abbrev cX0_isNameStart : ByteArray := prog_1_method_24_code
def yX0_isNameStart : MethodName := ⟨RX0, "isNameStart", "(I)Z"⟩
def RX1 : String := "NameNumbersModel"
def TX1 : u_T := fun k => match k with
  | 0 => ("NameNumbersModel", "signs", "[I", true)
  | 1 => ("NameNumbersModel", "used", "I", false)
  | 2 => ("NameNumbersModel", "starts", "[I", true)
  | 3 => ("NameNumbersModel", "lengths", "[I", true)
  | 4 => ("NameNumbersModel", "rows", "I", false)
  | 5 => ("NameNumbersModel", "draft", "[I", true)
  | 6 => ("NameNumbersModel", "written", "I", false)
  | 7 => ("NameNumbersModel", "sought", "[I", true)
  | _ => ("NameNumbersModel", "soughtLength", "I", false)
def tyX1 : Nat → FieldType := fun k => match k with
  | 0 => .array .int
  | 1 => .int
  | 2 => .array .int
  | 3 => .array .int
  | 4 => .int
  | 5 => .array .int
  | 6 => .int
  | 7 => .array .int
  | _ => .int
abbrev wsX10 : List Cond := u_ws RX1 TX1 9
theorem nmX1 : ∀ a, a < 9 → ∀ b, b < 9 → a ≠ b → (TX1 a).2.1 ≠ (TX1 b).2.1 := by decide +kernel
theorem tyX1_ok : ∀ k, k < 9 → parseFieldDescriptor (TX1 k).2.2.1 = some (tyX1 k) := by decide +kernel
abbrev cX1_init : ByteArray := prog_3_method_1_code
def yX1_init : MethodName := ⟨RX1, "<init>", "()V"⟩
abbrev cX1_write : ByteArray := prog_3_method_2_code
def yX1_write : MethodName := ⟨RX1, "write", "(II)I"⟩
abbrev cX1_cut : ByteArray := prog_3_method_3_code
def yX1_cut : MethodName := ⟨RX1, "cut", "(I)I"⟩
abbrev cX1_find : ByteArray := prog_3_method_4_code
def yX1_find : MethodName := ⟨RX1, "find", "()I"⟩
abbrev cX1_get : ByteArray := prog_3_method_5_code
def yX1_get : MethodName := ⟨RX1, "get", "()I"⟩
abbrev cX1_seekDraft : ByteArray := prog_3_method_6_code
def yX1_seekDraft : MethodName := ⟨RX1, "seekDraft", "()V"⟩
abbrev cX1_number : ByteArray := prog_3_method_7_code
def yX1_number : MethodName := ⟨RX1, "number", "()I"⟩
abbrev cX1_isKnown : ByteArray := prog_3_method_8_code
def yX1_isKnown : MethodName := ⟨RX1, "isKnown", "()Z"⟩
abbrev cX1_isRow : ByteArray := prog_3_method_9_code
def yX1_isRow : MethodName := ⟨RX1, "isRow", "(I)Z"⟩
abbrev cX1_take : ByteArray := prog_3_method_10_code
def yX1_take : MethodName := ⟨RX1, "take", "(I)I"⟩
abbrev cX1_rows : ByteArray := prog_3_method_11_code
def yX1_rows : MethodName := ⟨RX1, "rows", "()I"⟩
abbrev cX1_length : ByteArray := prog_3_method_12_code
def yX1_length : MethodName := ⟨RX1, "length", "(I)I"⟩
abbrev cX1_sign : ByteArray := prog_3_method_13_code
def yX1_sign : MethodName := ⟨RX1, "sign", "(II)I"⟩
abbrev cX1_order : ByteArray := prog_3_method_14_code
def yX1_order : MethodName := ⟨RX1, "order", "(II)I"⟩
abbrev cX1_compare : ByteArray := prog_3_method_15_code
def yX1_compare : MethodName := ⟨RX1, "compare", "(II)I"⟩
abbrev cX1_isIn : ByteArray := prog_3_method_16_code
def yX1_isIn : MethodName := ⟨RX1, "isIn", "(III)Z"⟩
abbrev cX1_isStart : ByteArray := prog_3_method_17_code
def yX1_isStart : MethodName := ⟨RX1, "isStart", "(I)Z"⟩
abbrev cX1_colon : ByteArray := prog_3_method_18_code
def yX1_colon : MethodName := ⟨RX1, "colon", "(I)I"⟩
def RJ9 : String := "java/lang/Math"
def TJ9 : u_T := fun k => match k with
  | _ => ("", "", "", false)
def tyJ9 : Nat → FieldType := fun k => match k with
  | _ => .int
abbrev wsJ90 : List Cond := u_ws RJ9 TJ9 0
theorem nmJ9 : ∀ a, a < 0 → ∀ b, b < 0 → a ≠ b → (TJ9 a).2.1 ≠ (TJ9 b).2.1 := by decide +kernel
theorem tyJ9_ok : ∀ k, k < 0 → parseFieldDescriptor (TJ9 k).2.2.1 = some (tyJ9 k) := by decide +kernel
abbrev cJ9_min_7cf53 : ByteArray := prog_4_method_69_code
def yJ9_min_7cf53 : MethodName := ⟨RJ9, "min", "(II)I"⟩
def RJ10 : String := "java/lang/System"
def TJ10 : u_T := fun k => match k with
  | _ => ("", "", "", false)
def tyJ10 : Nat → FieldType := fun k => match k with
  | _ => .int
abbrev wsJ100 : List Cond := u_ws RJ10 TJ10 0
theorem nmJ10 : ∀ a, a < 0 → ∀ b, b < 0 → a ≠ b → (TJ10 a).2.1 ≠ (TJ10 b).2.1 := by decide +kernel
theorem tyJ10_ok : ∀ k, k < 0 → parseFieldDescriptor (TJ10 k).2.2.1 = some (tyJ10 k) := by decide +kernel
def RL : String := "NameNumbersLaw"
abbrev cL_law : ByteArray := code
def yL_law : MethodName := ⟨RL, "law", "([I)Z"⟩
def wsX0_init : List Cond := .code yX0_init cX0_init 1 none :: ([.methodLink RX0 1 objectInit, .instanceMethod objectInit, .code objectInit ⟨#[0xb1]⟩ 1 none, .arrayClass .int, .fieldLink RX0 9 "NameNumbers" "draft" "[I", .fieldLink RX0 13 "NameNumbers" "draftLength" "I", .fieldLink RX0 17 "NameNumbers" "characters" "[I", .fieldLink RX0 20 "NameNumbers" "starts" "[I", .fieldLink RX0 23 "NameNumbers" "rowCount" "I"] ++ wsX00)
def wsX0_write : List Cond := .code yX0_write cX0_write 4 (some .int) :: ([.constant RX0 26 (1114111), .fieldLink RX0 13 "NameNumbers" "draftLength" "I", .fieldLink RX0 9 "NameNumbers" "draft" "[I"] ++ wsX00)
def wsX0_cut : List Cond := .code yX0_cut cX0_cut 3 (some .int) :: ([.fieldLink RX0 13 "NameNumbers" "draftLength" "I"] ++ wsX00)
def wsX0_lengthOf : List Cond := .code yX0_lengthOf cX0_lengthOf 2 (some .int) :: ([.fieldLink RX0 20 "NameNumbers" "starts" "[I"] ++ wsX00)
def wsX0_isSame : List Cond := .code yX0_isSame cX0_isSame 6 (some .boolean) :: ([.fieldLink RX0 17 "NameNumbers" "characters" "[I", .fieldLink RX0 20 "NameNumbers" "starts" "[I", .methodLink RX0 38 yX0_lengthOf, .instanceMethod yX0_lengthOf, .selects RX0 yX0_lengthOf yX0_lengthOf, .initialized RX0, .code yX0_lengthOf cX0_lengthOf 2 (some .int)] ++ wsX00)
def wsX0_find : List Cond := .code yX0_find cX0_find 5 (some .int) :: ([.fieldLink RX0 23 "NameNumbers" "rowCount" "I", .methodLink RX0 38 yX0_lengthOf, .instanceMethod yX0_lengthOf, .selects RX0 yX0_lengthOf yX0_lengthOf, .initialized RX0, .code yX0_lengthOf cX0_lengthOf 2 (some .int), .fieldLink RX0 20 "NameNumbers" "starts" "[I", .methodLink RX0 64 yX0_isSame, .instanceMethod yX0_isSame, .selects RX0 yX0_isSame yX0_isSame, .code yX0_isSame cX0_isSame 6 (some .boolean), .fieldLink RX0 17 "NameNumbers" "characters" "[I"] ++ wsX00)
def wsX0_hasRoomFor : List Cond := .code yX0_hasRoomFor cX0_hasRoomFor 2 (some .boolean) :: ([.fieldLink RX0 23 "NameNumbers" "rowCount" "I", .fieldLink RX0 20 "NameNumbers" "starts" "[I"] ++ wsX00)
def wsX0_add : List Cond := .code yX0_add cX0_add 5 (some .int) :: ([.fieldLink RX0 20 "NameNumbers" "starts" "[I", .fieldLink RX0 23 "NameNumbers" "rowCount" "I", .fieldLink RX0 17 "NameNumbers" "characters" "[I", .methodLink RX0 42 arraycopyName, .native arraycopyName, .static arraycopyName, .initialized "java/lang/System"] ++ wsX00)
def wsX0_numberOf_r1 : List Cond := [Cond.methodLink RX0 31 yX0_find, Cond.instanceMethod yX0_find, Cond.selects RX0 yX0_find yX0_find, Cond.initialized RX0, Cond.code yX0_find cX0_find 5 (some .int), Cond.fieldLink RX0 23 "NameNumbers" "rowCount" "I", Cond.methodLink RX0 38 yX0_lengthOf, Cond.instanceMethod yX0_lengthOf, Cond.selects RX0 yX0_lengthOf yX0_lengthOf, Cond.code yX0_lengthOf cX0_lengthOf 2 (some .int), Cond.fieldLink RX0 20 "NameNumbers" "starts" "[I", Cond.methodLink RX0 64 yX0_isSame, Cond.instanceMethod yX0_isSame, Cond.selects RX0 yX0_isSame yX0_isSame, Cond.code yX0_isSame cX0_isSame 6 (some .boolean), Cond.fieldLink RX0 17 "NameNumbers" "characters" "[I", Cond.methodLink RX0 58 yX0_hasRoomFor, Cond.instanceMethod yX0_hasRoomFor, Cond.selects RX0 yX0_hasRoomFor yX0_hasRoomFor, Cond.code yX0_hasRoomFor cX0_hasRoomFor 2 (some .boolean), Cond.methodLink RX0 61 yX0_add, Cond.instanceMethod yX0_add, Cond.selects RX0 yX0_add yX0_add, Cond.code yX0_add cX0_add 5 (some .int)]
def wsX0_numberOf_r2 : List Cond := [Cond.methodLink RX0 42 arraycopyName, Cond.native arraycopyName, Cond.static arraycopyName, Cond.initialized "java/lang/System"]
def wsX0_numberOf : List Cond := .code yX0_numberOf cX0_numberOf 5 (some .int) :: ((wsX0_numberOf_r1 ++ wsX0_numberOf_r2) ++ wsX00)
def wsX0_number_r1 : List Cond := [Cond.fieldLink RX0 9 "NameNumbers" "draft" "[I", Cond.fieldLink RX0 13 "NameNumbers" "draftLength" "I", Cond.methodLink RX0 27 yX0_numberOf, Cond.instanceMethod yX0_numberOf, Cond.selects RX0 yX0_numberOf yX0_numberOf, Cond.initialized RX0, Cond.code yX0_numberOf cX0_numberOf 5 (some .int), Cond.methodLink RX0 31 yX0_find, Cond.instanceMethod yX0_find, Cond.selects RX0 yX0_find yX0_find, Cond.code yX0_find cX0_find 5 (some .int), Cond.fieldLink RX0 23 "NameNumbers" "rowCount" "I", Cond.methodLink RX0 38 yX0_lengthOf, Cond.instanceMethod yX0_lengthOf, Cond.selects RX0 yX0_lengthOf yX0_lengthOf, Cond.code yX0_lengthOf cX0_lengthOf 2 (some .int), Cond.fieldLink RX0 20 "NameNumbers" "starts" "[I", Cond.methodLink RX0 64 yX0_isSame, Cond.instanceMethod yX0_isSame, Cond.selects RX0 yX0_isSame yX0_isSame, Cond.code yX0_isSame cX0_isSame 6 (some .boolean), Cond.fieldLink RX0 17 "NameNumbers" "characters" "[I", Cond.methodLink RX0 58 yX0_hasRoomFor, Cond.instanceMethod yX0_hasRoomFor]
def wsX0_number_r2 : List Cond := [Cond.selects RX0 yX0_hasRoomFor yX0_hasRoomFor, Cond.code yX0_hasRoomFor cX0_hasRoomFor 2 (some .boolean), Cond.methodLink RX0 61 yX0_add, Cond.instanceMethod yX0_add, Cond.selects RX0 yX0_add yX0_add, Cond.code yX0_add cX0_add 5 (some .int), Cond.methodLink RX0 42 arraycopyName, Cond.native arraycopyName, Cond.static arraycopyName, Cond.initialized "java/lang/System"]
def wsX0_number : List Cond := .code yX0_number cX0_number 2 (some .int) :: ((wsX0_number_r1 ++ wsX0_number_r2) ++ wsX00)
def wsX0_isKnown : List Cond := .code yX0_isKnown cX0_isKnown 1 (some .boolean) :: ([.fieldLink RX0 9 "NameNumbers" "draft" "[I", .fieldLink RX0 13 "NameNumbers" "draftLength" "I", .methodLink RX0 31 yX0_find, .instanceMethod yX0_find, .selects RX0 yX0_find yX0_find, .initialized RX0, .code yX0_find cX0_find 5 (some .int), .fieldLink RX0 23 "NameNumbers" "rowCount" "I", .methodLink RX0 38 yX0_lengthOf, .instanceMethod yX0_lengthOf, .selects RX0 yX0_lengthOf yX0_lengthOf, .code yX0_lengthOf cX0_lengthOf 2 (some .int), .fieldLink RX0 20 "NameNumbers" "starts" "[I", .methodLink RX0 64 yX0_isSame, .instanceMethod yX0_isSame, .selects RX0 yX0_isSame yX0_isSame, .code yX0_isSame cX0_isSame 6 (some .boolean), .fieldLink RX0 17 "NameNumbers" "characters" "[I"] ++ wsX00)
def wsX0_isRow : List Cond := .code yX0_isRow cX0_isRow 2 (some .boolean) :: ([.fieldLink RX0 23 "NameNumbers" "rowCount" "I"] ++ wsX00)
def wsX0_take : List Cond := .code yX0_take cX0_take 3 (some .int) :: ([.fieldLink RX0 13 "NameNumbers" "draftLength" "I", .fieldLink RX0 17 "NameNumbers" "characters" "[I", .fieldLink RX0 20 "NameNumbers" "starts" "[I", .fieldLink RX0 9 "NameNumbers" "draft" "[I", .methodLink RX0 42 arraycopyName, .native arraycopyName, .static arraycopyName, .initialized "java/lang/System", .methodLink RX0 34 yX0_isRow, .instanceMethod yX0_isRow, .selects RX0 yX0_isRow yX0_isRow, .initialized RX0, .code yX0_isRow cX0_isRow 2 (some .boolean), .fieldLink RX0 23 "NameNumbers" "rowCount" "I", .methodLink RX0 38 yX0_lengthOf, .instanceMethod yX0_lengthOf, .selects RX0 yX0_lengthOf yX0_lengthOf, .code yX0_lengthOf cX0_lengthOf 2 (some .int)] ++ wsX00)
def wsX0_rows : List Cond := .code yX0_rows cX0_rows 1 (some .int) :: ([.fieldLink RX0 23 "NameNumbers" "rowCount" "I"] ++ wsX00)
def wsX0_length : List Cond := .code yX0_length cX0_length 2 (some .int) :: ([.methodLink RX0 34 yX0_isRow, .instanceMethod yX0_isRow, .selects RX0 yX0_isRow yX0_isRow, .initialized RX0, .code yX0_isRow cX0_isRow 2 (some .boolean), .fieldLink RX0 23 "NameNumbers" "rowCount" "I", .methodLink RX0 38 yX0_lengthOf, .instanceMethod yX0_lengthOf, .selects RX0 yX0_lengthOf yX0_lengthOf, .code yX0_lengthOf cX0_lengthOf 2 (some .int), .fieldLink RX0 20 "NameNumbers" "starts" "[I"] ++ wsX00)
def wsX0_sign : List Cond := .code yX0_sign cX0_sign 3 (some .int) :: ([.fieldLink RX0 17 "NameNumbers" "characters" "[I", .fieldLink RX0 20 "NameNumbers" "starts" "[I", .methodLink RX0 34 yX0_isRow, .instanceMethod yX0_isRow, .selects RX0 yX0_isRow yX0_isRow, .initialized RX0, .code yX0_isRow cX0_isRow 2 (some .boolean), .fieldLink RX0 23 "NameNumbers" "rowCount" "I", .methodLink RX0 38 yX0_lengthOf, .instanceMethod yX0_lengthOf, .selects RX0 yX0_lengthOf yX0_lengthOf, .code yX0_lengthOf cX0_lengthOf 2 (some .int)] ++ wsX00)
def wsX0_order : List Cond := .code yX0_order cX0_order 7 (some .int) :: ([.methodLink RX0 68 Lib.Math.min.name, .static Lib.Math.min.name, .initialized "java/lang/Math", .code Lib.Math.min.name Lib.Math.min.code 2 (some .int), .fieldLink RX0 17 "NameNumbers" "characters" "[I", .fieldLink RX0 20 "NameNumbers" "starts" "[I", .methodLink RX0 38 yX0_lengthOf, .instanceMethod yX0_lengthOf, .selects RX0 yX0_lengthOf yX0_lengthOf, .initialized RX0, .code yX0_lengthOf cX0_lengthOf 2 (some .int)] ++ wsX00)
def wsX0_compare : List Cond := .code yX0_compare cX0_compare 3 (some .int) :: ([.methodLink RX0 34 yX0_isRow, .instanceMethod yX0_isRow, .selects RX0 yX0_isRow yX0_isRow, .initialized RX0, .code yX0_isRow cX0_isRow 2 (some .boolean), .fieldLink RX0 23 "NameNumbers" "rowCount" "I", .methodLink RX0 48 yX0_order, .instanceMethod yX0_order, .selects RX0 yX0_order yX0_order, .code yX0_order cX0_order 7 (some .int), .methodLink RX0 68 Lib.Math.min.name, .static Lib.Math.min.name, .initialized "java/lang/Math", .code Lib.Math.min.name Lib.Math.min.code 2 (some .int), .fieldLink RX0 17 "NameNumbers" "characters" "[I", .fieldLink RX0 20 "NameNumbers" "starts" "[I", .methodLink RX0 38 yX0_lengthOf, .instanceMethod yX0_lengthOf, .selects RX0 yX0_lengthOf yX0_lengthOf, .code yX0_lengthOf cX0_lengthOf 2 (some .int)] ++ wsX00)
def wsX0_findColon : List Cond := .code yX0_findColon cX0_findColon 4 (some .int) :: ([.fieldLink RX0 17 "NameNumbers" "characters" "[I"] ++ wsX00)
def wsX0_isNameStart : List Cond := .code yX0_isNameStart cX0_isNameStart 2 (some .boolean) :: ([.fieldLink RX0 73 "NameNumbers" "NAME_STARTS" "[I"])
def wsX0_colon : List Cond := .code yX0_colon cX0_colon 7 (some .int) :: ([.fieldLink RX0 20 "NameNumbers" "starts" "[I", .fieldLink RX0 17 "NameNumbers" "characters" "[I", .methodLink RX0 34 yX0_isRow, .instanceMethod yX0_isRow, .selects RX0 yX0_isRow yX0_isRow, .initialized RX0, .code yX0_isRow cX0_isRow 2 (some .boolean), .fieldLink RX0 23 "NameNumbers" "rowCount" "I", .methodLink RX0 52 yX0_findColon, .instanceMethod yX0_findColon, .selects RX0 yX0_findColon yX0_findColon, .code yX0_findColon cX0_findColon 4 (some .int), .methodLink RX0 55 yX0_isNameStart, .static yX0_isNameStart, .code yX0_isNameStart cX0_isNameStart 2 (some .boolean), .fieldLink RX0 73 "NameNumbers" "NAME_STARTS" "[I"] ++ wsX00)
def wsX0_part_r1 : List Cond := [Cond.fieldLink RX0 17 "NameNumbers" "characters" "[I", Cond.fieldLink RX0 20 "NameNumbers" "starts" "[I", Cond.methodLink RX0 34 yX0_isRow, Cond.instanceMethod yX0_isRow, Cond.selects RX0 yX0_isRow yX0_isRow, Cond.initialized RX0, Cond.code yX0_isRow cX0_isRow 2 (some .boolean), Cond.fieldLink RX0 23 "NameNumbers" "rowCount" "I", Cond.methodLink RX0 38 yX0_lengthOf, Cond.instanceMethod yX0_lengthOf, Cond.selects RX0 yX0_lengthOf yX0_lengthOf, Cond.code yX0_lengthOf cX0_lengthOf 2 (some .int), Cond.methodLink RX0 27 yX0_numberOf, Cond.instanceMethod yX0_numberOf, Cond.selects RX0 yX0_numberOf yX0_numberOf, Cond.code yX0_numberOf cX0_numberOf 5 (some .int), Cond.methodLink RX0 31 yX0_find, Cond.instanceMethod yX0_find, Cond.selects RX0 yX0_find yX0_find, Cond.code yX0_find cX0_find 5 (some .int), Cond.methodLink RX0 64 yX0_isSame, Cond.instanceMethod yX0_isSame, Cond.selects RX0 yX0_isSame yX0_isSame, Cond.code yX0_isSame cX0_isSame 6 (some .boolean)]
def wsX0_part_r2 : List Cond := [Cond.methodLink RX0 58 yX0_hasRoomFor, Cond.instanceMethod yX0_hasRoomFor, Cond.selects RX0 yX0_hasRoomFor yX0_hasRoomFor, Cond.code yX0_hasRoomFor cX0_hasRoomFor 2 (some .boolean), Cond.methodLink RX0 61 yX0_add, Cond.instanceMethod yX0_add, Cond.selects RX0 yX0_add yX0_add, Cond.code yX0_add cX0_add 5 (some .int), Cond.methodLink RX0 42 arraycopyName, Cond.native arraycopyName, Cond.static arraycopyName, Cond.initialized "java/lang/System"]
def wsX0_part : List Cond := .code yX0_part cX0_part 5 (some .int) :: ((wsX0_part_r1 ++ wsX0_part_r2) ++ wsX00)
def wsX0_next : List Cond := .code yX0_next cX0_next 4 (some .int) :: ([.fieldLink RX0 23 "NameNumbers" "rowCount" "I", .methodLink RX0 34 yX0_isRow, .instanceMethod yX0_isRow, .selects RX0 yX0_isRow yX0_isRow, .initialized RX0, .code yX0_isRow cX0_isRow 2 (some .boolean), .methodLink RX0 48 yX0_order, .instanceMethod yX0_order, .selects RX0 yX0_order yX0_order, .code yX0_order cX0_order 7 (some .int), .methodLink RX0 68 Lib.Math.min.name, .static Lib.Math.min.name, .initialized "java/lang/Math", .code Lib.Math.min.name Lib.Math.min.code 2 (some .int), .fieldLink RX0 17 "NameNumbers" "characters" "[I", .fieldLink RX0 20 "NameNumbers" "starts" "[I", .methodLink RX0 38 yX0_lengthOf, .instanceMethod yX0_lengthOf, .selects RX0 yX0_lengthOf yX0_lengthOf, .code yX0_lengthOf cX0_lengthOf 2 (some .int)] ++ wsX00)
def wsX0_clear : List Cond := .code yX0_clear cX0_clear 2 (some .int) :: ([.fieldLink RX0 23 "NameNumbers" "rowCount" "I"] ++ wsX00)
def wsX1_init : List Cond := .code yX1_init cX1_init 1 none :: ([.methodLink RX1 1 objectInit, .instanceMethod objectInit, .code objectInit ⟨#[0xb1]⟩ 1 none, .arrayClass .int, .fieldLink RX1 7 "NameNumbersModel" "signs" "[I", .fieldLink RX1 13 "NameNumbersModel" "starts" "[I", .fieldLink RX1 16 "NameNumbersModel" "lengths" "[I", .fieldLink RX1 19 "NameNumbersModel" "draft" "[I", .fieldLink RX1 22 "NameNumbersModel" "sought" "[I"] ++ wsX10)
def wsX1_write : List Cond := .code yX1_write cX1_write 4 (some .int) :: ([.constant RX1 25 (1114111), .fieldLink RX1 26 "NameNumbersModel" "written" "I", .fieldLink RX1 19 "NameNumbersModel" "draft" "[I"] ++ wsX10)
def wsX1_cut : List Cond := .code yX1_cut cX1_cut 3 (some .int) :: ([.fieldLink RX1 26 "NameNumbersModel" "written" "I"] ++ wsX10)
def wsX1_find : List Cond := .code yX1_find cX1_find 5 (some .int) :: ([.fieldLink RX1 30 "NameNumbersModel" "rows" "I", .fieldLink RX1 16 "NameNumbersModel" "lengths" "[I", .fieldLink RX1 33 "NameNumbersModel" "soughtLength" "I", .fieldLink RX1 7 "NameNumbersModel" "signs" "[I", .fieldLink RX1 13 "NameNumbersModel" "starts" "[I", .fieldLink RX1 22 "NameNumbersModel" "sought" "[I"] ++ wsX10)
def wsX1_get : List Cond := .code yX1_get cX1_get 3 (some .int) :: ([.fieldLink RX1 30 "NameNumbersModel" "rows" "I", .fieldLink RX1 40 "NameNumbersModel" "used" "I", .fieldLink RX1 33 "NameNumbersModel" "soughtLength" "I", .fieldLink RX1 13 "NameNumbersModel" "starts" "[I", .fieldLink RX1 16 "NameNumbersModel" "lengths" "[I", .fieldLink RX1 7 "NameNumbersModel" "signs" "[I", .fieldLink RX1 22 "NameNumbersModel" "sought" "[I", .methodLink RX1 36 yX1_find, .instanceMethod yX1_find, .selects RX1 yX1_find yX1_find, .initialized RX1, .code yX1_find cX1_find 5 (some .int)] ++ wsX10)
def wsX1_seekDraft : List Cond := .code yX1_seekDraft cX1_seekDraft 2 none :: ([.fieldLink RX1 26 "NameNumbersModel" "written" "I", .fieldLink RX1 33 "NameNumbersModel" "soughtLength" "I", .fieldLink RX1 22 "NameNumbersModel" "sought" "[I", .fieldLink RX1 19 "NameNumbersModel" "draft" "[I"] ++ wsX10)
def wsX1_number : List Cond := .code yX1_number cX1_number 2 (some .int) :: ([.fieldLink RX1 26 "NameNumbersModel" "written" "I", .methodLink RX1 43 yX1_seekDraft, .instanceMethod yX1_seekDraft, .selects RX1 yX1_seekDraft yX1_seekDraft, .initialized RX1, .code yX1_seekDraft cX1_seekDraft 2 none, .fieldLink RX1 33 "NameNumbersModel" "soughtLength" "I", .fieldLink RX1 22 "NameNumbersModel" "sought" "[I", .fieldLink RX1 19 "NameNumbersModel" "draft" "[I", .methodLink RX1 46 yX1_get, .instanceMethod yX1_get, .selects RX1 yX1_get yX1_get, .code yX1_get cX1_get 3 (some .int), .fieldLink RX1 30 "NameNumbersModel" "rows" "I", .fieldLink RX1 40 "NameNumbersModel" "used" "I", .fieldLink RX1 13 "NameNumbersModel" "starts" "[I", .fieldLink RX1 16 "NameNumbersModel" "lengths" "[I", .fieldLink RX1 7 "NameNumbersModel" "signs" "[I", .methodLink RX1 36 yX1_find, .instanceMethod yX1_find, .selects RX1 yX1_find yX1_find, .code yX1_find cX1_find 5 (some .int)] ++ wsX10)
def wsX1_isKnown : List Cond := .code yX1_isKnown cX1_isKnown 1 (some .boolean) :: ([.methodLink RX1 43 yX1_seekDraft, .instanceMethod yX1_seekDraft, .selects RX1 yX1_seekDraft yX1_seekDraft, .initialized RX1, .code yX1_seekDraft cX1_seekDraft 2 none, .fieldLink RX1 26 "NameNumbersModel" "written" "I", .fieldLink RX1 33 "NameNumbersModel" "soughtLength" "I", .fieldLink RX1 22 "NameNumbersModel" "sought" "[I", .fieldLink RX1 19 "NameNumbersModel" "draft" "[I", .methodLink RX1 36 yX1_find, .instanceMethod yX1_find, .selects RX1 yX1_find yX1_find, .code yX1_find cX1_find 5 (some .int), .fieldLink RX1 30 "NameNumbersModel" "rows" "I", .fieldLink RX1 16 "NameNumbersModel" "lengths" "[I", .fieldLink RX1 7 "NameNumbersModel" "signs" "[I", .fieldLink RX1 13 "NameNumbersModel" "starts" "[I"] ++ wsX10)
def wsX1_isRow : List Cond := .code yX1_isRow cX1_isRow 2 (some .boolean) :: ([.fieldLink RX1 30 "NameNumbersModel" "rows" "I"] ++ wsX10)
def wsX1_take : List Cond := .code yX1_take cX1_take 3 (some .int) :: ([.fieldLink RX1 26 "NameNumbersModel" "written" "I", .fieldLink RX1 16 "NameNumbersModel" "lengths" "[I", .fieldLink RX1 19 "NameNumbersModel" "draft" "[I", .fieldLink RX1 7 "NameNumbersModel" "signs" "[I", .fieldLink RX1 13 "NameNumbersModel" "starts" "[I", .methodLink RX1 49 yX1_isRow, .instanceMethod yX1_isRow, .selects RX1 yX1_isRow yX1_isRow, .initialized RX1, .code yX1_isRow cX1_isRow 2 (some .boolean), .fieldLink RX1 30 "NameNumbersModel" "rows" "I"] ++ wsX10)
def wsX1_rows : List Cond := .code yX1_rows cX1_rows 1 (some .int) :: ([.fieldLink RX1 30 "NameNumbersModel" "rows" "I"] ++ wsX10)
def wsX1_length : List Cond := .code yX1_length cX1_length 2 (some .int) :: ([.fieldLink RX1 16 "NameNumbersModel" "lengths" "[I", .methodLink RX1 49 yX1_isRow, .instanceMethod yX1_isRow, .selects RX1 yX1_isRow yX1_isRow, .initialized RX1, .code yX1_isRow cX1_isRow 2 (some .boolean), .fieldLink RX1 30 "NameNumbersModel" "rows" "I"] ++ wsX10)
def wsX1_sign : List Cond := .code yX1_sign cX1_sign 3 (some .int) :: ([.fieldLink RX1 16 "NameNumbersModel" "lengths" "[I", .fieldLink RX1 7 "NameNumbersModel" "signs" "[I", .fieldLink RX1 13 "NameNumbersModel" "starts" "[I", .methodLink RX1 49 yX1_isRow, .instanceMethod yX1_isRow, .selects RX1 yX1_isRow yX1_isRow, .initialized RX1, .code yX1_isRow cX1_isRow 2 (some .boolean), .fieldLink RX1 30 "NameNumbersModel" "rows" "I"] ++ wsX10)
def wsX1_order : List Cond := .code yX1_order cX1_order 6 (some .int) :: ([.fieldLink RX1 16 "NameNumbersModel" "lengths" "[I", .fieldLink RX1 7 "NameNumbersModel" "signs" "[I", .fieldLink RX1 13 "NameNumbersModel" "starts" "[I"] ++ wsX10)
def wsX1_compare : List Cond := .code yX1_compare cX1_compare 3 (some .int) :: ([.methodLink RX1 49 yX1_isRow, .instanceMethod yX1_isRow, .selects RX1 yX1_isRow yX1_isRow, .initialized RX1, .code yX1_isRow cX1_isRow 2 (some .boolean), .fieldLink RX1 30 "NameNumbersModel" "rows" "I", .methodLink RX1 53 yX1_order, .instanceMethod yX1_order, .selects RX1 yX1_order yX1_order, .code yX1_order cX1_order 6 (some .int), .fieldLink RX1 16 "NameNumbersModel" "lengths" "[I", .fieldLink RX1 7 "NameNumbersModel" "signs" "[I", .fieldLink RX1 13 "NameNumbersModel" "starts" "[I"] ++ wsX10)
def wsX1_isIn : List Cond := .code yX1_isIn cX1_isIn 3 (some .boolean) :: ([])
def wsX1_isStart : List Cond := .code yX1_isStart cX1_isStart 2 (some .boolean) :: ([.constant RX1 61 (55295), .constant RX1 62 (63744), .constant RX1 63 (64975), .constant RX1 64 (65008), .constant RX1 65 (65533), .constant RX1 66 (65536), .constant RX1 67 (983039), .methodLink RX1 57 yX1_isIn, .static yX1_isIn, .initialized RX1, .code yX1_isIn cX1_isIn 3 (some .boolean)])
def wsX1_colon : List Cond := .code yX1_colon cX1_colon 6 (some .int) :: ([.fieldLink RX1 16 "NameNumbersModel" "lengths" "[I", .fieldLink RX1 7 "NameNumbersModel" "signs" "[I", .fieldLink RX1 13 "NameNumbersModel" "starts" "[I", .methodLink RX1 49 yX1_isRow, .instanceMethod yX1_isRow, .selects RX1 yX1_isRow yX1_isRow, .initialized RX1, .code yX1_isRow cX1_isRow 2 (some .boolean), .fieldLink RX1 30 "NameNumbersModel" "rows" "I", .methodLink RX1 68 yX1_isStart, .static yX1_isStart, .code yX1_isStart cX1_isStart 2 (some .boolean), .constant RX1 61 (55295), .constant RX1 62 (63744), .constant RX1 63 (64975), .constant RX1 64 (65008), .constant RX1 65 (65533), .constant RX1 66 (65536), .constant RX1 67 (983039), .methodLink RX1 57 yX1_isIn, .static yX1_isIn, .code yX1_isIn cX1_isIn 3 (some .boolean)] ++ wsX10)
def wsJ9_min_7cf53 : List Cond := .code yJ9_min_7cf53 cJ9_min_7cf53 2 (some .int) :: ([])
def wsL_law_r1 : List Cond := [Cond.classLink RL 7 RX0, Cond.instantiable RX0 5, Cond.initialized RX0, Cond.classLink RL 10 RX1, Cond.instantiable RX1 9, Cond.initialized RX1, Cond.methodLink RL 9 yX0_init, Cond.instanceMethod yX0_init, Cond.code yX0_init cX0_init 1 none, Cond.methodLink RX0 1 objectInit, Cond.instanceMethod objectInit, Cond.code objectInit ⟨#[0xb1]⟩ 1 none, Cond.arrayClass .int, Cond.fieldLink RX0 9 "NameNumbers" "draft" "[I", Cond.fieldLink RX0 13 "NameNumbers" "draftLength" "I", Cond.fieldLink RX0 17 "NameNumbers" "characters" "[I", Cond.fieldLink RX0 20 "NameNumbers" "starts" "[I", Cond.fieldLink RX0 23 "NameNumbers" "rowCount" "I", Cond.methodLink RL 12 yX1_init, Cond.instanceMethod yX1_init, Cond.code yX1_init cX1_init 1 none, Cond.methodLink RX1 1 objectInit, Cond.fieldLink RX1 7 "NameNumbersModel" "signs" "[I", Cond.fieldLink RX1 13 "NameNumbersModel" "starts" "[I"]
def wsL_law_r2 : List Cond := [Cond.fieldLink RX1 16 "NameNumbersModel" "lengths" "[I", Cond.fieldLink RX1 19 "NameNumbersModel" "draft" "[I", Cond.fieldLink RX1 22 "NameNumbersModel" "sought" "[I", Cond.methodLink RL 13 yX0_write, Cond.instanceMethod yX0_write, Cond.selects RX0 yX0_write yX0_write, Cond.code yX0_write cX0_write 4 (some .int), Cond.constant RX0 26 (1114111), Cond.methodLink RL 17 yX1_write, Cond.instanceMethod yX1_write, Cond.selects RX1 yX1_write yX1_write, Cond.code yX1_write cX1_write 4 (some .int), Cond.constant RX1 25 (1114111), Cond.fieldLink RX1 26 "NameNumbersModel" "written" "I", Cond.methodLink RL 18 yX0_cut, Cond.instanceMethod yX0_cut, Cond.selects RX0 yX0_cut yX0_cut, Cond.code yX0_cut cX0_cut 3 (some .int), Cond.methodLink RL 22 yX1_cut, Cond.instanceMethod yX1_cut, Cond.selects RX1 yX1_cut yX1_cut, Cond.code yX1_cut cX1_cut 3 (some .int), Cond.methodLink RL 23 yX0_number, Cond.instanceMethod yX0_number]
def wsL_law_r3 : List Cond := [Cond.selects RX0 yX0_number yX0_number, Cond.code yX0_number cX0_number 2 (some .int), Cond.methodLink RX0 27 yX0_numberOf, Cond.instanceMethod yX0_numberOf, Cond.selects RX0 yX0_numberOf yX0_numberOf, Cond.code yX0_numberOf cX0_numberOf 5 (some .int), Cond.methodLink RX0 31 yX0_find, Cond.instanceMethod yX0_find, Cond.selects RX0 yX0_find yX0_find, Cond.code yX0_find cX0_find 5 (some .int), Cond.methodLink RX0 38 yX0_lengthOf, Cond.instanceMethod yX0_lengthOf, Cond.selects RX0 yX0_lengthOf yX0_lengthOf, Cond.code yX0_lengthOf cX0_lengthOf 2 (some .int), Cond.methodLink RX0 64 yX0_isSame, Cond.instanceMethod yX0_isSame, Cond.selects RX0 yX0_isSame yX0_isSame, Cond.code yX0_isSame cX0_isSame 6 (some .boolean), Cond.methodLink RX0 58 yX0_hasRoomFor, Cond.instanceMethod yX0_hasRoomFor, Cond.selects RX0 yX0_hasRoomFor yX0_hasRoomFor, Cond.code yX0_hasRoomFor cX0_hasRoomFor 2 (some .boolean), Cond.methodLink RX0 61 yX0_add, Cond.instanceMethod yX0_add]
def wsL_law_r4 : List Cond := [Cond.selects RX0 yX0_add yX0_add, Cond.code yX0_add cX0_add 5 (some .int), Cond.methodLink RX0 42 arraycopyName, Cond.native arraycopyName, Cond.static arraycopyName, Cond.initialized "java/lang/System", Cond.methodLink RL 27 yX1_number, Cond.instanceMethod yX1_number, Cond.selects RX1 yX1_number yX1_number, Cond.code yX1_number cX1_number 2 (some .int), Cond.methodLink RX1 43 yX1_seekDraft, Cond.instanceMethod yX1_seekDraft, Cond.selects RX1 yX1_seekDraft yX1_seekDraft, Cond.code yX1_seekDraft cX1_seekDraft 2 none, Cond.fieldLink RX1 33 "NameNumbersModel" "soughtLength" "I", Cond.methodLink RX1 46 yX1_get, Cond.instanceMethod yX1_get, Cond.selects RX1 yX1_get yX1_get, Cond.code yX1_get cX1_get 3 (some .int), Cond.fieldLink RX1 30 "NameNumbersModel" "rows" "I", Cond.fieldLink RX1 40 "NameNumbersModel" "used" "I", Cond.methodLink RX1 36 yX1_find, Cond.instanceMethod yX1_find, Cond.selects RX1 yX1_find yX1_find]
def wsL_law_r5 : List Cond := [Cond.code yX1_find cX1_find 5 (some .int), Cond.methodLink RL 28 yX0_isKnown, Cond.instanceMethod yX0_isKnown, Cond.selects RX0 yX0_isKnown yX0_isKnown, Cond.code yX0_isKnown cX0_isKnown 1 (some .boolean), Cond.methodLink RL 32 yX1_isKnown, Cond.instanceMethod yX1_isKnown, Cond.selects RX1 yX1_isKnown yX1_isKnown, Cond.code yX1_isKnown cX1_isKnown 1 (some .boolean), Cond.methodLink RL 33 yX0_take, Cond.instanceMethod yX0_take, Cond.selects RX0 yX0_take yX0_take, Cond.code yX0_take cX0_take 3 (some .int), Cond.methodLink RX0 34 yX0_isRow, Cond.instanceMethod yX0_isRow, Cond.selects RX0 yX0_isRow yX0_isRow, Cond.code yX0_isRow cX0_isRow 2 (some .boolean), Cond.methodLink RL 36 yX1_take, Cond.instanceMethod yX1_take, Cond.selects RX1 yX1_take yX1_take, Cond.code yX1_take cX1_take 3 (some .int), Cond.methodLink RX1 49 yX1_isRow, Cond.instanceMethod yX1_isRow, Cond.selects RX1 yX1_isRow yX1_isRow]
def wsL_law_r6 : List Cond := [Cond.code yX1_isRow cX1_isRow 2 (some .boolean), Cond.methodLink RL 37 yX0_rows, Cond.instanceMethod yX0_rows, Cond.selects RX0 yX0_rows yX0_rows, Cond.code yX0_rows cX0_rows 1 (some .int), Cond.methodLink RL 40 yX1_rows, Cond.instanceMethod yX1_rows, Cond.selects RX1 yX1_rows yX1_rows, Cond.code yX1_rows cX1_rows 1 (some .int), Cond.methodLink RL 41 yX0_length, Cond.instanceMethod yX0_length, Cond.selects RX0 yX0_length yX0_length, Cond.code yX0_length cX0_length 2 (some .int), Cond.methodLink RL 44 yX1_length, Cond.instanceMethod yX1_length, Cond.selects RX1 yX1_length yX1_length, Cond.code yX1_length cX1_length 2 (some .int), Cond.methodLink RL 45 yX0_sign, Cond.instanceMethod yX0_sign, Cond.selects RX0 yX0_sign yX0_sign, Cond.code yX0_sign cX0_sign 3 (some .int), Cond.methodLink RL 48 yX1_sign, Cond.instanceMethod yX1_sign, Cond.selects RX1 yX1_sign yX1_sign]
def wsL_law_r7 : List Cond := [Cond.code yX1_sign cX1_sign 3 (some .int), Cond.methodLink RL 49 yX0_compare, Cond.instanceMethod yX0_compare, Cond.selects RX0 yX0_compare yX0_compare, Cond.code yX0_compare cX0_compare 3 (some .int), Cond.methodLink RX0 48 yX0_order, Cond.instanceMethod yX0_order, Cond.selects RX0 yX0_order yX0_order, Cond.code yX0_order cX0_order 7 (some .int), Cond.methodLink RX0 68 Lib.Math.min.name, Cond.static Lib.Math.min.name, Cond.initialized "java/lang/Math", Cond.code Lib.Math.min.name Lib.Math.min.code 2 (some .int), Cond.methodLink RL 52 yX1_compare, Cond.instanceMethod yX1_compare, Cond.selects RX1 yX1_compare yX1_compare, Cond.code yX1_compare cX1_compare 3 (some .int), Cond.methodLink RX1 53 yX1_order, Cond.instanceMethod yX1_order, Cond.selects RX1 yX1_order yX1_order, Cond.code yX1_order cX1_order 6 (some .int), Cond.methodLink RL 53 yX0_colon, Cond.instanceMethod yX0_colon, Cond.selects RX0 yX0_colon yX0_colon]
def wsL_law_r8 : List Cond := [Cond.code yX0_colon cX0_colon 7 (some .int), Cond.methodLink RX0 52 yX0_findColon, Cond.instanceMethod yX0_findColon, Cond.selects RX0 yX0_findColon yX0_findColon, Cond.code yX0_findColon cX0_findColon 4 (some .int), Cond.methodLink RX0 55 yX0_isNameStart, Cond.static yX0_isNameStart, Cond.code yX0_isNameStart cX0_isNameStart 2 (some .boolean), Cond.fieldLink RX0 73 "NameNumbers" "NAME_STARTS" "[I", Cond.methodLink RL 56 yX1_colon, Cond.instanceMethod yX1_colon, Cond.selects RX1 yX1_colon yX1_colon, Cond.code yX1_colon cX1_colon 6 (some .int), Cond.methodLink RX1 68 yX1_isStart, Cond.static yX1_isStart, Cond.code yX1_isStart cX1_isStart 2 (some .boolean), Cond.constant RX1 61 (55295), Cond.constant RX1 62 (63744), Cond.constant RX1 63 (64975), Cond.constant RX1 64 (65008), Cond.constant RX1 65 (65533), Cond.constant RX1 66 (65536), Cond.constant RX1 67 (983039), Cond.methodLink RX1 57 yX1_isIn]
def wsL_law_r9 : List Cond := [Cond.static yX1_isIn, Cond.code yX1_isIn cX1_isIn 3 (some .boolean), Cond.methodLink RL 57 yX0_part, Cond.instanceMethod yX0_part, Cond.selects RX0 yX0_part yX0_part, Cond.code yX0_part cX0_part 5 (some .int), Cond.methodLink RL 62 yX0_next, Cond.instanceMethod yX0_next, Cond.selects RX0 yX0_next yX0_next, Cond.code yX0_next cX0_next 4 (some .int), Cond.methodLink RL 66 yX0_clear, Cond.instanceMethod yX0_clear, Cond.selects RX0 yX0_clear yX0_clear, Cond.code yX0_clear cX0_clear 2 (some .int)]
def wsL_law : List Cond := (wsL_law_r1 ++ (wsL_law_r2 ++ (wsL_law_r3 ++ (wsL_law_r4 ++ (wsL_law_r5 ++ (wsL_law_r6 ++ (wsL_law_r7 ++ (wsL_law_r8 ++ wsL_law_r9)))))))) ++ wsX00 ++ wsX10 ++ ([] : List Cond)
set_option maxRecDepth 20000 in
theorem wsL_law_in : ∀ w ∈ wsL_law, w ∈ lw_tbl := fun w h => (goodIn_p wsL_law [23, 26, 148, 47, 181, 52, 186, 56, 60, 64, 68, 72, 76, 80, 190, 194, 198, 202, 87, 206, 91, 95, 210, 214, 99, 218, 103, 222, 107, 226, 111, 115, 118, 230, 234, 122, 126, 129, 238, 241, 244, 135, 139, 143] (by decide +kernel) (by decide +kernel) w h).1
theorem inlX0 : ∀ w ∈ wsX00, w ∈ wsL_law := fun _ h => List.mem_append_left _ (List.mem_append_left _ (List.mem_append_right _ h))
theorem inX0 : ∀ w ∈ wsX00, w ∈ lw_tbl := fun w h => wsL_law_in w (inlX0 w h)
theorem inlX1 : ∀ w ∈ wsX10, w ∈ wsL_law := fun _ h => List.mem_append_left _ (List.mem_append_right _ h)
theorem inX1 : ∀ w ∈ wsX10, w ∈ lw_tbl := fun w h => wsL_law_in w (inlX1 w h)
theorem inJ9 : ∀ w ∈ wsJ90, w ∈ lw_tbl := by decide +kernel
theorem inJ10 : ∀ w ∈ wsJ100, w ∈ lw_tbl := by decide +kernel
theorem dX0_init_0 : decode cX0_init 0 = .ok (.aload_n 0, 1) := by decide +kernel
theorem dX0_init_1 : decode cX0_init 1 = .ok (.invokespecial 1, 3) := by decide +kernel
theorem dX0_init_4 : decode cX0_init 4 = .ok (.aload_n 0, 1) := by decide +kernel
theorem dX0_init_5 : decode cX0_init 5 = .ok (.sipush 2000, 3) := by decide +kernel
theorem dX0_init_8 : decode cX0_init 8 = .ok (.newarray .int, 2) := by decide +kernel
theorem dX0_init_10 : decode cX0_init 10 = .ok (.putfield 9, 3) := by decide +kernel
theorem dX0_init_13 : decode cX0_init 13 = .ok (.aload_n 0, 1) := by decide +kernel
theorem dX0_init_14 : decode cX0_init 14 = .ok (.iconst 0, 1) := by decide +kernel
theorem dX0_init_15 : decode cX0_init 15 = .ok (.putfield 13, 3) := by decide +kernel
theorem dX0_init_18 : decode cX0_init 18 = .ok (.aload_n 0, 1) := by decide +kernel
theorem dX0_init_19 : decode cX0_init 19 = .ok (.sipush 20000, 3) := by decide +kernel
theorem dX0_init_22 : decode cX0_init 22 = .ok (.newarray .int, 2) := by decide +kernel
theorem dX0_init_24 : decode cX0_init 24 = .ok (.putfield 17, 3) := by decide +kernel
theorem dX0_init_27 : decode cX0_init 27 = .ok (.aload_n 0, 1) := by decide +kernel
theorem dX0_init_28 : decode cX0_init 28 = .ok (.sipush 3002, 3) := by decide +kernel
theorem dX0_init_31 : decode cX0_init 31 = .ok (.newarray .int, 2) := by decide +kernel
theorem dX0_init_33 : decode cX0_init 33 = .ok (.putfield 20, 3) := by decide +kernel
theorem dX0_init_36 : decode cX0_init 36 = .ok (.aload_n 0, 1) := by decide +kernel
theorem dX0_init_37 : decode cX0_init 37 = .ok (.iconst 0, 1) := by decide +kernel
theorem dX0_init_38 : decode cX0_init 38 = .ok (.putfield 23, 3) := by decide +kernel
theorem dX0_init_41 : decode cX0_init 41 = .ok (.return_, 1) := by decide +kernel
theorem dX0_write_0 : decode cX0_write 0 = .ok (.iload_n 2, 1) := by decide +kernel
theorem dX0_write_1 : decode cX0_write 1 = .ok (.ifCond .lt 10, 3) := by decide +kernel
theorem dX0_write_4 : decode cX0_write 4 = .ok (.iload_n 2, 1) := by decide +kernel
theorem dX0_write_5 : decode cX0_write 5 = .ok (.sipush 500, 3) := by decide +kernel
theorem dX0_write_8 : decode cX0_write 8 = .ok (.if_icmp .le 5, 3) := by decide +kernel
theorem dX0_write_11 : decode cX0_write 11 = .ok (.iconst (-1), 1) := by decide +kernel
theorem dX0_write_12 : decode cX0_write 12 = .ok (.ireturn, 1) := by decide +kernel
theorem dX0_write_13 : decode cX0_write 13 = .ok (.iload_n 1, 1) := by decide +kernel
theorem dX0_write_14 : decode cX0_write 14 = .ok (.ifCond .lt 11, 3) := by decide +kernel
theorem dX0_write_17 : decode cX0_write 17 = .ok (.iload_n 1, 1) := by decide +kernel
theorem dX0_write_18 : decode cX0_write 18 = .ok (.ldc 26, 2) := by decide +kernel
theorem dX0_write_20 : decode cX0_write 20 = .ok (.iload_n 2, 1) := by decide +kernel
theorem dX0_write_21 : decode cX0_write 21 = .ok (.isub, 1) := by decide +kernel
theorem dX0_write_22 : decode cX0_write 22 = .ok (.if_icmp .le 5, 3) := by decide +kernel
theorem dX0_write_25 : decode cX0_write 25 = .ok (.iconst (-1), 1) := by decide +kernel
theorem dX0_write_26 : decode cX0_write 26 = .ok (.ireturn, 1) := by decide +kernel
theorem dX0_write_27 : decode cX0_write 27 = .ok (.iload_n 2, 1) := by decide +kernel
theorem dX0_write_28 : decode cX0_write 28 = .ok (.iconst 1, 1) := by decide +kernel
theorem dX0_write_29 : decode cX0_write 29 = .ok (.iadd, 1) := by decide +kernel
theorem dX0_write_30 : decode cX0_write 30 = .ok (.sipush 2000, 3) := by decide +kernel
theorem dX0_write_33 : decode cX0_write 33 = .ok (.aload_n 0, 1) := by decide +kernel
theorem dX0_write_34 : decode cX0_write 34 = .ok (.getfield 13, 3) := by decide +kernel
theorem dX0_write_37 : decode cX0_write 37 = .ok (.isub, 1) := by decide +kernel
theorem dX0_write_38 : decode cX0_write 38 = .ok (.if_icmp .le 5, 3) := by decide +kernel
theorem dX0_write_41 : decode cX0_write 41 = .ok (.iconst (-1), 1) := by decide +kernel
theorem dX0_write_42 : decode cX0_write 42 = .ok (.ireturn, 1) := by decide +kernel
theorem dX0_write_43 : decode cX0_write 43 = .ok (.iconst 0, 1) := by decide +kernel
theorem dX0_write_44 : decode cX0_write 44 = .ok (.istore_n 3, 1) := by decide +kernel
theorem dX0_write_45 : decode cX0_write 45 = .ok (.iload_n 3, 1) := by decide +kernel
theorem dX0_write_46 : decode cX0_write 46 = .ok (.iload_n 2, 1) := by decide +kernel
theorem dX0_write_47 : decode cX0_write 47 = .ok (.if_icmp .gt 23, 3) := by decide +kernel
theorem dX0_write_50 : decode cX0_write 50 = .ok (.aload_n 0, 1) := by decide +kernel
theorem dX0_write_51 : decode cX0_write 51 = .ok (.getfield 9, 3) := by decide +kernel
theorem dX0_write_54 : decode cX0_write 54 = .ok (.aload_n 0, 1) := by decide +kernel
theorem dX0_write_55 : decode cX0_write 55 = .ok (.getfield 13, 3) := by decide +kernel
theorem dX0_write_58 : decode cX0_write 58 = .ok (.iload_n 3, 1) := by decide +kernel
theorem dX0_write_59 : decode cX0_write 59 = .ok (.iadd, 1) := by decide +kernel
theorem dX0_write_60 : decode cX0_write 60 = .ok (.iload_n 1, 1) := by decide +kernel
theorem dX0_write_61 : decode cX0_write 61 = .ok (.iload_n 3, 1) := by decide +kernel
theorem dX0_write_62 : decode cX0_write 62 = .ok (.iadd, 1) := by decide +kernel
theorem dX0_write_63 : decode cX0_write 63 = .ok (.iastore, 1) := by decide +kernel
theorem dX0_write_64 : decode cX0_write 64 = .ok (.iinc 3 1, 3) := by decide +kernel
theorem dX0_write_67 : decode cX0_write 67 = .ok (.goto (-22), 3) := by decide +kernel
theorem dX0_write_70 : decode cX0_write 70 = .ok (.aload_n 0, 1) := by decide +kernel
theorem dX0_write_71 : decode cX0_write 71 = .ok (.dup, 1) := by decide +kernel
theorem dX0_write_72 : decode cX0_write 72 = .ok (.getfield 13, 3) := by decide +kernel
theorem dX0_write_75 : decode cX0_write 75 = .ok (.iload_n 2, 1) := by decide +kernel
theorem dX0_write_76 : decode cX0_write 76 = .ok (.iconst 1, 1) := by decide +kernel
theorem dX0_write_77 : decode cX0_write 77 = .ok (.iadd, 1) := by decide +kernel
theorem dX0_write_78 : decode cX0_write 78 = .ok (.iadd, 1) := by decide +kernel
theorem dX0_write_79 : decode cX0_write 79 = .ok (.putfield 13, 3) := by decide +kernel
theorem dX0_write_82 : decode cX0_write 82 = .ok (.aload_n 0, 1) := by decide +kernel
theorem dX0_write_83 : decode cX0_write 83 = .ok (.getfield 13, 3) := by decide +kernel
theorem dX0_write_86 : decode cX0_write 86 = .ok (.ireturn, 1) := by decide +kernel
theorem dX0_cut_0 : decode cX0_cut 0 = .ok (.iload_n 1, 1) := by decide +kernel
theorem dX0_cut_1 : decode cX0_cut 1 = .ok (.ifCond .lt 11, 3) := by decide +kernel
theorem dX0_cut_4 : decode cX0_cut 4 = .ok (.iload_n 1, 1) := by decide +kernel
theorem dX0_cut_5 : decode cX0_cut 5 = .ok (.aload_n 0, 1) := by decide +kernel
theorem dX0_cut_6 : decode cX0_cut 6 = .ok (.getfield 13, 3) := by decide +kernel
theorem dX0_cut_9 : decode cX0_cut 9 = .ok (.if_icmp .le 5, 3) := by decide +kernel
theorem dX0_cut_12 : decode cX0_cut 12 = .ok (.iconst (-1), 1) := by decide +kernel
theorem dX0_cut_13 : decode cX0_cut 13 = .ok (.ireturn, 1) := by decide +kernel
theorem dX0_cut_14 : decode cX0_cut 14 = .ok (.aload_n 0, 1) := by decide +kernel
theorem dX0_cut_15 : decode cX0_cut 15 = .ok (.getfield 13, 3) := by decide +kernel
theorem dX0_cut_18 : decode cX0_cut 18 = .ok (.istore_n 2, 1) := by decide +kernel
theorem dX0_cut_19 : decode cX0_cut 19 = .ok (.aload_n 0, 1) := by decide +kernel
theorem dX0_cut_20 : decode cX0_cut 20 = .ok (.iload_n 1, 1) := by decide +kernel
theorem dX0_cut_21 : decode cX0_cut 21 = .ok (.putfield 13, 3) := by decide +kernel
theorem dX0_cut_24 : decode cX0_cut 24 = .ok (.iload_n 2, 1) := by decide +kernel
theorem dX0_cut_25 : decode cX0_cut 25 = .ok (.ireturn, 1) := by decide +kernel
set_option maxRecDepth 20000 in
theorem ggX0_number_X0_numberOf : GoodIn wsX0_number wsX0_numberOf := goodIn_r _ [7, 8, 9, 10, 6, 11, 12, 13, 14, 15, 16, 17, 18, 19, 20, 21, 22, 23, 24, 25, 26, 27, 28, 29, 30, 31, 32, 33, 34, 35, 36, 37, 38, 39] (by decide +kernel) (by decide +kernel)
set_option maxRecDepth 20000 in
theorem gX0_number_X0_numberOf : GoodIn wsX0_number (wsV RX0 27 RX0 yX0_numberOf wsX0_numberOf) := goodIn_app (goodIn_of _ (by decide +kernel)) ggX0_number_X0_numberOf
theorem dX0_number_0 : decode cX0_number 0 = .ok (.aload_n 0, 1) := by decide +kernel
theorem dX0_number_1 : decode cX0_number 1 = .ok (.aload_n 0, 1) := by decide +kernel
theorem dX0_number_2 : decode cX0_number 2 = .ok (.getfield 9, 3) := by decide +kernel
theorem dX0_number_5 : decode cX0_number 5 = .ok (.iconst 0, 1) := by decide +kernel
theorem dX0_number_6 : decode cX0_number 6 = .ok (.aload_n 0, 1) := by decide +kernel
theorem dX0_number_7 : decode cX0_number 7 = .ok (.getfield 13, 3) := by decide +kernel
theorem dX0_number_10 : decode cX0_number 10 = .ok (.invokevirtual 27, 3) := by decide +kernel
theorem dX0_number_13 : decode cX0_number 13 = .ok (.istore_n 1, 1) := by decide +kernel
theorem dX0_number_14 : decode cX0_number 14 = .ok (.iload_n 1, 1) := by decide +kernel
theorem dX0_number_15 : decode cX0_number 15 = .ok (.iconst (-1), 1) := by decide +kernel
theorem dX0_number_16 : decode cX0_number 16 = .ok (.if_icmp .eq 8, 3) := by decide +kernel
theorem dX0_number_19 : decode cX0_number 19 = .ok (.aload_n 0, 1) := by decide +kernel
theorem dX0_number_20 : decode cX0_number 20 = .ok (.iconst 0, 1) := by decide +kernel
theorem dX0_number_21 : decode cX0_number 21 = .ok (.putfield 13, 3) := by decide +kernel
theorem dX0_number_24 : decode cX0_number 24 = .ok (.iload_n 1, 1) := by decide +kernel
theorem dX0_number_25 : decode cX0_number 25 = .ok (.ireturn, 1) := by decide +kernel
set_option maxRecDepth 20000 in
theorem ggX0_isKnown_X0_find : GoodIn wsX0_isKnown wsX0_find := goodIn_r _ [7, 8, 9, 10, 11, 6, 12, 13, 14, 15, 16, 17, 18, 19, 20, 21, 22, 23] (by decide +kernel) (by decide +kernel)
set_option maxRecDepth 20000 in
theorem gX0_isKnown_X0_find : GoodIn wsX0_isKnown (wsV RX0 31 RX0 yX0_find wsX0_find) := goodIn_app (goodIn_of _ (by decide +kernel)) ggX0_isKnown_X0_find
theorem dX0_isKnown_0 : decode cX0_isKnown 0 = .ok (.aload_n 0, 1) := by decide +kernel
theorem dX0_isKnown_1 : decode cX0_isKnown 1 = .ok (.aload_n 0, 1) := by decide +kernel
theorem dX0_isKnown_2 : decode cX0_isKnown 2 = .ok (.getfield 9, 3) := by decide +kernel
theorem dX0_isKnown_5 : decode cX0_isKnown 5 = .ok (.iconst 0, 1) := by decide +kernel
theorem dX0_isKnown_6 : decode cX0_isKnown 6 = .ok (.aload_n 0, 1) := by decide +kernel
theorem dX0_isKnown_7 : decode cX0_isKnown 7 = .ok (.getfield 13, 3) := by decide +kernel
theorem dX0_isKnown_10 : decode cX0_isKnown 10 = .ok (.invokevirtual 31, 3) := by decide +kernel
theorem dX0_isKnown_13 : decode cX0_isKnown 13 = .ok (.iconst (-1), 1) := by decide +kernel
theorem dX0_isKnown_14 : decode cX0_isKnown 14 = .ok (.if_icmp .eq 7, 3) := by decide +kernel
theorem dX0_isKnown_17 : decode cX0_isKnown 17 = .ok (.iconst 1, 1) := by decide +kernel
theorem dX0_isKnown_18 : decode cX0_isKnown 18 = .ok (.goto 4, 3) := by decide +kernel
theorem dX0_isKnown_21 : decode cX0_isKnown 21 = .ok (.iconst 0, 1) := by decide +kernel
theorem dX0_isKnown_22 : decode cX0_isKnown 22 = .ok (.ireturn, 1) := by decide +kernel
set_option maxRecDepth 20000 in
theorem ggX0_take_X0_isRow : GoodIn wsX0_take wsX0_isRow := goodIn_r _ [13, 14, 19, 20, 21, 22, 23] (by decide +kernel) (by decide +kernel)
set_option maxRecDepth 20000 in
theorem gX0_take_X0_isRow : GoodIn wsX0_take (wsV RX0 34 RX0 yX0_isRow wsX0_isRow) := goodIn_app (goodIn_of _ (by decide +kernel)) ggX0_take_X0_isRow
set_option maxRecDepth 20000 in
theorem ggX0_take_X0_lengthOf : GoodIn wsX0_take wsX0_lengthOf := goodIn_r _ [18, 3, 19, 20, 21, 22, 23] (by decide +kernel) (by decide +kernel)
set_option maxRecDepth 20000 in
theorem gX0_take_X0_lengthOf : GoodIn wsX0_take (wsV RX0 38 RX0 yX0_lengthOf wsX0_lengthOf) := goodIn_app (goodIn_of _ (by decide +kernel)) ggX0_take_X0_lengthOf
theorem dX0_take_0 : decode cX0_take 0 = .ok (.aload_n 0, 1) := by decide +kernel
theorem dX0_take_1 : decode cX0_take 1 = .ok (.iload_n 1, 1) := by decide +kernel
theorem dX0_take_2 : decode cX0_take 2 = .ok (.invokevirtual 34, 3) := by decide +kernel
theorem dX0_take_5 : decode cX0_take 5 = .ok (.ifCond .ne 5, 3) := by decide +kernel
theorem dX0_take_8 : decode cX0_take 8 = .ok (.iconst (-1), 1) := by decide +kernel
theorem dX0_take_9 : decode cX0_take 9 = .ok (.ireturn, 1) := by decide +kernel
theorem dX0_take_10 : decode cX0_take 10 = .ok (.aload_n 0, 1) := by decide +kernel
theorem dX0_take_11 : decode cX0_take 11 = .ok (.iload_n 1, 1) := by decide +kernel
theorem dX0_take_12 : decode cX0_take 12 = .ok (.invokevirtual 38, 3) := by decide +kernel
theorem dX0_take_15 : decode cX0_take 15 = .ok (.istore_n 2, 1) := by decide +kernel
theorem dX0_take_16 : decode cX0_take 16 = .ok (.iload_n 2, 1) := by decide +kernel
theorem dX0_take_17 : decode cX0_take 17 = .ok (.sipush 2000, 3) := by decide +kernel
theorem dX0_take_20 : decode cX0_take 20 = .ok (.aload_n 0, 1) := by decide +kernel
theorem dX0_take_21 : decode cX0_take 21 = .ok (.getfield 13, 3) := by decide +kernel
theorem dX0_take_24 : decode cX0_take 24 = .ok (.isub, 1) := by decide +kernel
theorem dX0_take_25 : decode cX0_take 25 = .ok (.if_icmp .le 5, 3) := by decide +kernel
theorem dX0_take_28 : decode cX0_take 28 = .ok (.iconst (-1), 1) := by decide +kernel
theorem dX0_take_29 : decode cX0_take 29 = .ok (.ireturn, 1) := by decide +kernel
theorem dX0_take_30 : decode cX0_take 30 = .ok (.aload_n 0, 1) := by decide +kernel
theorem dX0_take_31 : decode cX0_take 31 = .ok (.getfield 17, 3) := by decide +kernel
theorem dX0_take_34 : decode cX0_take 34 = .ok (.aload_n 0, 1) := by decide +kernel
theorem dX0_take_35 : decode cX0_take 35 = .ok (.getfield 20, 3) := by decide +kernel
theorem dX0_take_38 : decode cX0_take 38 = .ok (.iload_n 1, 1) := by decide +kernel
theorem dX0_take_39 : decode cX0_take 39 = .ok (.iaload, 1) := by decide +kernel
theorem dX0_take_40 : decode cX0_take 40 = .ok (.aload_n 0, 1) := by decide +kernel
theorem dX0_take_41 : decode cX0_take 41 = .ok (.getfield 9, 3) := by decide +kernel
theorem dX0_take_44 : decode cX0_take 44 = .ok (.aload_n 0, 1) := by decide +kernel
theorem dX0_take_45 : decode cX0_take 45 = .ok (.getfield 13, 3) := by decide +kernel
theorem dX0_take_48 : decode cX0_take 48 = .ok (.iload_n 2, 1) := by decide +kernel
theorem dX0_take_49 : decode cX0_take 49 = .ok (.invokestatic 42, 3) := by decide +kernel
theorem dX0_take_52 : decode cX0_take 52 = .ok (.aload_n 0, 1) := by decide +kernel
theorem dX0_take_53 : decode cX0_take 53 = .ok (.dup, 1) := by decide +kernel
theorem dX0_take_54 : decode cX0_take 54 = .ok (.getfield 13, 3) := by decide +kernel
theorem dX0_take_57 : decode cX0_take 57 = .ok (.iload_n 2, 1) := by decide +kernel
theorem dX0_take_58 : decode cX0_take 58 = .ok (.iadd, 1) := by decide +kernel
theorem dX0_take_59 : decode cX0_take 59 = .ok (.putfield 13, 3) := by decide +kernel
theorem dX0_take_62 : decode cX0_take 62 = .ok (.aload_n 0, 1) := by decide +kernel
theorem dX0_take_63 : decode cX0_take 63 = .ok (.getfield 13, 3) := by decide +kernel
theorem dX0_take_66 : decode cX0_take 66 = .ok (.ireturn, 1) := by decide +kernel
theorem dX0_rows_0 : decode cX0_rows 0 = .ok (.aload_n 0, 1) := by decide +kernel
theorem dX0_rows_1 : decode cX0_rows 1 = .ok (.getfield 23, 3) := by decide +kernel
theorem dX0_rows_4 : decode cX0_rows 4 = .ok (.ireturn, 1) := by decide +kernel
set_option maxRecDepth 20000 in
theorem ggX0_length_X0_isRow : GoodIn wsX0_length wsX0_isRow := goodIn_r _ [5, 6, 12, 13, 14, 15, 16] (by decide +kernel) (by decide +kernel)
set_option maxRecDepth 20000 in
theorem gX0_length_X0_isRow : GoodIn wsX0_length (wsV RX0 34 RX0 yX0_isRow wsX0_isRow) := goodIn_app (goodIn_of _ (by decide +kernel)) ggX0_length_X0_isRow
set_option maxRecDepth 20000 in
theorem ggX0_length_X0_lengthOf : GoodIn wsX0_length wsX0_lengthOf := goodIn_r _ [10, 11, 12, 13, 14, 15, 16] (by decide +kernel) (by decide +kernel)
set_option maxRecDepth 20000 in
theorem gX0_length_X0_lengthOf : GoodIn wsX0_length (wsV RX0 38 RX0 yX0_lengthOf wsX0_lengthOf) := goodIn_app (goodIn_of _ (by decide +kernel)) ggX0_length_X0_lengthOf
theorem dX0_length_0 : decode cX0_length 0 = .ok (.aload_n 0, 1) := by decide +kernel
theorem dX0_length_1 : decode cX0_length 1 = .ok (.iload_n 1, 1) := by decide +kernel
theorem dX0_length_2 : decode cX0_length 2 = .ok (.invokevirtual 34, 3) := by decide +kernel
theorem dX0_length_5 : decode cX0_length 5 = .ok (.ifCond .eq 11, 3) := by decide +kernel
theorem dX0_length_8 : decode cX0_length 8 = .ok (.aload_n 0, 1) := by decide +kernel
theorem dX0_length_9 : decode cX0_length 9 = .ok (.iload_n 1, 1) := by decide +kernel
theorem dX0_length_10 : decode cX0_length 10 = .ok (.invokevirtual 38, 3) := by decide +kernel
theorem dX0_length_13 : decode cX0_length 13 = .ok (.goto 4, 3) := by decide +kernel
theorem dX0_length_16 : decode cX0_length 16 = .ok (.iconst (-1), 1) := by decide +kernel
theorem dX0_length_17 : decode cX0_length 17 = .ok (.ireturn, 1) := by decide +kernel
set_option maxRecDepth 20000 in
theorem ggX0_sign_X0_isRow : GoodIn wsX0_sign wsX0_isRow := goodIn_r _ [7, 8, 13, 14, 15, 16, 17] (by decide +kernel) (by decide +kernel)
set_option maxRecDepth 20000 in
theorem gX0_sign_X0_isRow : GoodIn wsX0_sign (wsV RX0 34 RX0 yX0_isRow wsX0_isRow) := goodIn_app (goodIn_of _ (by decide +kernel)) ggX0_sign_X0_isRow
set_option maxRecDepth 20000 in
theorem ggX0_sign_X0_lengthOf : GoodIn wsX0_sign wsX0_lengthOf := goodIn_r _ [12, 2, 13, 14, 15, 16, 17] (by decide +kernel) (by decide +kernel)
set_option maxRecDepth 20000 in
theorem gX0_sign_X0_lengthOf : GoodIn wsX0_sign (wsV RX0 38 RX0 yX0_lengthOf wsX0_lengthOf) := goodIn_app (goodIn_of _ (by decide +kernel)) ggX0_sign_X0_lengthOf
theorem dX0_sign_0 : decode cX0_sign 0 = .ok (.aload_n 0, 1) := by decide +kernel
theorem dX0_sign_1 : decode cX0_sign 1 = .ok (.iload_n 1, 1) := by decide +kernel
theorem dX0_sign_2 : decode cX0_sign 2 = .ok (.invokevirtual 34, 3) := by decide +kernel
theorem dX0_sign_5 : decode cX0_sign 5 = .ok (.ifCond .eq 16, 3) := by decide +kernel
theorem dX0_sign_8 : decode cX0_sign 8 = .ok (.iload_n 2, 1) := by decide +kernel
theorem dX0_sign_9 : decode cX0_sign 9 = .ok (.ifCond .lt 12, 3) := by decide +kernel
theorem dX0_sign_12 : decode cX0_sign 12 = .ok (.iload_n 2, 1) := by decide +kernel
theorem dX0_sign_13 : decode cX0_sign 13 = .ok (.aload_n 0, 1) := by decide +kernel
theorem dX0_sign_14 : decode cX0_sign 14 = .ok (.iload_n 1, 1) := by decide +kernel
theorem dX0_sign_15 : decode cX0_sign 15 = .ok (.invokevirtual 38, 3) := by decide +kernel
theorem dX0_sign_18 : decode cX0_sign 18 = .ok (.if_icmp .lt 5, 3) := by decide +kernel
theorem dX0_sign_21 : decode cX0_sign 21 = .ok (.iconst (-1), 1) := by decide +kernel
theorem dX0_sign_22 : decode cX0_sign 22 = .ok (.ireturn, 1) := by decide +kernel
theorem dX0_sign_23 : decode cX0_sign 23 = .ok (.aload_n 0, 1) := by decide +kernel
theorem dX0_sign_24 : decode cX0_sign 24 = .ok (.getfield 17, 3) := by decide +kernel
theorem dX0_sign_27 : decode cX0_sign 27 = .ok (.aload_n 0, 1) := by decide +kernel
theorem dX0_sign_28 : decode cX0_sign 28 = .ok (.getfield 20, 3) := by decide +kernel
theorem dX0_sign_31 : decode cX0_sign 31 = .ok (.iload_n 1, 1) := by decide +kernel
theorem dX0_sign_32 : decode cX0_sign 32 = .ok (.iaload, 1) := by decide +kernel
theorem dX0_sign_33 : decode cX0_sign 33 = .ok (.iload_n 2, 1) := by decide +kernel
theorem dX0_sign_34 : decode cX0_sign 34 = .ok (.iadd, 1) := by decide +kernel
theorem dX0_sign_35 : decode cX0_sign 35 = .ok (.iaload, 1) := by decide +kernel
theorem dX0_sign_36 : decode cX0_sign 36 = .ok (.ireturn, 1) := by decide +kernel
set_option maxRecDepth 20000 in
theorem ggX0_compare_X0_isRow : GoodIn wsX0_compare wsX0_isRow := goodIn_r _ [5, 6, 21, 22, 23, 24, 25] (by decide +kernel) (by decide +kernel)
set_option maxRecDepth 20000 in
theorem gX0_compare_X0_isRow : GoodIn wsX0_compare (wsV RX0 34 RX0 yX0_isRow wsX0_isRow) := goodIn_app (goodIn_of _ (by decide +kernel)) ggX0_compare_X0_isRow
set_option maxRecDepth 20000 in
theorem ggX0_compare_X0_order : GoodIn wsX0_compare wsX0_order := goodIn_r _ [10, 11, 12, 13, 14, 15, 16, 17, 18, 19, 4, 20, 21, 22, 23, 24, 25] (by decide +kernel) (by decide +kernel)
set_option maxRecDepth 20000 in
theorem gX0_compare_X0_order : GoodIn wsX0_compare (wsV RX0 48 RX0 yX0_order wsX0_order) := goodIn_app (goodIn_of _ (by decide +kernel)) ggX0_compare_X0_order
theorem dX0_compare_0 : decode cX0_compare 0 = .ok (.aload_n 0, 1) := by decide +kernel
theorem dX0_compare_1 : decode cX0_compare 1 = .ok (.iload_n 1, 1) := by decide +kernel
theorem dX0_compare_2 : decode cX0_compare 2 = .ok (.invokevirtual 34, 3) := by decide +kernel
theorem dX0_compare_5 : decode cX0_compare 5 = .ok (.ifCond .eq 11, 3) := by decide +kernel
theorem dX0_compare_8 : decode cX0_compare 8 = .ok (.aload_n 0, 1) := by decide +kernel
theorem dX0_compare_9 : decode cX0_compare 9 = .ok (.iload_n 2, 1) := by decide +kernel
theorem dX0_compare_10 : decode cX0_compare 10 = .ok (.invokevirtual 34, 3) := by decide +kernel
theorem dX0_compare_13 : decode cX0_compare 13 = .ok (.ifCond .ne 6, 3) := by decide +kernel
theorem dX0_compare_16 : decode cX0_compare 16 = .ok (.bipush (-2), 2) := by decide +kernel
theorem dX0_compare_18 : decode cX0_compare 18 = .ok (.ireturn, 1) := by decide +kernel
theorem dX0_compare_19 : decode cX0_compare 19 = .ok (.aload_n 0, 1) := by decide +kernel
theorem dX0_compare_20 : decode cX0_compare 20 = .ok (.iload_n 1, 1) := by decide +kernel
theorem dX0_compare_21 : decode cX0_compare 21 = .ok (.iload_n 2, 1) := by decide +kernel
theorem dX0_compare_22 : decode cX0_compare 22 = .ok (.invokevirtual 48, 3) := by decide +kernel
theorem dX0_compare_25 : decode cX0_compare 25 = .ok (.ireturn, 1) := by decide +kernel
set_option maxRecDepth 20000 in
theorem ggX0_colon_X0_isRow : GoodIn wsX0_colon wsX0_isRow := goodIn_r _ [7, 8, 17, 18, 19, 20, 21] (by decide +kernel) (by decide +kernel)
set_option maxRecDepth 20000 in
theorem gX0_colon_X0_isRow : GoodIn wsX0_colon (wsV RX0 34 RX0 yX0_isRow wsX0_isRow) := goodIn_app (goodIn_of _ (by decide +kernel)) ggX0_colon_X0_isRow
set_option maxRecDepth 20000 in
theorem ggX0_colon_X0_findColon : GoodIn wsX0_colon wsX0_findColon := goodIn_r _ [12, 2, 17, 18, 19, 20, 21] (by decide +kernel) (by decide +kernel)
set_option maxRecDepth 20000 in
theorem gX0_colon_X0_findColon : GoodIn wsX0_colon (wsV RX0 52 RX0 yX0_findColon wsX0_findColon) := goodIn_app (goodIn_of _ (by decide +kernel)) ggX0_colon_X0_findColon
set_option maxRecDepth 20000 in
theorem ggX0_colon_X0_isNameStart : GoodIn wsX0_colon wsX0_isNameStart := goodIn_r _ [15, 16] (by decide +kernel) (by decide +kernel)
set_option maxRecDepth 20000 in
theorem gX0_colon_X0_isNameStart : GoodIn wsX0_colon (va_wsS RX0 55 yX0_isNameStart wsX0_isNameStart) := goodIn_app (goodIn_of _ (by decide +kernel)) ggX0_colon_X0_isNameStart
theorem dX0_colon_0 : decode cX0_colon 0 = .ok (.aload_n 0, 1) := by decide +kernel
theorem dX0_colon_1 : decode cX0_colon 1 = .ok (.iload_n 1, 1) := by decide +kernel
theorem dX0_colon_2 : decode cX0_colon 2 = .ok (.invokevirtual 34, 3) := by decide +kernel
theorem dX0_colon_5 : decode cX0_colon 5 = .ok (.ifCond .ne 6, 3) := by decide +kernel
theorem dX0_colon_8 : decode cX0_colon 8 = .ok (.bipush (-2), 2) := by decide +kernel
theorem dX0_colon_10 : decode cX0_colon 10 = .ok (.ireturn, 1) := by decide +kernel
theorem dX0_colon_11 : decode cX0_colon 11 = .ok (.aload_n 0, 1) := by decide +kernel
theorem dX0_colon_12 : decode cX0_colon 12 = .ok (.getfield 20, 3) := by decide +kernel
theorem dX0_colon_15 : decode cX0_colon 15 = .ok (.iload_n 1, 1) := by decide +kernel
theorem dX0_colon_16 : decode cX0_colon 16 = .ok (.iaload, 1) := by decide +kernel
theorem dX0_colon_17 : decode cX0_colon 17 = .ok (.istore_n 2, 1) := by decide +kernel
theorem dX0_colon_18 : decode cX0_colon 18 = .ok (.aload_n 0, 1) := by decide +kernel
theorem dX0_colon_19 : decode cX0_colon 19 = .ok (.getfield 20, 3) := by decide +kernel
theorem dX0_colon_22 : decode cX0_colon 22 = .ok (.iload_n 1, 1) := by decide +kernel
theorem dX0_colon_23 : decode cX0_colon 23 = .ok (.iconst 1, 1) := by decide +kernel
theorem dX0_colon_24 : decode cX0_colon 24 = .ok (.iadd, 1) := by decide +kernel
theorem dX0_colon_25 : decode cX0_colon 25 = .ok (.iaload, 1) := by decide +kernel
theorem dX0_colon_26 : decode cX0_colon 26 = .ok (.istore_n 3, 1) := by decide +kernel
theorem dX0_colon_27 : decode cX0_colon 27 = .ok (.aload_n 0, 1) := by decide +kernel
theorem dX0_colon_28 : decode cX0_colon 28 = .ok (.iload_n 2, 1) := by decide +kernel
theorem dX0_colon_29 : decode cX0_colon 29 = .ok (.iload_n 3, 1) := by decide +kernel
theorem dX0_colon_30 : decode cX0_colon 30 = .ok (.invokevirtual 52, 3) := by decide +kernel
theorem dX0_colon_33 : decode cX0_colon 33 = .ok (.istore 4, 2) := by decide +kernel
theorem dX0_colon_35 : decode cX0_colon 35 = .ok (.iload 4, 2) := by decide +kernel
theorem dX0_colon_37 : decode cX0_colon 37 = .ok (.iload_n 3, 1) := by decide +kernel
theorem dX0_colon_38 : decode cX0_colon 38 = .ok (.if_icmp .ne 5, 3) := by decide +kernel
theorem dX0_colon_41 : decode cX0_colon 41 = .ok (.iconst 0, 1) := by decide +kernel
theorem dX0_colon_42 : decode cX0_colon 42 = .ok (.ireturn, 1) := by decide +kernel
theorem dX0_colon_43 : decode cX0_colon 43 = .ok (.aload_n 0, 1) := by decide +kernel
theorem dX0_colon_44 : decode cX0_colon 44 = .ok (.iload 4, 2) := by decide +kernel
theorem dX0_colon_46 : decode cX0_colon 46 = .ok (.iconst 1, 1) := by decide +kernel
theorem dX0_colon_47 : decode cX0_colon 47 = .ok (.iadd, 1) := by decide +kernel
theorem dX0_colon_48 : decode cX0_colon 48 = .ok (.iload_n 3, 1) := by decide +kernel
theorem dX0_colon_49 : decode cX0_colon 49 = .ok (.invokevirtual 52, 3) := by decide +kernel
theorem dX0_colon_52 : decode cX0_colon 52 = .ok (.iload_n 3, 1) := by decide +kernel
theorem dX0_colon_53 : decode cX0_colon 53 = .ok (.if_icmp .ne 7, 3) := by decide +kernel
theorem dX0_colon_56 : decode cX0_colon 56 = .ok (.iconst 1, 1) := by decide +kernel
theorem dX0_colon_57 : decode cX0_colon 57 = .ok (.goto 4, 3) := by decide +kernel
theorem dX0_colon_60 : decode cX0_colon 60 = .ok (.iconst 0, 1) := by decide +kernel
theorem dX0_colon_61 : decode cX0_colon 61 = .ok (.istore 5, 2) := by decide +kernel
theorem dX0_colon_63 : decode cX0_colon 63 = .ok (.iload 4, 2) := by decide +kernel
theorem dX0_colon_65 : decode cX0_colon 65 = .ok (.iload_n 2, 1) := by decide +kernel
theorem dX0_colon_66 : decode cX0_colon 66 = .ok (.if_icmp .le 30, 3) := by decide +kernel
theorem dX0_colon_69 : decode cX0_colon 69 = .ok (.iload 4, 2) := by decide +kernel
theorem dX0_colon_71 : decode cX0_colon 71 = .ok (.iconst 1, 1) := by decide +kernel
theorem dX0_colon_72 : decode cX0_colon 72 = .ok (.iadd, 1) := by decide +kernel
theorem dX0_colon_73 : decode cX0_colon 73 = .ok (.iload_n 3, 1) := by decide +kernel
theorem dX0_colon_74 : decode cX0_colon 74 = .ok (.if_icmp .ge 22, 3) := by decide +kernel
theorem dX0_colon_77 : decode cX0_colon 77 = .ok (.aload_n 0, 1) := by decide +kernel
theorem dX0_colon_78 : decode cX0_colon 78 = .ok (.getfield 17, 3) := by decide +kernel
theorem dX0_colon_81 : decode cX0_colon 81 = .ok (.iload 4, 2) := by decide +kernel
theorem dX0_colon_83 : decode cX0_colon 83 = .ok (.iconst 1, 1) := by decide +kernel
theorem dX0_colon_84 : decode cX0_colon 84 = .ok (.iadd, 1) := by decide +kernel
theorem dX0_colon_85 : decode cX0_colon 85 = .ok (.iaload, 1) := by decide +kernel
theorem dX0_colon_86 : decode cX0_colon 86 = .ok (.invokestatic 55, 3) := by decide +kernel
theorem dX0_colon_89 : decode cX0_colon 89 = .ok (.ifCond .eq 7, 3) := by decide +kernel
theorem dX0_colon_92 : decode cX0_colon 92 = .ok (.iconst 1, 1) := by decide +kernel
theorem dX0_colon_93 : decode cX0_colon 93 = .ok (.goto 4, 3) := by decide +kernel
theorem dX0_colon_96 : decode cX0_colon 96 = .ok (.iconst 0, 1) := by decide +kernel
theorem dX0_colon_97 : decode cX0_colon 97 = .ok (.istore 6, 2) := by decide +kernel
theorem dX0_colon_99 : decode cX0_colon 99 = .ok (.iload 5, 2) := by decide +kernel
theorem dX0_colon_101 : decode cX0_colon 101 = .ok (.ifCond .eq 15, 3) := by decide +kernel
theorem dX0_colon_104 : decode cX0_colon 104 = .ok (.iload 6, 2) := by decide +kernel
theorem dX0_colon_106 : decode cX0_colon 106 = .ok (.ifCond .eq 10, 3) := by decide +kernel
theorem dX0_colon_109 : decode cX0_colon 109 = .ok (.iload 4, 2) := by decide +kernel
theorem dX0_colon_111 : decode cX0_colon 111 = .ok (.iload_n 2, 1) := by decide +kernel
theorem dX0_colon_112 : decode cX0_colon 112 = .ok (.isub, 1) := by decide +kernel
theorem dX0_colon_113 : decode cX0_colon 113 = .ok (.goto 4, 3) := by decide +kernel
theorem dX0_colon_116 : decode cX0_colon 116 = .ok (.iconst (-1), 1) := by decide +kernel
theorem dX0_colon_117 : decode cX0_colon 117 = .ok (.ireturn, 1) := by decide +kernel
set_option maxRecDepth 20000 in
theorem ggX0_part_X0_isRow : GoodIn wsX0_part wsX0_isRow := goodIn_r _ [7, 8, 37, 38, 39, 40, 41] (by decide +kernel) (by decide +kernel)
set_option maxRecDepth 20000 in
theorem gX0_part_X0_isRow : GoodIn wsX0_part (wsV RX0 34 RX0 yX0_isRow wsX0_isRow) := goodIn_app (goodIn_of _ (by decide +kernel)) ggX0_part_X0_isRow
set_option maxRecDepth 20000 in
theorem ggX0_part_X0_lengthOf : GoodIn wsX0_part wsX0_lengthOf := goodIn_r _ [12, 2, 37, 38, 39, 40, 41] (by decide +kernel) (by decide +kernel)
set_option maxRecDepth 20000 in
theorem gX0_part_X0_lengthOf : GoodIn wsX0_part (wsV RX0 38 RX0 yX0_lengthOf wsX0_lengthOf) := goodIn_app (goodIn_of _ (by decide +kernel)) ggX0_part_X0_lengthOf
set_option maxRecDepth 20000 in
theorem ggX0_part_X0_numberOf : GoodIn wsX0_part wsX0_numberOf := goodIn_r _ [16, 17, 18, 19, 6, 20, 8, 9, 10, 11, 12, 2, 21, 22, 23, 24, 1, 25, 26, 27, 28, 29, 30, 31, 32, 33, 34, 35, 36, 37, 38, 39, 40, 41] (by decide +kernel) (by decide +kernel)
set_option maxRecDepth 20000 in
theorem gX0_part_X0_numberOf : GoodIn wsX0_part (wsV RX0 27 RX0 yX0_numberOf wsX0_numberOf) := goodIn_app (goodIn_of _ (by decide +kernel)) ggX0_part_X0_numberOf
theorem dX0_part_0 : decode cX0_part 0 = .ok (.aload_n 0, 1) := by decide +kernel
theorem dX0_part_1 : decode cX0_part 1 = .ok (.iload_n 1, 1) := by decide +kernel
theorem dX0_part_2 : decode cX0_part 2 = .ok (.invokevirtual 34, 3) := by decide +kernel
theorem dX0_part_5 : decode cX0_part 5 = .ok (.ifCond .ne 5, 3) := by decide +kernel
theorem dX0_part_8 : decode cX0_part 8 = .ok (.iconst (-1), 1) := by decide +kernel
theorem dX0_part_9 : decode cX0_part 9 = .ok (.ireturn, 1) := by decide +kernel
theorem dX0_part_10 : decode cX0_part 10 = .ok (.aload_n 0, 1) := by decide +kernel
theorem dX0_part_11 : decode cX0_part 11 = .ok (.iload_n 1, 1) := by decide +kernel
theorem dX0_part_12 : decode cX0_part 12 = .ok (.invokevirtual 38, 3) := by decide +kernel
theorem dX0_part_15 : decode cX0_part 15 = .ok (.istore 4, 2) := by decide +kernel
theorem dX0_part_17 : decode cX0_part 17 = .ok (.iload_n 2, 1) := by decide +kernel
theorem dX0_part_18 : decode cX0_part 18 = .ok (.ifCond .lt 21, 3) := by decide +kernel
theorem dX0_part_21 : decode cX0_part 21 = .ok (.iload_n 2, 1) := by decide +kernel
theorem dX0_part_22 : decode cX0_part 22 = .ok (.iload 4, 2) := by decide +kernel
theorem dX0_part_24 : decode cX0_part 24 = .ok (.if_icmp .gt 15, 3) := by decide +kernel
theorem dX0_part_27 : decode cX0_part 27 = .ok (.iload_n 3, 1) := by decide +kernel
theorem dX0_part_28 : decode cX0_part 28 = .ok (.ifCond .lt 11, 3) := by decide +kernel
theorem dX0_part_31 : decode cX0_part 31 = .ok (.iload_n 3, 1) := by decide +kernel
theorem dX0_part_32 : decode cX0_part 32 = .ok (.iload 4, 2) := by decide +kernel
theorem dX0_part_34 : decode cX0_part 34 = .ok (.iload_n 2, 1) := by decide +kernel
theorem dX0_part_35 : decode cX0_part 35 = .ok (.isub, 1) := by decide +kernel
theorem dX0_part_36 : decode cX0_part 36 = .ok (.if_icmp .le 5, 3) := by decide +kernel
theorem dX0_part_39 : decode cX0_part 39 = .ok (.iconst (-1), 1) := by decide +kernel
theorem dX0_part_40 : decode cX0_part 40 = .ok (.ireturn, 1) := by decide +kernel
theorem dX0_part_41 : decode cX0_part 41 = .ok (.aload_n 0, 1) := by decide +kernel
theorem dX0_part_42 : decode cX0_part 42 = .ok (.aload_n 0, 1) := by decide +kernel
theorem dX0_part_43 : decode cX0_part 43 = .ok (.getfield 17, 3) := by decide +kernel
theorem dX0_part_46 : decode cX0_part 46 = .ok (.aload_n 0, 1) := by decide +kernel
theorem dX0_part_47 : decode cX0_part 47 = .ok (.getfield 20, 3) := by decide +kernel
theorem dX0_part_50 : decode cX0_part 50 = .ok (.iload_n 1, 1) := by decide +kernel
theorem dX0_part_51 : decode cX0_part 51 = .ok (.iaload, 1) := by decide +kernel
theorem dX0_part_52 : decode cX0_part 52 = .ok (.iload_n 2, 1) := by decide +kernel
theorem dX0_part_53 : decode cX0_part 53 = .ok (.iadd, 1) := by decide +kernel
theorem dX0_part_54 : decode cX0_part 54 = .ok (.iload_n 3, 1) := by decide +kernel
theorem dX0_part_55 : decode cX0_part 55 = .ok (.invokevirtual 27, 3) := by decide +kernel
theorem dX0_part_58 : decode cX0_part 58 = .ok (.ireturn, 1) := by decide +kernel
set_option maxRecDepth 20000 in
theorem ggX0_next_X0_isRow : GoodIn wsX0_next wsX0_isRow := goodIn_r _ [6, 1, 21, 22, 23, 24, 25] (by decide +kernel) (by decide +kernel)
set_option maxRecDepth 20000 in
theorem gX0_next_X0_isRow : GoodIn wsX0_next (wsV RX0 34 RX0 yX0_isRow wsX0_isRow) := goodIn_app (goodIn_of _ (by decide +kernel)) ggX0_next_X0_isRow
set_option maxRecDepth 20000 in
theorem ggX0_next_X0_order : GoodIn wsX0_next wsX0_order := goodIn_r _ [10, 11, 12, 13, 14, 15, 16, 17, 18, 19, 5, 20, 21, 22, 23, 24, 25] (by decide +kernel) (by decide +kernel)
set_option maxRecDepth 20000 in
theorem gX0_next_X0_order : GoodIn wsX0_next (wsV RX0 48 RX0 yX0_order wsX0_order) := goodIn_app (goodIn_of _ (by decide +kernel)) ggX0_next_X0_order
theorem dX0_next_0 : decode cX0_next 0 = .ok (.aload_n 0, 1) := by decide +kernel
theorem dX0_next_1 : decode cX0_next 1 = .ok (.iload_n 1, 1) := by decide +kernel
theorem dX0_next_2 : decode cX0_next 2 = .ok (.invokevirtual 34, 3) := by decide +kernel
theorem dX0_next_5 : decode cX0_next 5 = .ok (.ifCond .ne 5, 3) := by decide +kernel
theorem dX0_next_8 : decode cX0_next 8 = .ok (.iconst (-1), 1) := by decide +kernel
theorem dX0_next_9 : decode cX0_next 9 = .ok (.ireturn, 1) := by decide +kernel
theorem dX0_next_10 : decode cX0_next 10 = .ok (.iconst 0, 1) := by decide +kernel
theorem dX0_next_11 : decode cX0_next 11 = .ok (.istore_n 2, 1) := by decide +kernel
theorem dX0_next_12 : decode cX0_next 12 = .ok (.iconst 1, 1) := by decide +kernel
theorem dX0_next_13 : decode cX0_next 13 = .ok (.istore_n 3, 1) := by decide +kernel
theorem dX0_next_14 : decode cX0_next 14 = .ok (.iload_n 3, 1) := by decide +kernel
theorem dX0_next_15 : decode cX0_next 15 = .ok (.aload_n 0, 1) := by decide +kernel
theorem dX0_next_16 : decode cX0_next 16 = .ok (.getfield 23, 3) := by decide +kernel
theorem dX0_next_19 : decode cX0_next 19 = .ok (.if_icmp .gt 33, 3) := by decide +kernel
theorem dX0_next_22 : decode cX0_next 22 = .ok (.aload_n 0, 1) := by decide +kernel
theorem dX0_next_23 : decode cX0_next 23 = .ok (.iload_n 3, 1) := by decide +kernel
theorem dX0_next_24 : decode cX0_next 24 = .ok (.iload_n 1, 1) := by decide +kernel
theorem dX0_next_25 : decode cX0_next 25 = .ok (.invokevirtual 48, 3) := by decide +kernel
theorem dX0_next_28 : decode cX0_next 28 = .ok (.ifCond .le 18, 3) := by decide +kernel
theorem dX0_next_31 : decode cX0_next 31 = .ok (.iload_n 2, 1) := by decide +kernel
theorem dX0_next_32 : decode cX0_next 32 = .ok (.ifCond .eq 12, 3) := by decide +kernel
theorem dX0_next_35 : decode cX0_next 35 = .ok (.aload_n 0, 1) := by decide +kernel
theorem dX0_next_36 : decode cX0_next 36 = .ok (.iload_n 3, 1) := by decide +kernel
theorem dX0_next_37 : decode cX0_next 37 = .ok (.iload_n 2, 1) := by decide +kernel
theorem dX0_next_38 : decode cX0_next 38 = .ok (.invokevirtual 48, 3) := by decide +kernel
theorem dX0_next_41 : decode cX0_next 41 = .ok (.ifCond .ge 5, 3) := by decide +kernel
theorem dX0_next_44 : decode cX0_next 44 = .ok (.iload_n 3, 1) := by decide +kernel
theorem dX0_next_45 : decode cX0_next 45 = .ok (.istore_n 2, 1) := by decide +kernel
theorem dX0_next_46 : decode cX0_next 46 = .ok (.iinc 3 1, 3) := by decide +kernel
theorem dX0_next_49 : decode cX0_next 49 = .ok (.goto (-35), 3) := by decide +kernel
theorem dX0_next_52 : decode cX0_next 52 = .ok (.iload_n 2, 1) := by decide +kernel
theorem dX0_next_53 : decode cX0_next 53 = .ok (.ireturn, 1) := by decide +kernel
theorem dX0_clear_0 : decode cX0_clear 0 = .ok (.aload_n 0, 1) := by decide +kernel
theorem dX0_clear_1 : decode cX0_clear 1 = .ok (.getfield 23, 3) := by decide +kernel
theorem dX0_clear_4 : decode cX0_clear 4 = .ok (.istore_n 1, 1) := by decide +kernel
theorem dX0_clear_5 : decode cX0_clear 5 = .ok (.aload_n 0, 1) := by decide +kernel
theorem dX0_clear_6 : decode cX0_clear 6 = .ok (.iconst 0, 1) := by decide +kernel
theorem dX0_clear_7 : decode cX0_clear 7 = .ok (.putfield 23, 3) := by decide +kernel
theorem dX0_clear_10 : decode cX0_clear 10 = .ok (.iload_n 1, 1) := by decide +kernel
theorem dX0_clear_11 : decode cX0_clear 11 = .ok (.ireturn, 1) := by decide +kernel
theorem dX0_isRow_0 : decode cX0_isRow 0 = .ok (.iload_n 1, 1) := by decide +kernel
theorem dX0_isRow_1 : decode cX0_isRow 1 = .ok (.iconst 1, 1) := by decide +kernel
theorem dX0_isRow_2 : decode cX0_isRow 2 = .ok (.if_icmp .lt 15, 3) := by decide +kernel
theorem dX0_isRow_5 : decode cX0_isRow 5 = .ok (.iload_n 1, 1) := by decide +kernel
theorem dX0_isRow_6 : decode cX0_isRow 6 = .ok (.aload_n 0, 1) := by decide +kernel
theorem dX0_isRow_7 : decode cX0_isRow 7 = .ok (.getfield 23, 3) := by decide +kernel
theorem dX0_isRow_10 : decode cX0_isRow 10 = .ok (.if_icmp .gt 7, 3) := by decide +kernel
theorem dX0_isRow_13 : decode cX0_isRow 13 = .ok (.iconst 1, 1) := by decide +kernel
theorem dX0_isRow_14 : decode cX0_isRow 14 = .ok (.goto 4, 3) := by decide +kernel
theorem dX0_isRow_17 : decode cX0_isRow 17 = .ok (.iconst 0, 1) := by decide +kernel
theorem dX0_isRow_18 : decode cX0_isRow 18 = .ok (.ireturn, 1) := by decide +kernel
theorem dX0_lengthOf_0 : decode cX0_lengthOf 0 = .ok (.aload_n 0, 1) := by decide +kernel
theorem dX0_lengthOf_1 : decode cX0_lengthOf 1 = .ok (.getfield 20, 3) := by decide +kernel
theorem dX0_lengthOf_4 : decode cX0_lengthOf 4 = .ok (.iload_n 1, 1) := by decide +kernel
theorem dX0_lengthOf_5 : decode cX0_lengthOf 5 = .ok (.iconst 1, 1) := by decide +kernel
theorem dX0_lengthOf_6 : decode cX0_lengthOf 6 = .ok (.iadd, 1) := by decide +kernel
theorem dX0_lengthOf_7 : decode cX0_lengthOf 7 = .ok (.iaload, 1) := by decide +kernel
theorem dX0_lengthOf_8 : decode cX0_lengthOf 8 = .ok (.aload_n 0, 1) := by decide +kernel
theorem dX0_lengthOf_9 : decode cX0_lengthOf 9 = .ok (.getfield 20, 3) := by decide +kernel
theorem dX0_lengthOf_12 : decode cX0_lengthOf 12 = .ok (.iload_n 1, 1) := by decide +kernel
theorem dX0_lengthOf_13 : decode cX0_lengthOf 13 = .ok (.iaload, 1) := by decide +kernel
theorem dX0_lengthOf_14 : decode cX0_lengthOf 14 = .ok (.isub, 1) := by decide +kernel
theorem dX0_lengthOf_15 : decode cX0_lengthOf 15 = .ok (.ireturn, 1) := by decide +kernel
set_option maxRecDepth 20000 in
theorem ggX0_numberOf_X0_find : GoodIn wsX0_numberOf wsX0_find := goodIn_r _ [5, 6, 7, 8, 9, 4, 10, 11, 12, 13, 14, 15, 16, 29, 30, 31, 32, 33] (by decide +kernel) (by decide +kernel)
set_option maxRecDepth 20000 in
theorem gX0_numberOf_X0_find : GoodIn wsX0_numberOf (wsV RX0 31 RX0 yX0_find wsX0_find) := goodIn_app (goodIn_of _ (by decide +kernel)) ggX0_numberOf_X0_find
set_option maxRecDepth 20000 in
theorem ggX0_numberOf_X0_hasRoomFor : GoodIn wsX0_numberOf wsX0_hasRoomFor := goodIn_r _ [20, 6, 11, 29, 30, 31, 32, 33] (by decide +kernel) (by decide +kernel)
set_option maxRecDepth 20000 in
theorem gX0_numberOf_X0_hasRoomFor : GoodIn wsX0_numberOf (wsV RX0 58 RX0 yX0_hasRoomFor wsX0_hasRoomFor) := goodIn_app (goodIn_of _ (by decide +kernel)) ggX0_numberOf_X0_hasRoomFor
set_option maxRecDepth 20000 in
theorem ggX0_numberOf_X0_add : GoodIn wsX0_numberOf wsX0_add := goodIn_r _ [24, 11, 6, 16, 25, 26, 27, 28, 29, 30, 31, 32, 33] (by decide +kernel) (by decide +kernel)
set_option maxRecDepth 20000 in
theorem gX0_numberOf_X0_add : GoodIn wsX0_numberOf (wsV RX0 61 RX0 yX0_add wsX0_add) := goodIn_app (goodIn_of _ (by decide +kernel)) ggX0_numberOf_X0_add
theorem dX0_numberOf_0 : decode cX0_numberOf 0 = .ok (.aload_n 0, 1) := by decide +kernel
theorem dX0_numberOf_1 : decode cX0_numberOf 1 = .ok (.aload_n 1, 1) := by decide +kernel
theorem dX0_numberOf_2 : decode cX0_numberOf 2 = .ok (.iload_n 2, 1) := by decide +kernel
theorem dX0_numberOf_3 : decode cX0_numberOf 3 = .ok (.iload_n 3, 1) := by decide +kernel
theorem dX0_numberOf_4 : decode cX0_numberOf 4 = .ok (.invokevirtual 31, 3) := by decide +kernel
theorem dX0_numberOf_7 : decode cX0_numberOf 7 = .ok (.istore 4, 2) := by decide +kernel
theorem dX0_numberOf_9 : decode cX0_numberOf 9 = .ok (.iload 4, 2) := by decide +kernel
theorem dX0_numberOf_11 : decode cX0_numberOf 11 = .ok (.iconst (-1), 1) := by decide +kernel
theorem dX0_numberOf_12 : decode cX0_numberOf 12 = .ok (.if_icmp .eq 6, 3) := by decide +kernel
theorem dX0_numberOf_15 : decode cX0_numberOf 15 = .ok (.iload 4, 2) := by decide +kernel
theorem dX0_numberOf_17 : decode cX0_numberOf 17 = .ok (.ireturn, 1) := by decide +kernel
theorem dX0_numberOf_18 : decode cX0_numberOf 18 = .ok (.aload_n 0, 1) := by decide +kernel
theorem dX0_numberOf_19 : decode cX0_numberOf 19 = .ok (.iload_n 3, 1) := by decide +kernel
theorem dX0_numberOf_20 : decode cX0_numberOf 20 = .ok (.invokevirtual 58, 3) := by decide +kernel
theorem dX0_numberOf_23 : decode cX0_numberOf 23 = .ok (.ifCond .eq 13, 3) := by decide +kernel
theorem dX0_numberOf_26 : decode cX0_numberOf 26 = .ok (.aload_n 0, 1) := by decide +kernel
theorem dX0_numberOf_27 : decode cX0_numberOf 27 = .ok (.aload_n 1, 1) := by decide +kernel
theorem dX0_numberOf_28 : decode cX0_numberOf 28 = .ok (.iload_n 2, 1) := by decide +kernel
theorem dX0_numberOf_29 : decode cX0_numberOf 29 = .ok (.iload_n 3, 1) := by decide +kernel
theorem dX0_numberOf_30 : decode cX0_numberOf 30 = .ok (.invokevirtual 61, 3) := by decide +kernel
theorem dX0_numberOf_33 : decode cX0_numberOf 33 = .ok (.goto 4, 3) := by decide +kernel
theorem dX0_numberOf_36 : decode cX0_numberOf 36 = .ok (.iconst (-1), 1) := by decide +kernel
theorem dX0_numberOf_37 : decode cX0_numberOf 37 = .ok (.ireturn, 1) := by decide +kernel
set_option maxRecDepth 20000 in
theorem ggX0_find_X0_lengthOf : GoodIn wsX0_find wsX0_lengthOf := goodIn_r _ [6, 7, 13, 14, 15, 16, 17] (by decide +kernel) (by decide +kernel)
set_option maxRecDepth 20000 in
theorem gX0_find_X0_lengthOf : GoodIn wsX0_find (wsV RX0 38 RX0 yX0_lengthOf wsX0_lengthOf) := goodIn_app (goodIn_of _ (by decide +kernel)) ggX0_find_X0_lengthOf
set_option maxRecDepth 20000 in
theorem ggX0_find_X0_isSame : GoodIn wsX0_find wsX0_isSame := goodIn_r _ [11, 12, 7, 2, 3, 4, 5, 6, 13, 14, 15, 16, 17] (by decide +kernel) (by decide +kernel)
set_option maxRecDepth 20000 in
theorem gX0_find_X0_isSame : GoodIn wsX0_find (wsV RX0 64 RX0 yX0_isSame wsX0_isSame) := goodIn_app (goodIn_of _ (by decide +kernel)) ggX0_find_X0_isSame
theorem dX0_find_0 : decode cX0_find 0 = .ok (.iconst 1, 1) := by decide +kernel
theorem dX0_find_1 : decode cX0_find 1 = .ok (.istore 4, 2) := by decide +kernel
theorem dX0_find_3 : decode cX0_find 3 = .ok (.iload 4, 2) := by decide +kernel
theorem dX0_find_5 : decode cX0_find 5 = .ok (.aload_n 0, 1) := by decide +kernel
theorem dX0_find_6 : decode cX0_find 6 = .ok (.getfield 23, 3) := by decide +kernel
theorem dX0_find_9 : decode cX0_find 9 = .ok (.if_icmp .gt 33, 3) := by decide +kernel
theorem dX0_find_12 : decode cX0_find 12 = .ok (.aload_n 0, 1) := by decide +kernel
theorem dX0_find_13 : decode cX0_find 13 = .ok (.iload 4, 2) := by decide +kernel
theorem dX0_find_15 : decode cX0_find 15 = .ok (.invokevirtual 38, 3) := by decide +kernel
theorem dX0_find_18 : decode cX0_find 18 = .ok (.iload_n 3, 1) := by decide +kernel
theorem dX0_find_19 : decode cX0_find 19 = .ok (.if_icmp .ne 17, 3) := by decide +kernel
theorem dX0_find_22 : decode cX0_find 22 = .ok (.aload_n 0, 1) := by decide +kernel
theorem dX0_find_23 : decode cX0_find 23 = .ok (.aload_n 1, 1) := by decide +kernel
theorem dX0_find_24 : decode cX0_find 24 = .ok (.iload_n 2, 1) := by decide +kernel
theorem dX0_find_25 : decode cX0_find 25 = .ok (.iload 4, 2) := by decide +kernel
theorem dX0_find_27 : decode cX0_find 27 = .ok (.invokevirtual 64, 3) := by decide +kernel
theorem dX0_find_30 : decode cX0_find 30 = .ok (.ifCond .eq 6, 3) := by decide +kernel
theorem dX0_find_33 : decode cX0_find 33 = .ok (.iload 4, 2) := by decide +kernel
theorem dX0_find_35 : decode cX0_find 35 = .ok (.ireturn, 1) := by decide +kernel
theorem dX0_find_36 : decode cX0_find 36 = .ok (.iinc 4 1, 3) := by decide +kernel
theorem dX0_find_39 : decode cX0_find 39 = .ok (.goto (-36), 3) := by decide +kernel
theorem dX0_find_42 : decode cX0_find 42 = .ok (.iconst (-1), 1) := by decide +kernel
theorem dX0_find_43 : decode cX0_find 43 = .ok (.ireturn, 1) := by decide +kernel
set_option maxRecDepth 20000 in
theorem ggX0_isSame_X0_lengthOf : GoodIn wsX0_isSame wsX0_lengthOf := goodIn_r _ [7, 2, 8, 9, 10, 11, 12] (by decide +kernel) (by decide +kernel)
set_option maxRecDepth 20000 in
theorem gX0_isSame_X0_lengthOf : GoodIn wsX0_isSame (wsV RX0 38 RX0 yX0_lengthOf wsX0_lengthOf) := goodIn_app (goodIn_of _ (by decide +kernel)) ggX0_isSame_X0_lengthOf
theorem dX0_isSame_0 : decode cX0_isSame 0 = .ok (.aload_n 0, 1) := by decide +kernel
theorem dX0_isSame_1 : decode cX0_isSame 1 = .ok (.iload_n 3, 1) := by decide +kernel
theorem dX0_isSame_2 : decode cX0_isSame 2 = .ok (.invokevirtual 38, 3) := by decide +kernel
theorem dX0_isSame_5 : decode cX0_isSame 5 = .ok (.istore 4, 2) := by decide +kernel
theorem dX0_isSame_7 : decode cX0_isSame 7 = .ok (.iconst 0, 1) := by decide +kernel
theorem dX0_isSame_8 : decode cX0_isSame 8 = .ok (.istore 5, 2) := by decide +kernel
theorem dX0_isSame_10 : decode cX0_isSame 10 = .ok (.iload 5, 2) := by decide +kernel
theorem dX0_isSame_12 : decode cX0_isSame 12 = .ok (.iload 4, 2) := by decide +kernel
theorem dX0_isSame_14 : decode cX0_isSame 14 = .ok (.if_icmp .ge 34, 3) := by decide +kernel
theorem dX0_isSame_17 : decode cX0_isSame 17 = .ok (.aload_n 1, 1) := by decide +kernel
theorem dX0_isSame_18 : decode cX0_isSame 18 = .ok (.iload_n 2, 1) := by decide +kernel
theorem dX0_isSame_19 : decode cX0_isSame 19 = .ok (.iload 5, 2) := by decide +kernel
theorem dX0_isSame_21 : decode cX0_isSame 21 = .ok (.iadd, 1) := by decide +kernel
theorem dX0_isSame_22 : decode cX0_isSame 22 = .ok (.iaload, 1) := by decide +kernel
theorem dX0_isSame_23 : decode cX0_isSame 23 = .ok (.aload_n 0, 1) := by decide +kernel
theorem dX0_isSame_24 : decode cX0_isSame 24 = .ok (.getfield 17, 3) := by decide +kernel
theorem dX0_isSame_27 : decode cX0_isSame 27 = .ok (.aload_n 0, 1) := by decide +kernel
theorem dX0_isSame_28 : decode cX0_isSame 28 = .ok (.getfield 20, 3) := by decide +kernel
theorem dX0_isSame_31 : decode cX0_isSame 31 = .ok (.iload_n 3, 1) := by decide +kernel
theorem dX0_isSame_32 : decode cX0_isSame 32 = .ok (.iaload, 1) := by decide +kernel
theorem dX0_isSame_33 : decode cX0_isSame 33 = .ok (.iload 5, 2) := by decide +kernel
theorem dX0_isSame_35 : decode cX0_isSame 35 = .ok (.iadd, 1) := by decide +kernel
theorem dX0_isSame_36 : decode cX0_isSame 36 = .ok (.iaload, 1) := by decide +kernel
theorem dX0_isSame_37 : decode cX0_isSame 37 = .ok (.if_icmp .eq 5, 3) := by decide +kernel
theorem dX0_isSame_40 : decode cX0_isSame 40 = .ok (.iconst 0, 1) := by decide +kernel
theorem dX0_isSame_41 : decode cX0_isSame 41 = .ok (.ireturn, 1) := by decide +kernel
theorem dX0_isSame_42 : decode cX0_isSame 42 = .ok (.iinc 5 1, 3) := by decide +kernel
theorem dX0_isSame_45 : decode cX0_isSame 45 = .ok (.goto (-35), 3) := by decide +kernel
theorem dX0_isSame_48 : decode cX0_isSame 48 = .ok (.iconst 1, 1) := by decide +kernel
theorem dX0_isSame_49 : decode cX0_isSame 49 = .ok (.ireturn, 1) := by decide +kernel
theorem dX0_hasRoomFor_0 : decode cX0_hasRoomFor 0 = .ok (.aload_n 0, 1) := by decide +kernel
theorem dX0_hasRoomFor_1 : decode cX0_hasRoomFor 1 = .ok (.getfield 23, 3) := by decide +kernel
theorem dX0_hasRoomFor_4 : decode cX0_hasRoomFor 4 = .ok (.sipush 3000, 3) := by decide +kernel
theorem dX0_hasRoomFor_7 : decode cX0_hasRoomFor 7 = .ok (.if_icmp .ge 26, 3) := by decide +kernel
theorem dX0_hasRoomFor_10 : decode cX0_hasRoomFor 10 = .ok (.iload_n 1, 1) := by decide +kernel
theorem dX0_hasRoomFor_11 : decode cX0_hasRoomFor 11 = .ok (.sipush 20000, 3) := by decide +kernel
theorem dX0_hasRoomFor_14 : decode cX0_hasRoomFor 14 = .ok (.aload_n 0, 1) := by decide +kernel
theorem dX0_hasRoomFor_15 : decode cX0_hasRoomFor 15 = .ok (.getfield 20, 3) := by decide +kernel
theorem dX0_hasRoomFor_18 : decode cX0_hasRoomFor 18 = .ok (.aload_n 0, 1) := by decide +kernel
theorem dX0_hasRoomFor_19 : decode cX0_hasRoomFor 19 = .ok (.getfield 23, 3) := by decide +kernel
theorem dX0_hasRoomFor_22 : decode cX0_hasRoomFor 22 = .ok (.iconst 1, 1) := by decide +kernel
theorem dX0_hasRoomFor_23 : decode cX0_hasRoomFor 23 = .ok (.iadd, 1) := by decide +kernel
theorem dX0_hasRoomFor_24 : decode cX0_hasRoomFor 24 = .ok (.iaload, 1) := by decide +kernel
theorem dX0_hasRoomFor_25 : decode cX0_hasRoomFor 25 = .ok (.isub, 1) := by decide +kernel
theorem dX0_hasRoomFor_26 : decode cX0_hasRoomFor 26 = .ok (.if_icmp .gt 7, 3) := by decide +kernel
theorem dX0_hasRoomFor_29 : decode cX0_hasRoomFor 29 = .ok (.iconst 1, 1) := by decide +kernel
theorem dX0_hasRoomFor_30 : decode cX0_hasRoomFor 30 = .ok (.goto 4, 3) := by decide +kernel
theorem dX0_hasRoomFor_33 : decode cX0_hasRoomFor 33 = .ok (.iconst 0, 1) := by decide +kernel
theorem dX0_hasRoomFor_34 : decode cX0_hasRoomFor 34 = .ok (.ireturn, 1) := by decide +kernel
theorem dX0_add_0 : decode cX0_add 0 = .ok (.aload_n 0, 1) := by decide +kernel
theorem dX0_add_1 : decode cX0_add 1 = .ok (.getfield 20, 3) := by decide +kernel
theorem dX0_add_4 : decode cX0_add 4 = .ok (.aload_n 0, 1) := by decide +kernel
theorem dX0_add_5 : decode cX0_add 5 = .ok (.getfield 23, 3) := by decide +kernel
theorem dX0_add_8 : decode cX0_add 8 = .ok (.iconst 1, 1) := by decide +kernel
theorem dX0_add_9 : decode cX0_add 9 = .ok (.iadd, 1) := by decide +kernel
theorem dX0_add_10 : decode cX0_add 10 = .ok (.iaload, 1) := by decide +kernel
theorem dX0_add_11 : decode cX0_add 11 = .ok (.istore 4, 2) := by decide +kernel
theorem dX0_add_13 : decode cX0_add 13 = .ok (.aload_n 1, 1) := by decide +kernel
theorem dX0_add_14 : decode cX0_add 14 = .ok (.iload_n 2, 1) := by decide +kernel
theorem dX0_add_15 : decode cX0_add 15 = .ok (.aload_n 0, 1) := by decide +kernel
theorem dX0_add_16 : decode cX0_add 16 = .ok (.getfield 17, 3) := by decide +kernel
theorem dX0_add_19 : decode cX0_add 19 = .ok (.iload 4, 2) := by decide +kernel
theorem dX0_add_21 : decode cX0_add 21 = .ok (.iload_n 3, 1) := by decide +kernel
theorem dX0_add_22 : decode cX0_add 22 = .ok (.invokestatic 42, 3) := by decide +kernel
theorem dX0_add_25 : decode cX0_add 25 = .ok (.aload_n 0, 1) := by decide +kernel
theorem dX0_add_26 : decode cX0_add 26 = .ok (.dup, 1) := by decide +kernel
theorem dX0_add_27 : decode cX0_add 27 = .ok (.getfield 23, 3) := by decide +kernel
theorem dX0_add_30 : decode cX0_add 30 = .ok (.iconst 1, 1) := by decide +kernel
theorem dX0_add_31 : decode cX0_add 31 = .ok (.iadd, 1) := by decide +kernel
theorem dX0_add_32 : decode cX0_add 32 = .ok (.putfield 23, 3) := by decide +kernel
theorem dX0_add_35 : decode cX0_add 35 = .ok (.aload_n 0, 1) := by decide +kernel
theorem dX0_add_36 : decode cX0_add 36 = .ok (.getfield 20, 3) := by decide +kernel
theorem dX0_add_39 : decode cX0_add 39 = .ok (.aload_n 0, 1) := by decide +kernel
theorem dX0_add_40 : decode cX0_add 40 = .ok (.getfield 23, 3) := by decide +kernel
theorem dX0_add_43 : decode cX0_add 43 = .ok (.iconst 1, 1) := by decide +kernel
theorem dX0_add_44 : decode cX0_add 44 = .ok (.iadd, 1) := by decide +kernel
theorem dX0_add_45 : decode cX0_add 45 = .ok (.iload 4, 2) := by decide +kernel
theorem dX0_add_47 : decode cX0_add 47 = .ok (.iload_n 3, 1) := by decide +kernel
theorem dX0_add_48 : decode cX0_add 48 = .ok (.iadd, 1) := by decide +kernel
theorem dX0_add_49 : decode cX0_add 49 = .ok (.iastore, 1) := by decide +kernel
theorem dX0_add_50 : decode cX0_add 50 = .ok (.aload_n 0, 1) := by decide +kernel
theorem dX0_add_51 : decode cX0_add 51 = .ok (.getfield 23, 3) := by decide +kernel
theorem dX0_add_54 : decode cX0_add 54 = .ok (.ireturn, 1) := by decide +kernel
set_option maxRecDepth 20000 in
theorem ggX0_order_X0_lengthOf : GoodIn wsX0_order wsX0_lengthOf := goodIn_r _ [11, 6, 12, 13, 14, 15, 16] (by decide +kernel) (by decide +kernel)
set_option maxRecDepth 20000 in
theorem gX0_order_X0_lengthOf : GoodIn wsX0_order (wsV RX0 38 RX0 yX0_lengthOf wsX0_lengthOf) := goodIn_app (goodIn_of _ (by decide +kernel)) ggX0_order_X0_lengthOf
theorem dX0_order_0 : decode cX0_order 0 = .ok (.aload_n 0, 1) := by decide +kernel
theorem dX0_order_1 : decode cX0_order 1 = .ok (.iload_n 1, 1) := by decide +kernel
theorem dX0_order_2 : decode cX0_order 2 = .ok (.invokevirtual 38, 3) := by decide +kernel
theorem dX0_order_5 : decode cX0_order 5 = .ok (.aload_n 0, 1) := by decide +kernel
theorem dX0_order_6 : decode cX0_order 6 = .ok (.iload_n 2, 1) := by decide +kernel
theorem dX0_order_7 : decode cX0_order 7 = .ok (.invokevirtual 38, 3) := by decide +kernel
theorem dX0_order_10 : decode cX0_order 10 = .ok (.invokestatic 68, 3) := by decide +kernel
theorem dX0_order_13 : decode cX0_order 13 = .ok (.istore_n 3, 1) := by decide +kernel
theorem dX0_order_14 : decode cX0_order 14 = .ok (.iconst 0, 1) := by decide +kernel
theorem dX0_order_15 : decode cX0_order 15 = .ok (.istore 4, 2) := by decide +kernel
theorem dX0_order_17 : decode cX0_order 17 = .ok (.iload 4, 2) := by decide +kernel
theorem dX0_order_19 : decode cX0_order 19 = .ok (.iload_n 3, 1) := by decide +kernel
theorem dX0_order_20 : decode cX0_order 20 = .ok (.if_icmp .ge 61, 3) := by decide +kernel
theorem dX0_order_23 : decode cX0_order 23 = .ok (.aload_n 0, 1) := by decide +kernel
theorem dX0_order_24 : decode cX0_order 24 = .ok (.getfield 17, 3) := by decide +kernel
theorem dX0_order_27 : decode cX0_order 27 = .ok (.aload_n 0, 1) := by decide +kernel
theorem dX0_order_28 : decode cX0_order 28 = .ok (.getfield 20, 3) := by decide +kernel
theorem dX0_order_31 : decode cX0_order 31 = .ok (.iload_n 1, 1) := by decide +kernel
theorem dX0_order_32 : decode cX0_order 32 = .ok (.iaload, 1) := by decide +kernel
theorem dX0_order_33 : decode cX0_order 33 = .ok (.iload 4, 2) := by decide +kernel
theorem dX0_order_35 : decode cX0_order 35 = .ok (.iadd, 1) := by decide +kernel
theorem dX0_order_36 : decode cX0_order 36 = .ok (.iaload, 1) := by decide +kernel
theorem dX0_order_37 : decode cX0_order 37 = .ok (.istore 5, 2) := by decide +kernel
theorem dX0_order_39 : decode cX0_order 39 = .ok (.aload_n 0, 1) := by decide +kernel
theorem dX0_order_40 : decode cX0_order 40 = .ok (.getfield 17, 3) := by decide +kernel
theorem dX0_order_43 : decode cX0_order 43 = .ok (.aload_n 0, 1) := by decide +kernel
theorem dX0_order_44 : decode cX0_order 44 = .ok (.getfield 20, 3) := by decide +kernel
theorem dX0_order_47 : decode cX0_order 47 = .ok (.iload_n 2, 1) := by decide +kernel
theorem dX0_order_48 : decode cX0_order 48 = .ok (.iaload, 1) := by decide +kernel
theorem dX0_order_49 : decode cX0_order 49 = .ok (.iload 4, 2) := by decide +kernel
theorem dX0_order_51 : decode cX0_order 51 = .ok (.iadd, 1) := by decide +kernel
theorem dX0_order_52 : decode cX0_order 52 = .ok (.iaload, 1) := by decide +kernel
theorem dX0_order_53 : decode cX0_order 53 = .ok (.istore 6, 2) := by decide +kernel
theorem dX0_order_55 : decode cX0_order 55 = .ok (.iload 5, 2) := by decide +kernel
theorem dX0_order_57 : decode cX0_order 57 = .ok (.iload 6, 2) := by decide +kernel
theorem dX0_order_59 : decode cX0_order 59 = .ok (.if_icmp .eq 16, 3) := by decide +kernel
theorem dX0_order_62 : decode cX0_order 62 = .ok (.iload 5, 2) := by decide +kernel
theorem dX0_order_64 : decode cX0_order 64 = .ok (.iload 6, 2) := by decide +kernel
theorem dX0_order_66 : decode cX0_order 66 = .ok (.if_icmp .ge 7, 3) := by decide +kernel
theorem dX0_order_69 : decode cX0_order 69 = .ok (.iconst (-1), 1) := by decide +kernel
theorem dX0_order_70 : decode cX0_order 70 = .ok (.goto 4, 3) := by decide +kernel
theorem dX0_order_73 : decode cX0_order 73 = .ok (.iconst 1, 1) := by decide +kernel
theorem dX0_order_74 : decode cX0_order 74 = .ok (.ireturn, 1) := by decide +kernel
theorem dX0_order_75 : decode cX0_order 75 = .ok (.iinc 4 1, 3) := by decide +kernel
theorem dX0_order_78 : decode cX0_order 78 = .ok (.goto (-61), 3) := by decide +kernel
theorem dX0_order_81 : decode cX0_order 81 = .ok (.aload_n 0, 1) := by decide +kernel
theorem dX0_order_82 : decode cX0_order 82 = .ok (.iload_n 1, 1) := by decide +kernel
theorem dX0_order_83 : decode cX0_order 83 = .ok (.invokevirtual 38, 3) := by decide +kernel
theorem dX0_order_86 : decode cX0_order 86 = .ok (.aload_n 0, 1) := by decide +kernel
theorem dX0_order_87 : decode cX0_order 87 = .ok (.iload_n 2, 1) := by decide +kernel
theorem dX0_order_88 : decode cX0_order 88 = .ok (.invokevirtual 38, 3) := by decide +kernel
theorem dX0_order_91 : decode cX0_order 91 = .ok (.if_icmp .ne 5, 3) := by decide +kernel
theorem dX0_order_94 : decode cX0_order 94 = .ok (.iconst 0, 1) := by decide +kernel
theorem dX0_order_95 : decode cX0_order 95 = .ok (.ireturn, 1) := by decide +kernel
theorem dX0_order_96 : decode cX0_order 96 = .ok (.aload_n 0, 1) := by decide +kernel
theorem dX0_order_97 : decode cX0_order 97 = .ok (.iload_n 1, 1) := by decide +kernel
theorem dX0_order_98 : decode cX0_order 98 = .ok (.invokevirtual 38, 3) := by decide +kernel
theorem dX0_order_101 : decode cX0_order 101 = .ok (.aload_n 0, 1) := by decide +kernel
theorem dX0_order_102 : decode cX0_order 102 = .ok (.iload_n 2, 1) := by decide +kernel
theorem dX0_order_103 : decode cX0_order 103 = .ok (.invokevirtual 38, 3) := by decide +kernel
theorem dX0_order_106 : decode cX0_order 106 = .ok (.if_icmp .ge 7, 3) := by decide +kernel
theorem dX0_order_109 : decode cX0_order 109 = .ok (.iconst (-1), 1) := by decide +kernel
theorem dX0_order_110 : decode cX0_order 110 = .ok (.goto 4, 3) := by decide +kernel
theorem dX0_order_113 : decode cX0_order 113 = .ok (.iconst 1, 1) := by decide +kernel
theorem dX0_order_114 : decode cX0_order 114 = .ok (.ireturn, 1) := by decide +kernel
theorem dX0_findColon_0 : decode cX0_findColon 0 = .ok (.iload_n 1, 1) := by decide +kernel
theorem dX0_findColon_1 : decode cX0_findColon 1 = .ok (.istore_n 3, 1) := by decide +kernel
theorem dX0_findColon_2 : decode cX0_findColon 2 = .ok (.iload_n 3, 1) := by decide +kernel
theorem dX0_findColon_3 : decode cX0_findColon 3 = .ok (.iload_n 2, 1) := by decide +kernel
theorem dX0_findColon_4 : decode cX0_findColon 4 = .ok (.if_icmp .ge 22, 3) := by decide +kernel
theorem dX0_findColon_7 : decode cX0_findColon 7 = .ok (.aload_n 0, 1) := by decide +kernel
theorem dX0_findColon_8 : decode cX0_findColon 8 = .ok (.getfield 17, 3) := by decide +kernel
theorem dX0_findColon_11 : decode cX0_findColon 11 = .ok (.iload_n 3, 1) := by decide +kernel
theorem dX0_findColon_12 : decode cX0_findColon 12 = .ok (.iaload, 1) := by decide +kernel
theorem dX0_findColon_13 : decode cX0_findColon 13 = .ok (.bipush 58, 2) := by decide +kernel
theorem dX0_findColon_15 : decode cX0_findColon 15 = .ok (.if_icmp .ne 5, 3) := by decide +kernel
theorem dX0_findColon_18 : decode cX0_findColon 18 = .ok (.iload_n 3, 1) := by decide +kernel
theorem dX0_findColon_19 : decode cX0_findColon 19 = .ok (.ireturn, 1) := by decide +kernel
theorem dX0_findColon_20 : decode cX0_findColon 20 = .ok (.iinc 3 1, 3) := by decide +kernel
theorem dX0_findColon_23 : decode cX0_findColon 23 = .ok (.goto (-21), 3) := by decide +kernel
theorem dX0_findColon_26 : decode cX0_findColon 26 = .ok (.iload_n 2, 1) := by decide +kernel
theorem dX0_findColon_27 : decode cX0_findColon 27 = .ok (.ireturn, 1) := by decide +kernel
theorem dX0_isNameStart_0 : decode cX0_isNameStart 0 = .ok (.iconst 0, 1) := by decide +kernel
theorem dX0_isNameStart_1 : decode cX0_isNameStart 1 = .ok (.istore_n 1, 1) := by decide +kernel
theorem dX0_isNameStart_2 : decode cX0_isNameStart 2 = .ok (.iload_n 1, 1) := by decide +kernel
theorem dX0_isNameStart_3 : decode cX0_isNameStart 3 = .ok (.iconst 1, 1) := by decide +kernel
theorem dX0_isNameStart_4 : decode cX0_isNameStart 4 = .ok (.iadd, 1) := by decide +kernel
theorem dX0_isNameStart_5 : decode cX0_isNameStart 5 = .ok (.getstatic 73, 3) := by decide +kernel
theorem dX0_isNameStart_8 : decode cX0_isNameStart 8 = .ok (.arraylength, 1) := by decide +kernel
theorem dX0_isNameStart_9 : decode cX0_isNameStart 9 = .ok (.if_icmp .ge 31, 3) := by decide +kernel
theorem dX0_isNameStart_12 : decode cX0_isNameStart 12 = .ok (.iload_n 0, 1) := by decide +kernel
theorem dX0_isNameStart_13 : decode cX0_isNameStart 13 = .ok (.getstatic 73, 3) := by decide +kernel
theorem dX0_isNameStart_16 : decode cX0_isNameStart 16 = .ok (.iload_n 1, 1) := by decide +kernel
theorem dX0_isNameStart_17 : decode cX0_isNameStart 17 = .ok (.iaload, 1) := by decide +kernel
theorem dX0_isNameStart_18 : decode cX0_isNameStart 18 = .ok (.if_icmp .lt 16, 3) := by decide +kernel
theorem dX0_isNameStart_21 : decode cX0_isNameStart 21 = .ok (.iload_n 0, 1) := by decide +kernel
theorem dX0_isNameStart_22 : decode cX0_isNameStart 22 = .ok (.getstatic 73, 3) := by decide +kernel
theorem dX0_isNameStart_25 : decode cX0_isNameStart 25 = .ok (.iload_n 1, 1) := by decide +kernel
theorem dX0_isNameStart_26 : decode cX0_isNameStart 26 = .ok (.iconst 1, 1) := by decide +kernel
theorem dX0_isNameStart_27 : decode cX0_isNameStart 27 = .ok (.iadd, 1) := by decide +kernel
theorem dX0_isNameStart_28 : decode cX0_isNameStart 28 = .ok (.iaload, 1) := by decide +kernel
theorem dX0_isNameStart_29 : decode cX0_isNameStart 29 = .ok (.if_icmp .gt 5, 3) := by decide +kernel
theorem dX0_isNameStart_32 : decode cX0_isNameStart 32 = .ok (.iconst 1, 1) := by decide +kernel
theorem dX0_isNameStart_33 : decode cX0_isNameStart 33 = .ok (.ireturn, 1) := by decide +kernel
theorem dX0_isNameStart_34 : decode cX0_isNameStart 34 = .ok (.iinc 1 2, 3) := by decide +kernel
theorem dX0_isNameStart_37 : decode cX0_isNameStart 37 = .ok (.goto (-35), 3) := by decide +kernel
theorem dX0_isNameStart_40 : decode cX0_isNameStart 40 = .ok (.iconst 0, 1) := by decide +kernel
theorem dX0_isNameStart_41 : decode cX0_isNameStart 41 = .ok (.ireturn, 1) := by decide +kernel
