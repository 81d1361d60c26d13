abbrev cX1_part : ByteArray := prog_3_method_19_code
def yX1_part : MethodName := ⟨RX1, "part", "(III)I"⟩
abbrev cX1_next : ByteArray := prog_3_method_20_code
def yX1_next : MethodName := ⟨RX1, "next", "(I)I"⟩
abbrev cX1_clear : ByteArray := prog_3_method_21_code
def yX1_clear : MethodName := ⟨RX1, "clear", "()I"⟩
def wsX1_part : List Cond := .code yX1_part cX1_part 5 (some .int) :: ([.fieldLink RX1 16 "NameNumbersModel" "lengths" "[I", .fieldLink RX1 33 "NameNumbersModel" "soughtLength" "I", .fieldLink RX1 22 "NameNumbersModel" "sought" "[I", .fieldLink RX1 7 "NameNumbersModel" "signs" "[I", .fieldLink RX1 13 "NameNumbersModel" "starts" "[I", .methodLink RX1 49 yX1_isRow, .instanceMethod yX1_isRow, .selects RX1 yX1_isRow yX1_isRow, .initialized RX1, .code yX1_isRow cX1_isRow 2 (some .boolean), .fieldLink RX1 30 "NameNumbersModel" "rows" "I", .methodLink RX1 46 yX1_get, .instanceMethod yX1_get, .selects RX1 yX1_get yX1_get, .code yX1_get cX1_get 3 (some .int), .fieldLink RX1 40 "NameNumbersModel" "used" "I", .methodLink RX1 36 yX1_find, .instanceMethod yX1_find, .selects RX1 yX1_find yX1_find, .code yX1_find cX1_find 5 (some .int)] ++ wsX10)
set_option maxRecDepth 20000 in
theorem ggX1_part_X1_isRow : GoodIn wsX1_part wsX1_isRow := goodIn_r _ [10, 11, 21, 22, 23, 24, 25, 26, 27, 28, 29] (by decide +kernel) (by decide +kernel)
set_option maxRecDepth 20000 in
theorem gX1_part_X1_isRow : GoodIn wsX1_part (wsV RX1 49 RX1 yX1_isRow wsX1_isRow) := goodIn_app (goodIn_of _ (by decide +kernel)) ggX1_part_X1_isRow
set_option maxRecDepth 20000 in
theorem ggX1_part_X1_get : GoodIn wsX1_part wsX1_get := goodIn_r _ [15, 11, 16, 2, 5, 1, 4, 3, 17, 18, 19, 9, 20, 21, 22, 23, 24, 25, 26, 27, 28, 29] (by decide +kernel) (by decide +kernel)
set_option maxRecDepth 20000 in
theorem gX1_part_X1_get : GoodIn wsX1_part (wsV RX1 46 RX1 yX1_get wsX1_get) := goodIn_app (goodIn_of _ (by decide +kernel)) ggX1_part_X1_get
theorem dX1_part_0 : decode cX1_part 0 = .ok (.aload_n 0, 1) := by decide +kernel
theorem dX1_part_1 : decode cX1_part 1 = .ok (.iload_n 1, 1) := by decide +kernel
theorem dX1_part_2 : decode cX1_part 2 = .ok (.invokevirtual 49, 3) := by decide +kernel
theorem dX1_part_5 : decode cX1_part 5 = .ok (.ifCond .eq 33, 3) := by decide +kernel
theorem dX1_part_8 : decode cX1_part 8 = .ok (.iload_n 2, 1) := by decide +kernel
theorem dX1_part_9 : decode cX1_part 9 = .ok (.ifCond .lt 29, 3) := by decide +kernel
theorem dX1_part_12 : decode cX1_part 12 = .ok (.iload_n 3, 1) := by decide +kernel
theorem dX1_part_13 : decode cX1_part 13 = .ok (.ifCond .lt 25, 3) := by decide +kernel
theorem dX1_part_16 : decode cX1_part 16 = .ok (.iload_n 2, 1) := by decide +kernel
theorem dX1_part_17 : decode cX1_part 17 = .ok (.aload_n 0, 1) := by decide +kernel
theorem dX1_part_18 : decode cX1_part 18 = .ok (.getfield 16, 3) := by decide +kernel
theorem dX1_part_21 : decode cX1_part 21 = .ok (.iload_n 1, 1) := by decide +kernel
theorem dX1_part_22 : decode cX1_part 22 = .ok (.iaload, 1) := by decide +kernel
theorem dX1_part_23 : decode cX1_part 23 = .ok (.if_icmp .gt 15, 3) := by decide +kernel
theorem dX1_part_26 : decode cX1_part 26 = .ok (.iload_n 3, 1) := by decide +kernel
theorem dX1_part_27 : decode cX1_part 27 = .ok (.aload_n 0, 1) := by decide +kernel
theorem dX1_part_28 : decode cX1_part 28 = .ok (.getfield 16, 3) := by decide +kernel
theorem dX1_part_31 : decode cX1_part 31 = .ok (.iload_n 1, 1) := by decide +kernel
theorem dX1_part_32 : decode cX1_part 32 = .ok (.iaload, 1) := by decide +kernel
theorem dX1_part_33 : decode cX1_part 33 = .ok (.iload_n 2, 1) := by decide +kernel
theorem dX1_part_34 : decode cX1_part 34 = .ok (.isub, 1) := by decide +kernel
theorem dX1_part_35 : decode cX1_part 35 = .ok (.if_icmp .le 5, 3) := by decide +kernel
theorem dX1_part_38 : decode cX1_part 38 = .ok (.iconst (-1), 1) := by decide +kernel
theorem dX1_part_39 : decode cX1_part 39 = .ok (.ireturn, 1) := by decide +kernel
theorem dX1_part_40 : decode cX1_part 40 = .ok (.aload_n 0, 1) := by decide +kernel
theorem dX1_part_41 : decode cX1_part 41 = .ok (.iload_n 3, 1) := by decide +kernel
theorem dX1_part_42 : decode cX1_part 42 = .ok (.putfield 33, 3) := by decide +kernel
theorem dX1_part_45 : decode cX1_part 45 = .ok (.iconst 0, 1) := by decide +kernel
theorem dX1_part_46 : decode cX1_part 46 = .ok (.istore 4, 2) := by decide +kernel
theorem dX1_part_48 : decode cX1_part 48 = .ok (.iload 4, 2) := by decide +kernel
theorem dX1_part_50 : decode cX1_part 50 = .ok (.iload_n 3, 1) := by decide +kernel
theorem dX1_part_51 : decode cX1_part 51 = .ok (.if_icmp .ge 32, 3) := by decide +kernel
theorem dX1_part_54 : decode cX1_part 54 = .ok (.aload_n 0, 1) := by decide +kernel
theorem dX1_part_55 : decode cX1_part 55 = .ok (.getfield 22, 3) := by decide +kernel
theorem dX1_part_58 : decode cX1_part 58 = .ok (.iload 4, 2) := by decide +kernel
theorem dX1_part_60 : decode cX1_part 60 = .ok (.aload_n 0, 1) := by decide +kernel
theorem dX1_part_61 : decode cX1_part 61 = .ok (.getfield 7, 3) := by decide +kernel
theorem dX1_part_64 : decode cX1_part 64 = .ok (.aload_n 0, 1) := by decide +kernel
theorem dX1_part_65 : decode cX1_part 65 = .ok (.getfield 13, 3) := by decide +kernel
theorem dX1_part_68 : decode cX1_part 68 = .ok (.iload_n 1, 1) := by decide +kernel
theorem dX1_part_69 : decode cX1_part 69 = .ok (.iaload, 1) := by decide +kernel
theorem dX1_part_70 : decode cX1_part 70 = .ok (.iload_n 2, 1) := by decide +kernel
theorem dX1_part_71 : decode cX1_part 71 = .ok (.iadd, 1) := by decide +kernel
theorem dX1_part_72 : decode cX1_part 72 = .ok (.iload 4, 2) := by decide +kernel
theorem dX1_part_74 : decode cX1_part 74 = .ok (.iadd, 1) := by decide +kernel
theorem dX1_part_75 : decode cX1_part 75 = .ok (.iaload, 1) := by decide +kernel
theorem dX1_part_76 : decode cX1_part 76 = .ok (.iastore, 1) := by decide +kernel
theorem dX1_part_77 : decode cX1_part 77 = .ok (.iinc 4 1, 3) := by decide +kernel
theorem dX1_part_80 : decode cX1_part 80 = .ok (.goto (-32), 3) := by decide +kernel
theorem dX1_part_83 : decode cX1_part 83 = .ok (.aload_n 0, 1) := by decide +kernel
theorem dX1_part_84 : decode cX1_part 84 = .ok (.invokevirtual 46, 3) := by decide +kernel
theorem dX1_part_87 : decode cX1_part 87 = .ok (.ireturn, 1) := by decide +kernel
def wsX1_next : List Cond := .code yX1_next cX1_next 4 (some .int) :: ([.fieldLink RX1 30 "NameNumbersModel" "rows" "I", .methodLink RX1 49 yX1_isRow, .instanceMethod yX1_isRow, .selects RX1 yX1_isRow yX1_isRow, .initialized RX1, .code yX1_isRow cX1_isRow 2 (some .boolean), .methodLink RX1 53 yX1_order, .instanceMethod yX1_order, .selects RX1 yX1_order yX1_order, .code yX1_order cX1_order 6 (some .int), .fieldLink RX1 16 "NameNumbersModel" "lengths" "[I", .fieldLink RX1 7 "NameNumbersModel" "signs" "[I", .fieldLink RX1 13 "NameNumbersModel" "starts" "[I"] ++ wsX10)
set_option maxRecDepth 20000 in
theorem ggX1_next_X1_isRow : GoodIn wsX1_next wsX1_isRow := goodIn_r _ [6, 1, 14, 15, 16, 17, 18, 19, 20, 21, 22] (by decide +kernel) (by decide +kernel)
set_option maxRecDepth 20000 in
theorem gX1_next_X1_isRow : GoodIn wsX1_next (wsV RX1 49 RX1 yX1_isRow wsX1_isRow) := goodIn_app (goodIn_of _ (by decide +kernel)) ggX1_next_X1_isRow
set_option maxRecDepth 20000 in
theorem ggX1_next_X1_order : GoodIn wsX1_next wsX1_order := goodIn_r _ [10, 11, 12, 13, 14, 15, 16, 17, 18, 19, 20, 21, 22] (by decide +kernel) (by decide +kernel)
set_option maxRecDepth 20000 in
theorem gX1_next_X1_order : GoodIn wsX1_next (wsV RX1 53 RX1 yX1_order wsX1_order) := goodIn_app (goodIn_of _ (by decide +kernel)) ggX1_next_X1_order
theorem dX1_next_0 : decode cX1_next 0 = .ok (.aload_n 0, 1) := by decide +kernel
theorem dX1_next_1 : decode cX1_next 1 = .ok (.iload_n 1, 1) := by decide +kernel
theorem dX1_next_2 : decode cX1_next 2 = .ok (.invokevirtual 49, 3) := by decide +kernel
theorem dX1_next_5 : decode cX1_next 5 = .ok (.ifCond .ne 5, 3) := by decide +kernel
theorem dX1_next_8 : decode cX1_next 8 = .ok (.iconst (-1), 1) := by decide +kernel
theorem dX1_next_9 : decode cX1_next 9 = .ok (.ireturn, 1) := by decide +kernel
theorem dX1_next_10 : decode cX1_next 10 = .ok (.iconst 0, 1) := by decide +kernel
theorem dX1_next_11 : decode cX1_next 11 = .ok (.istore_n 2, 1) := by decide +kernel
theorem dX1_next_12 : decode cX1_next 12 = .ok (.iconst 1, 1) := by decide +kernel
theorem dX1_next_13 : decode cX1_next 13 = .ok (.istore_n 3, 1) := by decide +kernel
theorem dX1_next_14 : decode cX1_next 14 = .ok (.iload_n 3, 1) := by decide +kernel
theorem dX1_next_15 : decode cX1_next 15 = .ok (.aload_n 0, 1) := by decide +kernel
theorem dX1_next_16 : decode cX1_next 16 = .ok (.getfield 30, 3) := by decide +kernel
theorem dX1_next_19 : decode cX1_next 19 = .ok (.if_icmp .gt 37, 3) := by decide +kernel
theorem dX1_next_22 : decode cX1_next 22 = .ok (.aload_n 0, 1) := by decide +kernel
theorem dX1_next_23 : decode cX1_next 23 = .ok (.iload_n 3, 1) := by decide +kernel
theorem dX1_next_24 : decode cX1_next 24 = .ok (.iload_n 1, 1) := by decide +kernel
theorem dX1_next_25 : decode cX1_next 25 = .ok (.invokevirtual 53, 3) := by decide +kernel
theorem dX1_next_28 : decode cX1_next 28 = .ok (.ifCond .le 20, 3) := by decide +kernel
theorem dX1_next_31 : decode cX1_next 31 = .ok (.iload_n 2, 1) := by decide +kernel
theorem dX1_next_32 : decode cX1_next 32 = .ok (.ifCond .eq 12, 3) := by decide +kernel
theorem dX1_next_35 : decode cX1_next 35 = .ok (.aload_n 0, 1) := by decide +kernel
theorem dX1_next_36 : decode cX1_next 36 = .ok (.iload_n 3, 1) := by decide +kernel
theorem dX1_next_37 : decode cX1_next 37 = .ok (.iload_n 2, 1) := by decide +kernel
theorem dX1_next_38 : decode cX1_next 38 = .ok (.invokevirtual 53, 3) := by decide +kernel
theorem dX1_next_41 : decode cX1_next 41 = .ok (.ifCond .ge 7, 3) := by decide +kernel
theorem dX1_next_44 : decode cX1_next 44 = .ok (.iload_n 3, 1) := by decide +kernel
theorem dX1_next_45 : decode cX1_next 45 = .ok (.goto 4, 3) := by decide +kernel
theorem dX1_next_48 : decode cX1_next 48 = .ok (.iload_n 2, 1) := by decide +kernel
theorem dX1_next_49 : decode cX1_next 49 = .ok (.istore_n 2, 1) := by decide +kernel
theorem dX1_next_50 : decode cX1_next 50 = .ok (.iinc 3 1, 3) := by decide +kernel
theorem dX1_next_53 : decode cX1_next 53 = .ok (.goto (-39), 3) := by decide +kernel
theorem dX1_next_56 : decode cX1_next 56 = .ok (.iload_n 2, 1) := by decide +kernel
theorem dX1_next_57 : decode cX1_next 57 = .ok (.ireturn, 1) := by decide +kernel
def wsX1_clear : List Cond := .code yX1_clear cX1_clear 2 (some .int) :: ([.fieldLink RX1 30 "NameNumbersModel" "rows" "I", .fieldLink RX1 40 "NameNumbersModel" "used" "I"] ++ wsX10)
theorem dX1_clear_0 : decode cX1_clear 0 = .ok (.aload_n 0, 1) := by decide +kernel
theorem dX1_clear_1 : decode cX1_clear 1 = .ok (.getfield 30, 3) := by decide +kernel
theorem dX1_clear_4 : decode cX1_clear 4 = .ok (.istore_n 1, 1) := by decide +kernel
theorem dX1_clear_5 : decode cX1_clear 5 = .ok (.aload_n 0, 1) := by decide +kernel
theorem dX1_clear_6 : decode cX1_clear 6 = .ok (.iconst 0, 1) := by decide +kernel
theorem dX1_clear_7 : decode cX1_clear 7 = .ok (.putfield 30, 3) := by decide +kernel
theorem dX1_clear_10 : decode cX1_clear 10 = .ok (.aload_n 0, 1) := by decide +kernel
theorem dX1_clear_11 : decode cX1_clear 11 = .ok (.iconst 0, 1) := by decide +kernel
theorem dX1_clear_12 : decode cX1_clear 12 = .ok (.putfield 40, 3) := by decide +kernel
theorem dX1_clear_15 : decode cX1_clear 15 = .ok (.iload_n 1, 1) := by decide +kernel
theorem dX1_clear_16 : decode cX1_clear 16 = .ok (.ireturn, 1) := by decide +kernel
set_option maxRecDepth 20000 in
theorem gL_law_X1_part : GoodIn lw_tbl (wsV RL 61 RX1 yX1_part wsX1_part) := goodIn_p _ [255, 214, 198, 202] (by decide +kernel) (by decide +kernel)
set_option maxRecDepth 20000 in
theorem gL_law_X1_next : GoodIn lw_tbl (wsV RL 65 RX1 yX1_next wsX1_next) := goodIn_p _ [259, 214, 234] (by decide +kernel) (by decide +kernel)
set_option maxRecDepth 20000 in
theorem gL_law_X1_clear : GoodIn lw_tbl (wsV RL 69 RX1 yX1_clear wsX1_clear) := goodIn_p _ [263] (by decide +kernel) (by decide +kernel)
