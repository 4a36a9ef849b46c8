/-! names of the reference's methods that NAMES.whole leaves out, by the same form -/
abbrev cX1_rights : ByteArray := prog_3_method_6_code
def yX1_rights : MethodName := ⟨RX1, "rights", "(I)I"⟩
abbrev cX1_has : ByteArray := prog_3_method_7_code
def yX1_has : MethodName := ⟨RX1, "has", "(I)Z"⟩
abbrev cX1_raise : ByteArray := prog_3_method_8_code
def yX1_raise : MethodName := ⟨RX1, "raise", "(IIII)V"⟩
abbrev cX1_inMemory : ByteArray := prog_3_method_9_code
def yX1_inMemory : MethodName := ⟨RX1, "inMemory", "(IJ)J"⟩
abbrev cX1_isSet : ByteArray := prog_3_method_10_code
def yX1_isSet : MethodName := ⟨RX1, "isSet", "(II)Z"⟩
abbrev cX1_isLeaf : ByteArray := prog_3_method_11_code
def yX1_isLeaf : MethodName := ⟨RX1, "isLeaf", "(I)Z"⟩
abbrev cX1_stands : ByteArray := prog_3_method_12_code
def yX1_stands : MethodName := ⟨RX1, "stands", "(I)Z"⟩
abbrev cX1_allows : ByteArray := prog_3_method_13_code
def yX1_allows : MethodName := ⟨RX1, "allows", "(IIZ)Z"⟩
abbrev cX1_result : ByteArray := prog_3_method_14_code
def yX1_result : MethodName := ⟨RX1, "result", "(IZJ)J"⟩
abbrev cX1_second_w : ByteArray := prog_3_method_15_code
def yX1_second_w : MethodName := ⟨RX1, "second", "(JIIZ)J"⟩
abbrev cX1_userFits : ByteArray := prog_3_method_16_code
def yX1_userFits : MethodName := ⟨RX1, "userFits", "(IZIZ)Z"⟩
abbrev cX1_first : ByteArray := prog_3_method_17_code
def yX1_first : MethodName := ⟨RX1, "first", "(IJIZZZZ)J"⟩
abbrev cX1_isKind : ByteArray := prog_3_method_18_code
def yX1_isKind : MethodName := ⟨RX1, "isKind", "(II)Z"⟩
abbrev cX1_go : ByteArray := prog_3_method_19_code
def yX1_go : MethodName := ⟨RX1, "go", "(III)V"⟩
abbrev cX1_translate : ByteArray := prog_3_method_20_code
def yX1_translate : MethodName := ⟨RX1, "translate", "(III)I"⟩
abbrev cX1_place : ByteArray := prog_3_method_21_code
def yX1_place : MethodName := ⟨RX1, "place", "()I"⟩
abbrev cX1_second : ByteArray := prog_3_method_22_code
def yX1_second : MethodName := ⟨RX1, "second", "()I"⟩
abbrev cX1_entry : ByteArray := prog_3_method_23_code
def yX1_entry : MethodName := ⟨RX1, "entry", "()Z"⟩
abbrev cX1_pages : ByteArray := prog_3_method_24_code
def yX1_pages : MethodName := ⟨RX1, "pages", "(IIII)I"⟩
def wsX1_rights : List Cond := .code yX1_rights cX1_rights 3 (some .int) :: ([.fieldLink RX1 27 "StageWalkerModel" "rights" "I"] ++ wsX10)
def wsX1_has : List Cond := .code yX1_has cX1_has 2 (some .boolean) :: ([.fieldLink RX1 27 "StageWalkerModel" "rights" "I"] ++ wsX10)
def wsX1_raise : List Cond := .code yX1_raise cX1_raise 5 none :: ([.fieldLink RX1 14 "StageWalkerModel" "code" "I"] ++ wsX10)
def wsX1_inMemory : List Cond := .code yX1_inMemory cX1_inMemory 4 (some .long) :: ([.constantLong RX1 32 (262144), .methodLink RX1 34 yX1_raise, .instanceMethod yX1_raise, .selects RX1 yX1_raise yX1_raise, .initialized RX1, .code yX1_raise cX1_raise 5 none, .fieldLink RX1 14 "StageWalkerModel" "code" "I"] ++ wsX10)
set_option maxRecDepth 20000 in
theorem ggX1_inMemory_X1_raise : GoodIn wsX1_inMemory wsX1_raise := goodIn_r _ [6, 7, 8, 9, 10, 11, 12, 13, 14, 15, 16] (by decide +kernel) (by decide +kernel)
set_option maxRecDepth 20000 in
theorem gX1_inMemory_X1_raise : GoodIn wsX1_inMemory (wsV RX1 34 RX1 yX1_raise wsX1_raise) := goodIn_app (goodIn_of _ (by decide +kernel)) ggX1_inMemory_X1_raise
def wsX1_isSet : List Cond := .code yX1_isSet cX1_isSet 2 (some .boolean) :: ([])
def wsX1_isLeaf : List Cond := .code yX1_isLeaf cX1_isLeaf 1 (some .boolean) :: ([])
def wsX1_stands : List Cond := .code yX1_stands cX1_stands 1 (some .boolean) :: ([.methodLink RX1 38 yX1_isSet, .static yX1_isSet, .initialized RX1, .code yX1_isSet cX1_isSet 2 (some .boolean)])
set_option maxRecDepth 20000 in
theorem ggX1_stands_X1_isSet : GoodIn wsX1_stands wsX1_isSet := goodIn_r _ [4] (by decide +kernel) (by decide +kernel)
set_option maxRecDepth 20000 in
theorem gX1_stands_X1_isSet : GoodIn wsX1_stands (va_wsS RX1 38 yX1_isSet wsX1_isSet) := goodIn_app (goodIn_of _ (by decide +kernel)) ggX1_stands_X1_isSet
def wsX1_allows : List Cond := .code yX1_allows cX1_allows 6 (some .boolean) :: ([.methodLink RX1 38 yX1_isSet, .static yX1_isSet, .initialized RX1, .code yX1_isSet cX1_isSet 2 (some .boolean)])
set_option maxRecDepth 20000 in
theorem ggX1_allows_X1_isSet : GoodIn wsX1_allows wsX1_isSet := goodIn_r _ [4] (by decide +kernel) (by decide +kernel)
set_option maxRecDepth 20000 in
theorem gX1_allows_X1_isSet : GoodIn wsX1_allows (va_wsS RX1 38 yX1_isSet wsX1_isSet) := goodIn_app (goodIn_of _ (by decide +kernel)) ggX1_allows_X1_isSet
def wsX1_result : List Cond := .code yX1_result cX1_result 6 (some .long) :: ([.constantLong RX1 42 (-1024), .constantLong RX1 44 (1023), .constantLong RX1 46 (4095)])
def wsX1_second_w : List Cond := .code yX1_second_w cX1_second_w 14 (some .long) :: ([.fieldLink RX1 24 "StageWalkerModel" "hgatp" "I", .methodLink RX1 48 yX1_inMemory, .instanceMethod yX1_inMemory, .selects RX1 yX1_inMemory yX1_inMemory, .initialized RX1, .code yX1_inMemory cX1_inMemory 4 (some .long), .constantLong RX1 32 (262144), .methodLink RX1 34 yX1_raise, .instanceMethod yX1_raise, .selects RX1 yX1_raise yX1_raise, .code yX1_raise cX1_raise 5 none, .fieldLink RX1 14 "StageWalkerModel" "code" "I", .constant RX1 52 (4194300), .constantLong RX1 53 (4), .constantLong RX1 46 (4095), .constantLong RX1 44 (1023), .fieldLink RX1 8 "StageWalkerModel" "memory" "[I", .methodLink RX1 55 yX1_stands, .static yX1_stands, .code yX1_stands cX1_stands 1 (some .boolean), .methodLink RX1 38 yX1_isSet, .static yX1_isSet, .code yX1_isSet cX1_isSet 2 (some .boolean), .methodLink RX1 59 yX1_isLeaf, .static yX1_isLeaf, .code yX1_isLeaf cX1_isLeaf 1 (some .boolean), .methodLink RX1 62 yX1_has, .instanceMethod yX1_has, .selects RX1 yX1_has yX1_has, .code yX1_has cX1_has 2 (some .boolean), .fieldLink RX1 27 "StageWalkerModel" "rights" "I", .methodLink RX1 65 yX1_allows, .static yX1_allows, .code yX1_allows cX1_allows 6 (some .boolean), .methodLink RX1 69 yX1_result, .static yX1_result, .code yX1_result cX1_result 6 (some .long), .constantLong RX1 42 (-1024), .fieldLink RX1 73 "StageWalkerModel" "wanted" "J", .fieldLink RX1 77 "StageWalkerModel" "ofEntry" "Z"] ++ wsX10)
set_option maxRecDepth 20000 in
theorem ggX1_second_w_X1_inMemory : GoodIn wsX1_second_w wsX1_inMemory := goodIn_r _ [6, 7, 8, 9, 10, 5, 11, 12, 41, 42, 43, 44, 45, 46, 47, 48, 49] (by decide +kernel) (by decide +kernel)
set_option maxRecDepth 20000 in
theorem gX1_second_w_X1_inMemory : GoodIn wsX1_second_w (wsV RX1 48 RX1 yX1_inMemory wsX1_inMemory) := goodIn_app (goodIn_of _ (by decide +kernel)) ggX1_second_w_X1_inMemory
set_option maxRecDepth 20000 in
theorem ggX1_second_w_X1_stands : GoodIn wsX1_second_w wsX1_stands := goodIn_r _ [20, 21, 22, 5, 23] (by decide +kernel) (by decide +kernel)
set_option maxRecDepth 20000 in
theorem gX1_second_w_X1_stands : GoodIn wsX1_second_w (va_wsS RX1 55 yX1_stands wsX1_stands) := goodIn_app (goodIn_of _ (by decide +kernel)) ggX1_second_w_X1_stands
set_option maxRecDepth 20000 in
theorem ggX1_second_w_X1_isLeaf : GoodIn wsX1_second_w wsX1_isLeaf := goodIn_r _ [26] (by decide +kernel) (by decide +kernel)
set_option maxRecDepth 20000 in
theorem gX1_second_w_X1_isLeaf : GoodIn wsX1_second_w (va_wsS RX1 59 yX1_isLeaf wsX1_isLeaf) := goodIn_app (goodIn_of _ (by decide +kernel)) ggX1_second_w_X1_isLeaf
set_option maxRecDepth 20000 in
theorem ggX1_second_w_X1_isSet : GoodIn wsX1_second_w wsX1_isSet := goodIn_r _ [23] (by decide +kernel) (by decide +kernel)
set_option maxRecDepth 20000 in
theorem gX1_second_w_X1_isSet : GoodIn wsX1_second_w (va_wsS RX1 38 yX1_isSet wsX1_isSet) := goodIn_app (goodIn_of _ (by decide +kernel)) ggX1_second_w_X1_isSet
set_option maxRecDepth 20000 in
theorem ggX1_second_w_X1_has : GoodIn wsX1_second_w wsX1_has := goodIn_r _ [30, 31, 41, 42, 43, 44, 45, 46, 47, 48, 49] (by decide +kernel) (by decide +kernel)
set_option maxRecDepth 20000 in
theorem gX1_second_w_X1_has : GoodIn wsX1_second_w (wsV RX1 62 RX1 yX1_has wsX1_has) := goodIn_app (goodIn_of _ (by decide +kernel)) ggX1_second_w_X1_has
set_option maxRecDepth 20000 in
theorem ggX1_second_w_X1_allows : GoodIn wsX1_second_w wsX1_allows := goodIn_r _ [34, 21, 22, 5, 23] (by decide +kernel) (by decide +kernel)
set_option maxRecDepth 20000 in
theorem gX1_second_w_X1_allows : GoodIn wsX1_second_w (va_wsS RX1 65 yX1_allows wsX1_allows) := goodIn_app (goodIn_of _ (by decide +kernel)) ggX1_second_w_X1_allows
set_option maxRecDepth 20000 in
theorem ggX1_second_w_X1_result : GoodIn wsX1_second_w wsX1_result := goodIn_r _ [37, 38, 16, 15] (by decide +kernel) (by decide +kernel)
set_option maxRecDepth 20000 in
theorem gX1_second_w_X1_result : GoodIn wsX1_second_w (va_wsS RX1 69 yX1_result wsX1_result) := goodIn_app (goodIn_of _ (by decide +kernel)) ggX1_second_w_X1_result
set_option maxRecDepth 20000 in
theorem ggX1_second_w_X1_raise : GoodIn wsX1_second_w wsX1_raise := goodIn_r _ [11, 12, 41, 42, 43, 44, 45, 46, 47, 48, 49] (by decide +kernel) (by decide +kernel)
set_option maxRecDepth 20000 in
theorem gX1_second_w_X1_raise : GoodIn wsX1_second_w (wsV RX1 34 RX1 yX1_raise wsX1_raise) := goodIn_app (goodIn_of _ (by decide +kernel)) ggX1_second_w_X1_raise
def wsX1_userFits : List Cond := .code yX1_userFits cX1_userFits 6 (some .boolean) :: ([.methodLink RX1 38 yX1_isSet, .static yX1_isSet, .initialized RX1, .code yX1_isSet cX1_isSet 2 (some .boolean)])
set_option maxRecDepth 20000 in
theorem ggX1_userFits_X1_isSet : GoodIn wsX1_userFits wsX1_isSet := goodIn_r _ [4] (by decide +kernel) (by decide +kernel)
set_option maxRecDepth 20000 in
theorem gX1_userFits_X1_isSet : GoodIn wsX1_userFits (va_wsS RX1 38 yX1_isSet wsX1_isSet) := goodIn_app (goodIn_of _ (by decide +kernel)) ggX1_userFits_X1_isSet
def wsX1_first : List Cond := .code yX1_first cX1_first 17 (some .long) :: ([.constant RX1 81 (4194303), .constantLong RX1 53 (4), .constantLong RX1 44 (1023), .methodLink RX1 82 yX1_second_w, .instanceMethod yX1_second_w, .selects RX1 yX1_second_w yX1_second_w, .initialized RX1, .code yX1_second_w cX1_second_w 14 (some .long), .fieldLink RX1 24 "StageWalkerModel" "hgatp" "I", .methodLink RX1 48 yX1_inMemory, .instanceMethod yX1_inMemory, .selects RX1 yX1_inMemory yX1_inMemory, .code yX1_inMemory cX1_inMemory 4 (some .long), .constantLong RX1 32 (262144), .methodLink RX1 34 yX1_raise, .instanceMethod yX1_raise, .selects RX1 yX1_raise yX1_raise, .code yX1_raise cX1_raise 5 none, .fieldLink RX1 14 "StageWalkerModel" "code" "I", .constant RX1 52 (4194300), .constantLong RX1 46 (4095), .fieldLink RX1 8 "StageWalkerModel" "memory" "[I", .methodLink RX1 55 yX1_stands, .static yX1_stands, .code yX1_stands cX1_stands 1 (some .boolean), .methodLink RX1 38 yX1_isSet, .static yX1_isSet, .code yX1_isSet cX1_isSet 2 (some .boolean), .methodLink RX1 59 yX1_isLeaf, .static yX1_isLeaf, .code yX1_isLeaf cX1_isLeaf 1 (some .boolean), .methodLink RX1 62 yX1_has, .instanceMethod yX1_has, .selects RX1 yX1_has yX1_has, .code yX1_has cX1_has 2 (some .boolean), .fieldLink RX1 27 "StageWalkerModel" "rights" "I", .methodLink RX1 65 yX1_allows, .static yX1_allows, .code yX1_allows cX1_allows 6 (some .boolean), .methodLink RX1 69 yX1_result, .static yX1_result, .code yX1_result cX1_result 6 (some .long), .constantLong RX1 42 (-1024), .fieldLink RX1 73 "StageWalkerModel" "wanted" "J", .fieldLink RX1 77 "StageWalkerModel" "ofEntry" "Z", .methodLink RX1 86 yX1_userFits, .instanceMethod yX1_userFits, .selects RX1 yX1_userFits yX1_userFits, .code yX1_userFits cX1_userFits 6 (some .boolean)] ++ wsX10)
set_option maxRecDepth 20000 in
theorem ggX1_first_X1_second_w : GoodIn wsX1_first wsX1_second_w := goodIn_r _ [8, 9, 10, 11, 12, 7, 13, 14, 15, 16, 17, 18, 19, 20, 2, 21, 3, 22, 23, 24, 25, 26, 27, 28, 29, 30, 31, 32, 33, 34, 35, 36, 37, 38, 39, 40, 41, 42, 43, 44, 45, 50, 51, 52, 53, 54, 55, 56, 57, 58] (by decide +kernel) (by decide +kernel)
set_option maxRecDepth 20000 in
theorem gX1_first_X1_second_w : GoodIn wsX1_first (wsV RX1 82 RX1 yX1_second_w wsX1_second_w) := goodIn_app (goodIn_of _ (by decide +kernel)) ggX1_first_X1_second_w
set_option maxRecDepth 20000 in
theorem ggX1_first_X1_inMemory : GoodIn wsX1_first wsX1_inMemory := goodIn_r _ [13, 14, 15, 16, 17, 7, 18, 19, 50, 51, 52, 53, 54, 55, 56, 57, 58] (by decide +kernel) (by decide +kernel)
set_option maxRecDepth 20000 in
theorem gX1_first_X1_inMemory : GoodIn wsX1_first (wsV RX1 48 RX1 yX1_inMemory wsX1_inMemory) := goodIn_app (goodIn_of _ (by decide +kernel)) ggX1_first_X1_inMemory
set_option maxRecDepth 20000 in
theorem ggX1_first_X1_stands : GoodIn wsX1_first wsX1_stands := goodIn_r _ [25, 26, 27, 7, 28] (by decide +kernel) (by decide +kernel)
set_option maxRecDepth 20000 in
theorem gX1_first_X1_stands : GoodIn wsX1_first (va_wsS RX1 55 yX1_stands wsX1_stands) := goodIn_app (goodIn_of _ (by decide +kernel)) ggX1_first_X1_stands
set_option maxRecDepth 20000 in
theorem ggX1_first_X1_isLeaf : GoodIn wsX1_first wsX1_isLeaf := goodIn_r _ [31] (by decide +kernel) (by decide +kernel)
set_option maxRecDepth 20000 in
theorem gX1_first_X1_isLeaf : GoodIn wsX1_first (va_wsS RX1 59 yX1_isLeaf wsX1_isLeaf) := goodIn_app (goodIn_of _ (by decide +kernel)) ggX1_first_X1_isLeaf
set_option maxRecDepth 20000 in
theorem ggX1_first_X1_userFits : GoodIn wsX1_first wsX1_userFits := goodIn_r _ [49, 26, 27, 7, 28] (by decide +kernel) (by decide +kernel)
set_option maxRecDepth 20000 in
theorem gX1_first_X1_userFits : GoodIn wsX1_first (wsV RX1 86 RX1 yX1_userFits wsX1_userFits) := goodIn_app (goodIn_of _ (by decide +kernel)) ggX1_first_X1_userFits
set_option maxRecDepth 20000 in
theorem ggX1_first_X1_allows : GoodIn wsX1_first wsX1_allows := goodIn_r _ [39, 26, 27, 7, 28] (by decide +kernel) (by decide +kernel)
set_option maxRecDepth 20000 in
theorem gX1_first_X1_allows : GoodIn wsX1_first (va_wsS RX1 65 yX1_allows wsX1_allows) := goodIn_app (goodIn_of _ (by decide +kernel)) ggX1_first_X1_allows
set_option maxRecDepth 20000 in
theorem ggX1_first_X1_result : GoodIn wsX1_first wsX1_result := goodIn_r _ [42, 43, 3, 21] (by decide +kernel) (by decide +kernel)
set_option maxRecDepth 20000 in
theorem gX1_first_X1_result : GoodIn wsX1_first (va_wsS RX1 69 yX1_result wsX1_result) := goodIn_app (goodIn_of _ (by decide +kernel)) ggX1_first_X1_result
set_option maxRecDepth 20000 in
theorem ggX1_first_X1_isSet : GoodIn wsX1_first wsX1_isSet := goodIn_r _ [28] (by decide +kernel) (by decide +kernel)
set_option maxRecDepth 20000 in
theorem gX1_first_X1_isSet : GoodIn wsX1_first (va_wsS RX1 38 yX1_isSet wsX1_isSet) := goodIn_app (goodIn_of _ (by decide +kernel)) ggX1_first_X1_isSet
set_option maxRecDepth 20000 in
theorem ggX1_first_X1_raise : GoodIn wsX1_first wsX1_raise := goodIn_r _ [18, 19, 50, 51, 52, 53, 54, 55, 56, 57, 58] (by decide +kernel) (by decide +kernel)
set_option maxRecDepth 20000 in
theorem gX1_first_X1_raise : GoodIn wsX1_first (wsV RX1 34 RX1 yX1_raise wsX1_raise) := goodIn_app (goodIn_of _ (by decide +kernel)) ggX1_first_X1_raise
def wsX1_isKind : List Cond := .code yX1_isKind cX1_isKind 2 (some .boolean) :: ([])
def wsX1_go : List Cond := .code yX1_go cX1_go 10 none :: ([.constantLong RX1 90 (4294967295), .fieldLink RX1 14 "StageWalkerModel" "code" "I", .fieldLink RX1 73 "StageWalkerModel" "wanted" "J", .fieldLink RX1 77 "StageWalkerModel" "ofEntry" "Z", .fieldLink RX1 21 "StageWalkerModel" "vsAtp" "I", .methodLink RX1 62 yX1_has, .instanceMethod yX1_has, .selects RX1 yX1_has yX1_has, .initialized RX1, .code yX1_has cX1_has 2 (some .boolean), .fieldLink RX1 27 "StageWalkerModel" "rights" "I", .methodLink RX1 92 yX1_first, .instanceMethod yX1_first, .selects RX1 yX1_first yX1_first, .code yX1_first cX1_first 17 (some .long), .constant RX1 81 (4194303), .constantLong RX1 53 (4), .constantLong RX1 44 (1023), .methodLink RX1 82 yX1_second_w, .instanceMethod yX1_second_w, .selects RX1 yX1_second_w yX1_second_w, .code yX1_second_w cX1_second_w 14 (some .long), .fieldLink RX1 24 "StageWalkerModel" "hgatp" "I", .methodLink RX1 48 yX1_inMemory, .instanceMethod yX1_inMemory, .selects RX1 yX1_inMemory yX1_inMemory, .code yX1_inMemory cX1_inMemory 4 (some .long), .constantLong RX1 32 (262144), .methodLink RX1 34 yX1_raise, .instanceMethod yX1_raise, .selects RX1 yX1_raise yX1_raise, .code yX1_raise cX1_raise 5 none, .constant RX1 52 (4194300), .constantLong RX1 46 (4095), .fieldLink RX1 8 "StageWalkerModel" "memory" "[I", .methodLink RX1 55 yX1_stands, .static yX1_stands, .code yX1_stands cX1_stands 1 (some .boolean), .methodLink RX1 38 yX1_isSet, .static yX1_isSet, .code yX1_isSet cX1_isSet 2 (some .boolean), .methodLink RX1 59 yX1_isLeaf, .static yX1_isLeaf, .code yX1_isLeaf cX1_isLeaf 1 (some .boolean), .methodLink RX1 65 yX1_allows, .static yX1_allows, .code yX1_allows cX1_allows 6 (some .boolean), .methodLink RX1 69 yX1_result, .static yX1_result, .code yX1_result cX1_result 6 (some .long), .constantLong RX1 42 (-1024), .methodLink RX1 86 yX1_userFits, .instanceMethod yX1_userFits, .selects RX1 yX1_userFits yX1_userFits, .code yX1_userFits cX1_userFits 6 (some .boolean), .fieldLink RX1 18 "StageWalkerModel" "atp" "I", .fieldLink RX1 96 "StageWalkerModel" "found" "J"] ++ wsX10)
set_option maxRecDepth 20000 in
theorem ggX1_go_X1_has : GoodIn wsX1_go wsX1_has := goodIn_r _ [10, 11, 58, 59, 60, 61, 62, 63, 64, 65, 66] (by decide +kernel) (by decide +kernel)
set_option maxRecDepth 20000 in
theorem gX1_go_X1_has : GoodIn wsX1_go (wsV RX1 62 RX1 yX1_has wsX1_has) := goodIn_app (goodIn_of _ (by decide +kernel)) ggX1_go_X1_has
set_option maxRecDepth 20000 in
theorem ggX1_go_X1_first : GoodIn wsX1_go wsX1_first := goodIn_r _ [15, 16, 17, 18, 19, 20, 21, 9, 22, 23, 24, 25, 26, 27, 28, 29, 30, 31, 32, 2, 33, 34, 35, 36, 37, 38, 39, 40, 41, 42, 43, 44, 6, 7, 8, 10, 11, 45, 46, 47, 48, 49, 50, 51, 3, 4, 52, 53, 54, 55, 58, 59, 60, 61, 62, 63, 64, 65, 66] (by decide +kernel) (by decide +kernel)
set_option maxRecDepth 20000 in
theorem gX1_go_X1_first : GoodIn wsX1_go (wsV RX1 92 RX1 yX1_first wsX1_first) := goodIn_app (goodIn_of _ (by decide +kernel)) ggX1_go_X1_first
set_option maxRecDepth 20000 in
theorem ggX1_go_X1_second_w : GoodIn wsX1_go wsX1_second_w := goodIn_r _ [22, 23, 24, 25, 26, 9, 27, 28, 29, 30, 31, 32, 2, 33, 17, 34, 18, 35, 36, 37, 38, 39, 40, 41, 42, 43, 44, 6, 7, 8, 10, 11, 45, 46, 47, 48, 49, 50, 51, 3, 4, 58, 59, 60, 61, 62, 63, 64, 65, 66] (by decide +kernel) (by decide +kernel)
set_option maxRecDepth 20000 in
theorem gX1_go_X1_second_w : GoodIn wsX1_go (wsV RX1 82 RX1 yX1_second_w wsX1_second_w) := goodIn_app (goodIn_of _ (by decide +kernel)) ggX1_go_X1_second_w
set_option maxRecDepth 20000 in
theorem ggX1_go_X1_inMemory : GoodIn wsX1_go wsX1_inMemory := goodIn_r _ [27, 28, 29, 30, 31, 9, 32, 2, 58, 59, 60, 61, 62, 63, 64, 65, 66] (by decide +kernel) (by decide +kernel)
set_option maxRecDepth 20000 in
theorem gX1_go_X1_inMemory : GoodIn wsX1_go (wsV RX1 48 RX1 yX1_inMemory wsX1_inMemory) := goodIn_app (goodIn_of _ (by decide +kernel)) ggX1_go_X1_inMemory
def wsX1_translate : List Cond := .code yX1_translate cX1_translate 4 (some .int) :: ([.methodLink RX1 99 yX1_isKind, .static yX1_isKind, .initialized RX1, .code yX1_isKind cX1_isKind 2 (some .boolean), .methodLink RX1 102 yX1_go, .instanceMethod yX1_go, .selects RX1 yX1_go yX1_go, .code yX1_go cX1_go 10 none, .constantLong RX1 90 (4294967295), .fieldLink RX1 14 "StageWalkerModel" "code" "I", .fieldLink RX1 73 "StageWalkerModel" "wanted" "J", .fieldLink RX1 77 "StageWalkerModel" "ofEntry" "Z", .fieldLink RX1 21 "StageWalkerModel" "vsAtp" "I", .methodLink RX1 62 yX1_has, .instanceMethod yX1_has, .selects RX1 yX1_has yX1_has, .code yX1_has cX1_has 2 (some .boolean), .fieldLink RX1 27 "StageWalkerModel" "rights" "I", .methodLink RX1 92 yX1_first, .instanceMethod yX1_first, .selects RX1 yX1_first yX1_first, .code yX1_first cX1_first 17 (some .long), .constant RX1 81 (4194303), .constantLong RX1 53 (4), .constantLong RX1 44 (1023), .methodLink RX1 82 yX1_second_w, .instanceMethod yX1_second_w, .selects RX1 yX1_second_w yX1_second_w, .code yX1_second_w cX1_second_w 14 (some .long), .fieldLink RX1 24 "StageWalkerModel" "hgatp" "I", .methodLink RX1 48 yX1_inMemory, .instanceMethod yX1_inMemory, .selects RX1 yX1_inMemory yX1_inMemory, .code yX1_inMemory cX1_inMemory 4 (some .long), .constantLong RX1 32 (262144), .methodLink RX1 34 yX1_raise, .instanceMethod yX1_raise, .selects RX1 yX1_raise yX1_raise, .code yX1_raise cX1_raise 5 none, .constant RX1 52 (4194300), .constantLong RX1 46 (4095), .fieldLink RX1 8 "StageWalkerModel" "memory" "[I", .methodLink RX1 55 yX1_stands, .static yX1_stands, .code yX1_stands cX1_stands 1 (some .boolean), .methodLink RX1 38 yX1_isSet, .static yX1_isSet, .code yX1_isSet cX1_isSet 2 (some .boolean), .methodLink RX1 59 yX1_isLeaf, .static yX1_isLeaf, .code yX1_isLeaf cX1_isLeaf 1 (some .boolean), .methodLink RX1 65 yX1_allows, .static yX1_allows, .code yX1_allows cX1_allows 6 (some .boolean), .methodLink RX1 69 yX1_result, .static yX1_result, .code yX1_result cX1_result 6 (some .long), .constantLong RX1 42 (-1024), .methodLink RX1 86 yX1_userFits, .instanceMethod yX1_userFits, .selects RX1 yX1_userFits yX1_userFits, .code yX1_userFits cX1_userFits 6 (some .boolean), .fieldLink RX1 18 "StageWalkerModel" "atp" "I", .fieldLink RX1 96 "StageWalkerModel" "found" "J"] ++ wsX10)
set_option maxRecDepth 20000 in
theorem ggX1_translate_X1_isKind : GoodIn wsX1_translate wsX1_isKind := goodIn_r _ [4] (by decide +kernel) (by decide +kernel)
set_option maxRecDepth 20000 in
theorem gX1_translate_X1_isKind : GoodIn wsX1_translate (va_wsS RX1 99 yX1_isKind wsX1_isKind) := goodIn_app (goodIn_of _ (by decide +kernel)) ggX1_translate_X1_isKind
set_option maxRecDepth 20000 in
theorem ggX1_translate_X1_go : GoodIn wsX1_translate wsX1_go := goodIn_r _ [8, 9, 10, 11, 12, 13, 14, 15, 16, 3, 17, 18, 19, 20, 21, 22, 23, 24, 25, 26, 27, 28, 29, 30, 31, 32, 33, 34, 35, 36, 37, 38, 39, 40, 41, 42, 43, 44, 45, 46, 47, 48, 49, 50, 51, 52, 53, 54, 55, 56, 57, 58, 59, 60, 61, 62, 63, 64, 65, 66, 67, 68, 69, 70, 71, 72, 73] (by decide +kernel) (by decide +kernel)
set_option maxRecDepth 20000 in
theorem gX1_translate_X1_go : GoodIn wsX1_translate (wsV RX1 102 RX1 yX1_go wsX1_go) := goodIn_app (goodIn_of _ (by decide +kernel)) ggX1_translate_X1_go
def wsX1_place : List Cond := .code yX1_place cX1_place 1 (some .int) :: ([.fieldLink RX1 14 "StageWalkerModel" "code" "I", .fieldLink RX1 96 "StageWalkerModel" "found" "J"] ++ wsX10)
def wsX1_second : List Cond := .code yX1_second cX1_second 1 (some .int) :: ([.fieldLink RX1 14 "StageWalkerModel" "code" "I", .fieldLink RX1 73 "StageWalkerModel" "wanted" "J"] ++ wsX10)
def wsX1_entry : List Cond := .code yX1_entry cX1_entry 1 (some .boolean) :: ([.fieldLink RX1 14 "StageWalkerModel" "code" "I", .fieldLink RX1 77 "StageWalkerModel" "ofEntry" "Z"] ++ wsX10)
def wsX1_pages : List Cond := .code yX1_pages cX1_pages 15 (some .int) :: ([.methodLink RX1 99 yX1_isKind, .static yX1_isKind, .initialized RX1, .code yX1_isKind cX1_isKind 2 (some .boolean), .fieldLink RX1 14 "StageWalkerModel" "code" "I", .fieldLink RX1 96 "StageWalkerModel" "found" "J", .fieldLink RX1 73 "StageWalkerModel" "wanted" "J", .fieldLink RX1 77 "StageWalkerModel" "ofEntry" "Z", .constantLong RX1 90 (4294967295), .methodLink RX1 102 yX1_go, .instanceMethod yX1_go, .selects RX1 yX1_go yX1_go, .code yX1_go cX1_go 10 none, .fieldLink RX1 21 "StageWalkerModel" "vsAtp" "I", .methodLink RX1 62 yX1_has, .instanceMethod yX1_has, .selects RX1 yX1_has yX1_has, .code yX1_has cX1_has 2 (some .boolean), .fieldLink RX1 27 "StageWalkerModel" "rights" "I", .methodLink RX1 92 yX1_first, .instanceMethod yX1_first, .selects RX1 yX1_first yX1_first, .code yX1_first cX1_first 17 (some .long), .constant RX1 81 (4194303), .constantLong RX1 53 (4), .constantLong RX1 44 (1023), .methodLink RX1 82 yX1_second_w, .instanceMethod yX1_second_w, .selects RX1 yX1_second_w yX1_second_w, .code yX1_second_w cX1_second_w 14 (some .long), .fieldLink RX1 24 "StageWalkerModel" "hgatp" "I", .methodLink RX1 48 yX1_inMemory, .instanceMethod yX1_inMemory, .selects RX1 yX1_inMemory yX1_inMemory, .code yX1_inMemory cX1_inMemory 4 (some .long), .constantLong RX1 32 (262144), .methodLink RX1 34 yX1_raise, .instanceMethod yX1_raise, .selects RX1 yX1_raise yX1_raise, .code yX1_raise cX1_raise 5 none, .constant RX1 52 (4194300), .constantLong RX1 46 (4095), .fieldLink RX1 8 "StageWalkerModel" "memory" "[I", .methodLink RX1 55 yX1_stands, .static yX1_stands, .code yX1_stands cX1_stands 1 (some .boolean), .methodLink RX1 38 yX1_isSet, .static yX1_isSet, .code yX1_isSet cX1_isSet 2 (some .boolean), .methodLink RX1 59 yX1_isLeaf, .static yX1_isLeaf, .code yX1_isLeaf cX1_isLeaf 1 (some .boolean), .methodLink RX1 65 yX1_allows, .static yX1_allows, .code yX1_allows cX1_allows 6 (some .boolean), .methodLink RX1 69 yX1_result, .static yX1_result, .code yX1_result cX1_result 6 (some .long), .constantLong RX1 42 (-1024), .methodLink RX1 86 yX1_userFits, .instanceMethod yX1_userFits, .selects RX1 yX1_userFits yX1_userFits, .code yX1_userFits cX1_userFits 6 (some .boolean), .fieldLink RX1 18 "StageWalkerModel" "atp" "I", .constantLong RX1 106 (4096)] ++ wsX10)
set_option maxRecDepth 20000 in
theorem ggX1_pages_X1_isKind : GoodIn wsX1_pages wsX1_isKind := goodIn_r _ [4] (by decide +kernel) (by decide +kernel)
set_option maxRecDepth 20000 in
theorem gX1_pages_X1_isKind : GoodIn wsX1_pages (va_wsS RX1 99 yX1_isKind wsX1_isKind) := goodIn_app (goodIn_of _ (by decide +kernel)) ggX1_pages_X1_isKind
set_option maxRecDepth 20000 in
theorem ggX1_pages_X1_go : GoodIn wsX1_pages wsX1_go := goodIn_r _ [13, 9, 5, 7, 8, 14, 15, 16, 17, 3, 18, 19, 20, 21, 22, 23, 24, 25, 26, 27, 28, 29, 30, 31, 32, 33, 34, 35, 36, 37, 38, 39, 40, 41, 42, 43, 44, 45, 46, 47, 48, 49, 50, 51, 52, 53, 54, 55, 56, 57, 58, 59, 60, 61, 62, 63, 64, 6, 66, 67, 68, 69, 70, 71, 72, 73, 74] (by decide +kernel) (by decide +kernel)
set_option maxRecDepth 20000 in
theorem gX1_pages_X1_go : GoodIn wsX1_pages (wsV RX1 102 RX1 yX1_go wsX1_go) := goodIn_app (goodIn_of _ (by decide +kernel)) ggX1_pages_X1_go
theorem dX1_rights_0 : decode cX1_rights 0 = .ok (.aload_n 0, 1) := by decide +kernel
theorem dX1_rights_1 : decode cX1_rights 1 = .ok (.getfield 27, 3) := by decide +kernel
theorem dX1_rights_4 : decode cX1_rights 4 = .ok (.istore_n 2, 1) := by decide +kernel
theorem dX1_rights_5 : decode cX1_rights 5 = .ok (.aload_n 0, 1) := by decide +kernel
theorem dX1_rights_6 : decode cX1_rights 6 = .ok (.iload_n 1, 1) := by decide +kernel
theorem dX1_rights_7 : decode cX1_rights 7 = .ok (.bipush 15, 2) := by decide +kernel
theorem dX1_rights_9 : decode cX1_rights 9 = .ok (.iand, 1) := by decide +kernel
theorem dX1_rights_10 : decode cX1_rights 10 = .ok (.putfield 27, 3) := by decide +kernel
theorem dX1_rights_13 : decode cX1_rights 13 = .ok (.iload_n 2, 1) := by decide +kernel
theorem dX1_rights_14 : decode cX1_rights 14 = .ok (.ireturn, 1) := by decide +kernel
theorem dX1_has_0 : decode cX1_has 0 = .ok (.aload_n 0, 1) := by decide +kernel
theorem dX1_has_1 : decode cX1_has 1 = .ok (.getfield 27, 3) := by decide +kernel
theorem dX1_has_4 : decode cX1_has 4 = .ok (.iload_n 1, 1) := by decide +kernel
theorem dX1_has_5 : decode cX1_has 5 = .ok (.ishr, 1) := by decide +kernel
theorem dX1_has_6 : decode cX1_has 6 = .ok (.iconst 1, 1) := by decide +kernel
theorem dX1_has_7 : decode cX1_has 7 = .ok (.iand, 1) := by decide +kernel
theorem dX1_has_8 : decode cX1_has 8 = .ok (.iconst 1, 1) := by decide +kernel
theorem dX1_has_9 : decode cX1_has 9 = .ok (.if_icmp .ne 7, 3) := by decide +kernel
theorem dX1_has_12 : decode cX1_has 12 = .ok (.iconst 1, 1) := by decide +kernel
theorem dX1_has_13 : decode cX1_has 13 = .ok (.goto 4, 3) := by decide +kernel
theorem dX1_has_16 : decode cX1_has 16 = .ok (.iconst 0, 1) := by decide +kernel
theorem dX1_has_17 : decode cX1_has 17 = .ok (.ireturn, 1) := by decide +kernel
theorem dX1_raise_0 : decode cX1_raise 0 = .ok (.aload_n 0, 1) := by decide +kernel
theorem dX1_raise_1 : decode cX1_raise 1 = .ok (.iload_n 1, 1) := by decide +kernel
theorem dX1_raise_2 : decode cX1_raise 2 = .ok (.ifCond .ne 7, 3) := by decide +kernel
theorem dX1_raise_5 : decode cX1_raise 5 = .ok (.iload_n 2, 1) := by decide +kernel
theorem dX1_raise_6 : decode cX1_raise 6 = .ok (.goto 14, 3) := by decide +kernel
theorem dX1_raise_9 : decode cX1_raise 9 = .ok (.iload_n 1, 1) := by decide +kernel
theorem dX1_raise_10 : decode cX1_raise 10 = .ok (.iconst 2, 1) := by decide +kernel
theorem dX1_raise_11 : decode cX1_raise 11 = .ok (.if_icmp .ne 8, 3) := by decide +kernel
theorem dX1_raise_14 : decode cX1_raise 14 = .ok (.iload 4, 2) := by decide +kernel
theorem dX1_raise_16 : decode cX1_raise 16 = .ok (.goto 4, 3) := by decide +kernel
theorem dX1_raise_19 : decode cX1_raise 19 = .ok (.iload_n 3, 1) := by decide +kernel
theorem dX1_raise_20 : decode cX1_raise 20 = .ok (.putfield 14, 3) := by decide +kernel
theorem dX1_raise_23 : decode cX1_raise 23 = .ok (.return_, 1) := by decide +kernel
theorem dX1_inMemory_0 : decode cX1_inMemory 0 = .ok (.lload_n 2, 1) := by decide +kernel
theorem dX1_inMemory_1 : decode cX1_inMemory 1 = .ok (.ldc2_w 32, 3) := by decide +kernel
theorem dX1_inMemory_4 : decode cX1_inMemory 4 = .ok (.lcmp, 1) := by decide +kernel
theorem dX1_inMemory_5 : decode cX1_inMemory 5 = .ok (.ifCond .lt 12, 3) := by decide +kernel
theorem dX1_inMemory_8 : decode cX1_inMemory 8 = .ok (.aload_n 0, 1) := by decide +kernel
theorem dX1_inMemory_9 : decode cX1_inMemory 9 = .ok (.iload_n 1, 1) := by decide +kernel
theorem dX1_inMemory_10 : decode cX1_inMemory 10 = .ok (.iconst 1, 1) := by decide +kernel
theorem dX1_inMemory_11 : decode cX1_inMemory 11 = .ok (.iconst 5, 1) := by decide +kernel
theorem dX1_inMemory_12 : decode cX1_inMemory 12 = .ok (.bipush 7, 2) := by decide +kernel
theorem dX1_inMemory_14 : decode cX1_inMemory 14 = .ok (.invokevirtual 34, 3) := by decide +kernel
theorem dX1_inMemory_17 : decode cX1_inMemory 17 = .ok (.lload_n 2, 1) := by decide +kernel
theorem dX1_inMemory_18 : decode cX1_inMemory 18 = .ok (.lreturn, 1) := by decide +kernel
theorem dX1_isSet_0 : decode cX1_isSet 0 = .ok (.iload_n 0, 1) := by decide +kernel
theorem dX1_isSet_1 : decode cX1_isSet 1 = .ok (.iload_n 1, 1) := by decide +kernel
theorem dX1_isSet_2 : decode cX1_isSet 2 = .ok (.ishr, 1) := by decide +kernel
theorem dX1_isSet_3 : decode cX1_isSet 3 = .ok (.iconst 1, 1) := by decide +kernel
theorem dX1_isSet_4 : decode cX1_isSet 4 = .ok (.iand, 1) := by decide +kernel
theorem dX1_isSet_5 : decode cX1_isSet 5 = .ok (.iconst 1, 1) := by decide +kernel
theorem dX1_isSet_6 : decode cX1_isSet 6 = .ok (.if_icmp .ne 7, 3) := by decide +kernel
theorem dX1_isSet_9 : decode cX1_isSet 9 = .ok (.iconst 1, 1) := by decide +kernel
theorem dX1_isSet_10 : decode cX1_isSet 10 = .ok (.goto 4, 3) := by decide +kernel
theorem dX1_isSet_13 : decode cX1_isSet 13 = .ok (.iconst 0, 1) := by decide +kernel
theorem dX1_isSet_14 : decode cX1_isSet 14 = .ok (.ireturn, 1) := by decide +kernel
theorem dX1_isLeaf_0 : decode cX1_isLeaf 0 = .ok (.iload_n 0, 1) := by decide +kernel
theorem dX1_isLeaf_1 : decode cX1_isLeaf 1 = .ok (.bipush 14, 2) := by decide +kernel
theorem dX1_isLeaf_3 : decode cX1_isLeaf 3 = .ok (.iand, 1) := by decide +kernel
theorem dX1_isLeaf_4 : decode cX1_isLeaf 4 = .ok (.ifCond .eq 7, 3) := by decide +kernel
theorem dX1_isLeaf_7 : decode cX1_isLeaf 7 = .ok (.iconst 1, 1) := by decide +kernel
theorem dX1_isLeaf_8 : decode cX1_isLeaf 8 = .ok (.goto 4, 3) := by decide +kernel
theorem dX1_isLeaf_11 : decode cX1_isLeaf 11 = .ok (.iconst 0, 1) := by decide +kernel
theorem dX1_isLeaf_12 : decode cX1_isLeaf 12 = .ok (.ireturn, 1) := by decide +kernel
theorem dX1_stands_0 : decode cX1_stands 0 = .ok (.iload_n 0, 1) := by decide +kernel
theorem dX1_stands_1 : decode cX1_stands 1 = .ok (.iconst 0, 1) := by decide +kernel
theorem dX1_stands_2 : decode cX1_stands 2 = .ok (.invokestatic 38, 3) := by decide +kernel
theorem dX1_stands_5 : decode cX1_stands 5 = .ok (.ifCond .eq 23, 3) := by decide +kernel
theorem dX1_stands_8 : decode cX1_stands 8 = .ok (.iload_n 0, 1) := by decide +kernel
theorem dX1_stands_9 : decode cX1_stands 9 = .ok (.iconst 2, 1) := by decide +kernel
theorem dX1_stands_10 : decode cX1_stands 10 = .ok (.invokestatic 38, 3) := by decide +kernel
theorem dX1_stands_13 : decode cX1_stands 13 = .ok (.ifCond .eq 11, 3) := by decide +kernel
theorem dX1_stands_16 : decode cX1_stands 16 = .ok (.iload_n 0, 1) := by decide +kernel
theorem dX1_stands_17 : decode cX1_stands 17 = .ok (.iconst 1, 1) := by decide +kernel
theorem dX1_stands_18 : decode cX1_stands 18 = .ok (.invokestatic 38, 3) := by decide +kernel
theorem dX1_stands_21 : decode cX1_stands 21 = .ok (.ifCond .eq 7, 3) := by decide +kernel
theorem dX1_stands_24 : decode cX1_stands 24 = .ok (.iconst 1, 1) := by decide +kernel
theorem dX1_stands_25 : decode cX1_stands 25 = .ok (.goto 4, 3) := by decide +kernel
theorem dX1_stands_28 : decode cX1_stands 28 = .ok (.iconst 0, 1) := by decide +kernel
theorem dX1_stands_29 : decode cX1_stands 29 = .ok (.ireturn, 1) := by decide +kernel
theorem dX1_allows_0 : decode cX1_allows 0 = .ok (.iload_n 0, 1) := by decide +kernel
theorem dX1_allows_1 : decode cX1_allows 1 = .ok (.iconst 1, 1) := by decide +kernel
theorem dX1_allows_2 : decode cX1_allows 2 = .ok (.invokestatic 38, 3) := by decide +kernel
theorem dX1_allows_5 : decode cX1_allows 5 = .ok (.istore_n 3, 1) := by decide +kernel
theorem dX1_allows_6 : decode cX1_allows 6 = .ok (.iload_n 0, 1) := by decide +kernel
theorem dX1_allows_7 : decode cX1_allows 7 = .ok (.iconst 3, 1) := by decide +kernel
theorem dX1_allows_8 : decode cX1_allows 8 = .ok (.invokestatic 38, 3) := by decide +kernel
theorem dX1_allows_11 : decode cX1_allows 11 = .ok (.istore 4, 2) := by decide +kernel
theorem dX1_allows_13 : decode cX1_allows 13 = .ok (.iload_n 1, 1) := by decide +kernel
theorem dX1_allows_14 : decode cX1_allows 14 = .ok (.ifCond .eq 8, 3) := by decide +kernel
theorem dX1_allows_17 : decode cX1_allows 17 = .ok (.iload_n 1, 1) := by decide +kernel
theorem dX1_allows_18 : decode cX1_allows 18 = .ok (.iconst 3, 1) := by decide +kernel
theorem dX1_allows_19 : decode cX1_allows 19 = .ok (.if_icmp .ne 8, 3) := by decide +kernel
theorem dX1_allows_22 : decode cX1_allows 22 = .ok (.iload 4, 2) := by decide +kernel
theorem dX1_allows_24 : decode cX1_allows 24 = .ok (.goto 34, 3) := by decide +kernel
theorem dX1_allows_27 : decode cX1_allows 27 = .ok (.iload_n 1, 1) := by decide +kernel
theorem dX1_allows_28 : decode cX1_allows 28 = .ok (.iconst 1, 1) := by decide +kernel
theorem dX1_allows_29 : decode cX1_allows 29 = .ok (.if_icmp .ne 24, 3) := by decide +kernel
theorem dX1_allows_32 : decode cX1_allows 32 = .ok (.iload_n 3, 1) := by decide +kernel
theorem dX1_allows_33 : decode cX1_allows 33 = .ok (.ifCond .ne 12, 3) := by decide +kernel
theorem dX1_allows_36 : decode cX1_allows 36 = .ok (.iload_n 2, 1) := by decide +kernel
theorem dX1_allows_37 : decode cX1_allows 37 = .ok (.ifCond .eq 12, 3) := by decide +kernel
theorem dX1_allows_40 : decode cX1_allows 40 = .ok (.iload 4, 2) := by decide +kernel
theorem dX1_allows_42 : decode cX1_allows 42 = .ok (.ifCond .eq 7, 3) := by decide +kernel
theorem dX1_allows_45 : decode cX1_allows 45 = .ok (.iconst 1, 1) := by decide +kernel
theorem dX1_allows_46 : decode cX1_allows 46 = .ok (.goto 12, 3) := by decide +kernel
theorem dX1_allows_49 : decode cX1_allows 49 = .ok (.iconst 0, 1) := by decide +kernel
theorem dX1_allows_50 : decode cX1_allows 50 = .ok (.goto 8, 3) := by decide +kernel
theorem dX1_allows_53 : decode cX1_allows 53 = .ok (.iload_n 0, 1) := by decide +kernel
theorem dX1_allows_54 : decode cX1_allows 54 = .ok (.iconst 2, 1) := by decide +kernel
theorem dX1_allows_55 : decode cX1_allows 55 = .ok (.invokestatic 38, 3) := by decide +kernel
theorem dX1_allows_58 : decode cX1_allows 58 = .ok (.istore 5, 2) := by decide +kernel
theorem dX1_allows_60 : decode cX1_allows 60 = .ok (.iload 5, 2) := by decide +kernel
theorem dX1_allows_62 : decode cX1_allows 62 = .ok (.ifCond .eq 30, 3) := by decide +kernel
theorem dX1_allows_65 : decode cX1_allows 65 = .ok (.iload_n 0, 1) := by decide +kernel
theorem dX1_allows_66 : decode cX1_allows 66 = .ok (.bipush 6, 2) := by decide +kernel
theorem dX1_allows_68 : decode cX1_allows 68 = .ok (.invokestatic 38, 3) := by decide +kernel
theorem dX1_allows_71 : decode cX1_allows 71 = .ok (.ifCond .eq 21, 3) := by decide +kernel
theorem dX1_allows_74 : decode cX1_allows 74 = .ok (.iload_n 1, 1) := by decide +kernel
theorem dX1_allows_75 : decode cX1_allows 75 = .ok (.iconst 2, 1) := by decide +kernel
theorem dX1_allows_76 : decode cX1_allows 76 = .ok (.if_icmp .ne 12, 3) := by decide +kernel
theorem dX1_allows_79 : decode cX1_allows 79 = .ok (.iload_n 0, 1) := by decide +kernel
theorem dX1_allows_80 : decode cX1_allows 80 = .ok (.bipush 7, 2) := by decide +kernel
theorem dX1_allows_82 : decode cX1_allows 82 = .ok (.invokestatic 38, 3) := by decide +kernel
theorem dX1_allows_85 : decode cX1_allows 85 = .ok (.ifCond .eq 7, 3) := by decide +kernel
theorem dX1_allows_88 : decode cX1_allows 88 = .ok (.iconst 1, 1) := by decide +kernel
theorem dX1_allows_89 : decode cX1_allows 89 = .ok (.goto 4, 3) := by decide +kernel
theorem dX1_allows_92 : decode cX1_allows 92 = .ok (.iconst 0, 1) := by decide +kernel
theorem dX1_allows_93 : decode cX1_allows 93 = .ok (.ireturn, 1) := by decide +kernel
theorem dX1_result_0 : decode cX1_result 0 = .ok (.iload_n 0, 1) := by decide +kernel
theorem dX1_result_1 : decode cX1_result 1 = .ok (.bipush 10, 2) := by decide +kernel
theorem dX1_result_3 : decode cX1_result 3 = .ok (.iushr, 1) := by decide +kernel
theorem dX1_result_4 : decode cX1_result 4 = .ok (.i2l, 1) := by decide +kernel
theorem dX1_result_5 : decode cX1_result 5 = .ok (.lstore 4, 2) := by decide +kernel
theorem dX1_result_7 : decode cX1_result 7 = .ok (.iload_n 1, 1) := by decide +kernel
theorem dX1_result_8 : decode cX1_result 8 = .ok (.ifCond .eq 21, 3) := by decide +kernel
theorem dX1_result_11 : decode cX1_result 11 = .ok (.lload 4, 2) := by decide +kernel
theorem dX1_result_13 : decode cX1_result 13 = .ok (.ldc2_w 42, 3) := by decide +kernel
theorem dX1_result_16 : decode cX1_result 16 = .ok (.land, 1) := by decide +kernel
theorem dX1_result_17 : decode cX1_result 17 = .ok (.lload_n 2, 1) := by decide +kernel
theorem dX1_result_18 : decode cX1_result 18 = .ok (.bipush 12, 2) := by decide +kernel
theorem dX1_result_20 : decode cX1_result 20 = .ok (.lshr, 1) := by decide +kernel
theorem dX1_result_21 : decode cX1_result 21 = .ok (.ldc2_w 44, 3) := by decide +kernel
theorem dX1_result_24 : decode cX1_result 24 = .ok (.land, 1) := by decide +kernel
theorem dX1_result_25 : decode cX1_result 25 = .ok (.lor, 1) := by decide +kernel
theorem dX1_result_26 : decode cX1_result 26 = .ok (.goto 5, 3) := by decide +kernel
theorem dX1_result_29 : decode cX1_result 29 = .ok (.lload 4, 2) := by decide +kernel
theorem dX1_result_31 : decode cX1_result 31 = .ok (.lstore 4, 2) := by decide +kernel
theorem dX1_result_33 : decode cX1_result 33 = .ok (.lload 4, 2) := by decide +kernel
theorem dX1_result_35 : decode cX1_result 35 = .ok (.bipush 12, 2) := by decide +kernel
theorem dX1_result_37 : decode cX1_result 37 = .ok (.lshl, 1) := by decide +kernel
theorem dX1_result_38 : decode cX1_result 38 = .ok (.lload_n 2, 1) := by decide +kernel
theorem dX1_result_39 : decode cX1_result 39 = .ok (.ldc2_w 46, 3) := by decide +kernel
theorem dX1_result_42 : decode cX1_result 42 = .ok (.land, 1) := by decide +kernel
theorem dX1_result_43 : decode cX1_result 43 = .ok (.lor, 1) := by decide +kernel
theorem dX1_result_44 : decode cX1_result 44 = .ok (.lreturn, 1) := by decide +kernel
theorem dX1_userFits_0 : decode cX1_userFits 0 = .ok (.iload_n 1, 1) := by decide +kernel
theorem dX1_userFits_1 : decode cX1_userFits 1 = .ok (.iconst 4, 1) := by decide +kernel
theorem dX1_userFits_2 : decode cX1_userFits 2 = .ok (.invokestatic 38, 3) := by decide +kernel
theorem dX1_userFits_5 : decode cX1_userFits 5 = .ok (.istore 5, 2) := by decide +kernel
theorem dX1_userFits_7 : decode cX1_userFits 7 = .ok (.iload_n 2, 1) := by decide +kernel
theorem dX1_userFits_8 : decode cX1_userFits 8 = .ok (.ifCond .eq 8, 3) := by decide +kernel
theorem dX1_userFits_11 : decode cX1_userFits 11 = .ok (.iload 5, 2) := by decide +kernel
theorem dX1_userFits_13 : decode cX1_userFits 13 = .ok (.goto 22, 3) := by decide +kernel
theorem dX1_userFits_16 : decode cX1_userFits 16 = .ok (.iload 5, 2) := by decide +kernel
theorem dX1_userFits_18 : decode cX1_userFits 18 = .ok (.ifCond .eq 12, 3) := by decide +kernel
theorem dX1_userFits_21 : decode cX1_userFits 21 = .ok (.iload 4, 2) := by decide +kernel
theorem dX1_userFits_23 : decode cX1_userFits 23 = .ok (.ifCond .eq 11, 3) := by decide +kernel
theorem dX1_userFits_26 : decode cX1_userFits 26 = .ok (.iload_n 3, 1) := by decide +kernel
theorem dX1_userFits_27 : decode cX1_userFits 27 = .ok (.ifCond .eq 7, 3) := by decide +kernel
theorem dX1_userFits_30 : decode cX1_userFits 30 = .ok (.iconst 1, 1) := by decide +kernel
theorem dX1_userFits_31 : decode cX1_userFits 31 = .ok (.goto 4, 3) := by decide +kernel
theorem dX1_userFits_34 : decode cX1_userFits 34 = .ok (.iconst 0, 1) := by decide +kernel
theorem dX1_userFits_35 : decode cX1_userFits 35 = .ok (.ireturn, 1) := by decide +kernel
theorem dX1_isKind_0 : decode cX1_isKind 0 = .ok (.iload_n 0, 1) := by decide +kernel
theorem dX1_isKind_1 : decode cX1_isKind 1 = .ok (.ifCond .lt 30, 3) := by decide +kernel
theorem dX1_isKind_4 : decode cX1_isKind 4 = .ok (.iload_n 0, 1) := by decide +kernel
theorem dX1_isKind_5 : decode cX1_isKind 5 = .ok (.iconst 4, 1) := by decide +kernel
theorem dX1_isKind_6 : decode cX1_isKind 6 = .ok (.if_icmp .ge 25, 3) := by decide +kernel
theorem dX1_isKind_9 : decode cX1_isKind 9 = .ok (.iload_n 1, 1) := by decide +kernel
theorem dX1_isKind_10 : decode cX1_isKind 10 = .ok (.ifCond .lt 21, 3) := by decide +kernel
theorem dX1_isKind_13 : decode cX1_isKind 13 = .ok (.iload_n 1, 1) := by decide +kernel
theorem dX1_isKind_14 : decode cX1_isKind 14 = .ok (.iload_n 0, 1) := by decide +kernel
theorem dX1_isKind_15 : decode cX1_isKind 15 = .ok (.iconst 2, 1) := by decide +kernel
theorem dX1_isKind_16 : decode cX1_isKind 16 = .ok (.if_icmp .ge 7, 3) := by decide +kernel
theorem dX1_isKind_19 : decode cX1_isKind 19 = .ok (.iconst 2, 1) := by decide +kernel
theorem dX1_isKind_20 : decode cX1_isKind 20 = .ok (.goto 4, 3) := by decide +kernel
theorem dX1_isKind_23 : decode cX1_isKind 23 = .ok (.iconst 3, 1) := by decide +kernel
theorem dX1_isKind_24 : decode cX1_isKind 24 = .ok (.if_icmp .gt 7, 3) := by decide +kernel
theorem dX1_isKind_27 : decode cX1_isKind 27 = .ok (.iconst 1, 1) := by decide +kernel
theorem dX1_isKind_28 : decode cX1_isKind 28 = .ok (.goto 4, 3) := by decide +kernel
theorem dX1_isKind_31 : decode cX1_isKind 31 = .ok (.iconst 0, 1) := by decide +kernel
theorem dX1_isKind_32 : decode cX1_isKind 32 = .ok (.ireturn, 1) := by decide +kernel
theorem dX1_translate_0 : decode cX1_translate 0 = .ok (.iload_n 1, 1) := by decide +kernel
theorem dX1_translate_1 : decode cX1_translate 1 = .ok (.iload_n 2, 1) := by decide +kernel
theorem dX1_translate_2 : decode cX1_translate 2 = .ok (.invokestatic 99, 3) := by decide +kernel
theorem dX1_translate_5 : decode cX1_translate 5 = .ok (.ifCond .ne 5, 3) := by decide +kernel
theorem dX1_translate_8 : decode cX1_translate 8 = .ok (.iconst (-1), 1) := by decide +kernel
theorem dX1_translate_9 : decode cX1_translate 9 = .ok (.ireturn, 1) := by decide +kernel
theorem dX1_translate_10 : decode cX1_translate 10 = .ok (.aload_n 0, 1) := by decide +kernel
theorem dX1_translate_11 : decode cX1_translate 11 = .ok (.iload_n 1, 1) := by decide +kernel
theorem dX1_translate_12 : decode cX1_translate 12 = .ok (.iload_n 2, 1) := by decide +kernel
theorem dX1_translate_13 : decode cX1_translate 13 = .ok (.iload_n 3, 1) := by decide +kernel
theorem dX1_translate_14 : decode cX1_translate 14 = .ok (.invokevirtual 102, 3) := by decide +kernel
theorem dX1_translate_17 : decode cX1_translate 17 = .ok (.aload_n 0, 1) := by decide +kernel
theorem dX1_translate_18 : decode cX1_translate 18 = .ok (.getfield 14, 3) := by decide +kernel
theorem dX1_translate_21 : decode cX1_translate 21 = .ok (.ireturn, 1) := by decide +kernel
theorem dX1_place_0 : decode cX1_place 0 = .ok (.aload_n 0, 1) := by decide +kernel
theorem dX1_place_1 : decode cX1_place 1 = .ok (.getfield 14, 3) := by decide +kernel
theorem dX1_place_4 : decode cX1_place 4 = .ok (.ifCond .ne 11, 3) := by decide +kernel
theorem dX1_place_7 : decode cX1_place 7 = .ok (.aload_n 0, 1) := by decide +kernel
theorem dX1_place_8 : decode cX1_place 8 = .ok (.getfield 96, 3) := by decide +kernel
theorem dX1_place_11 : decode cX1_place 11 = .ok (.l2i, 1) := by decide +kernel
theorem dX1_place_12 : decode cX1_place 12 = .ok (.goto 4, 3) := by decide +kernel
theorem dX1_place_15 : decode cX1_place 15 = .ok (.iconst (-1), 1) := by decide +kernel
theorem dX1_place_16 : decode cX1_place 16 = .ok (.ireturn, 1) := by decide +kernel
theorem dX1_second_0 : decode cX1_second 0 = .ok (.aload_n 0, 1) := by decide +kernel
theorem dX1_second_1 : decode cX1_second 1 = .ok (.getfield 14, 3) := by decide +kernel
theorem dX1_second_4 : decode cX1_second 4 = .ok (.bipush 20, 2) := by decide +kernel
theorem dX1_second_6 : decode cX1_second 6 = .ok (.if_icmp .eq 21, 3) := by decide +kernel
theorem dX1_second_9 : decode cX1_second 9 = .ok (.aload_n 0, 1) := by decide +kernel
theorem dX1_second_10 : decode cX1_second 10 = .ok (.getfield 14, 3) := by decide +kernel
theorem dX1_second_13 : decode cX1_second 13 = .ok (.bipush 21, 2) := by decide +kernel
theorem dX1_second_15 : decode cX1_second 15 = .ok (.if_icmp .eq 12, 3) := by decide +kernel
theorem dX1_second_18 : decode cX1_second 18 = .ok (.aload_n 0, 1) := by decide +kernel
theorem dX1_second_19 : decode cX1_second 19 = .ok (.getfield 14, 3) := by decide +kernel
theorem dX1_second_22 : decode cX1_second 22 = .ok (.bipush 23, 2) := by decide +kernel
theorem dX1_second_24 : decode cX1_second 24 = .ok (.if_icmp .ne 13, 3) := by decide +kernel
theorem dX1_second_27 : decode cX1_second 27 = .ok (.aload_n 0, 1) := by decide +kernel
theorem dX1_second_28 : decode cX1_second 28 = .ok (.getfield 73, 3) := by decide +kernel
theorem dX1_second_31 : decode cX1_second 31 = .ok (.iconst 2, 1) := by decide +kernel
theorem dX1_second_32 : decode cX1_second 32 = .ok (.lshr, 1) := by decide +kernel
theorem dX1_second_33 : decode cX1_second 33 = .ok (.l2i, 1) := by decide +kernel
theorem dX1_second_34 : decode cX1_second 34 = .ok (.goto 4, 3) := by decide +kernel
theorem dX1_second_37 : decode cX1_second 37 = .ok (.iconst 0, 1) := by decide +kernel
theorem dX1_second_38 : decode cX1_second 38 = .ok (.ireturn, 1) := by decide +kernel
theorem dX1_entry_0 : decode cX1_entry 0 = .ok (.aload_n 0, 1) := by decide +kernel
theorem dX1_entry_1 : decode cX1_entry 1 = .ok (.getfield 14, 3) := by decide +kernel
theorem dX1_entry_4 : decode cX1_entry 4 = .ok (.bipush 20, 2) := by decide +kernel
theorem dX1_entry_6 : decode cX1_entry 6 = .ok (.if_icmp .eq 21, 3) := by decide +kernel
theorem dX1_entry_9 : decode cX1_entry 9 = .ok (.aload_n 0, 1) := by decide +kernel
theorem dX1_entry_10 : decode cX1_entry 10 = .ok (.getfield 14, 3) := by decide +kernel
theorem dX1_entry_13 : decode cX1_entry 13 = .ok (.bipush 21, 2) := by decide +kernel
theorem dX1_entry_15 : decode cX1_entry 15 = .ok (.if_icmp .eq 12, 3) := by decide +kernel
theorem dX1_entry_18 : decode cX1_entry 18 = .ok (.aload_n 0, 1) := by decide +kernel
theorem dX1_entry_19 : decode cX1_entry 19 = .ok (.getfield 14, 3) := by decide +kernel
theorem dX1_entry_22 : decode cX1_entry 22 = .ok (.bipush 23, 2) := by decide +kernel
theorem dX1_entry_24 : decode cX1_entry 24 = .ok (.if_icmp .ne 14, 3) := by decide +kernel
theorem dX1_entry_27 : decode cX1_entry 27 = .ok (.aload_n 0, 1) := by decide +kernel
theorem dX1_entry_28 : decode cX1_entry 28 = .ok (.getfield 77, 3) := by decide +kernel
theorem dX1_entry_31 : decode cX1_entry 31 = .ok (.ifCond .eq 7, 3) := by decide +kernel
theorem dX1_entry_34 : decode cX1_entry 34 = .ok (.iconst 1, 1) := by decide +kernel
theorem dX1_entry_35 : decode cX1_entry 35 = .ok (.goto 4, 3) := by decide +kernel
theorem dX1_entry_38 : decode cX1_entry 38 = .ok (.iconst 0, 1) := by decide +kernel
theorem dX1_entry_39 : decode cX1_entry 39 = .ok (.ireturn, 1) := by decide +kernel
