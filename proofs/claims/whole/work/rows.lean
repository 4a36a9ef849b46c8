section
-- ===== PART A: goes FIRST, ahead of the names: the tables' words, and 'selects' of the private methods out of them =====
/-- a private method of a class that the tables say can be made, by its rows of tables_1 -/
def lw_okq (q : MethodName × Nat) : Prop := (q.1.cls ≠ "java/lang/invoke/MethodHandle" ∧ q.1.cls ≠ "java/lang/invoke/VarHandle") ∧ Cond.instantiable q.1.cls q.2 ∈ tables_1 ∧ Cond.privateMethod q.1 ∈ tables_1 ∧ Cond.instanceMethod q.1 ∈ tables_1
theorem lw_p0 : lw_okq (⟨"StageWalker", "lead", "(IIJ)J"⟩, 10) := ⟨⟨by decide +kernel, by decide +kernel⟩, List.mem_of_getElem? (i := 5) (by decide +kernel), List.mem_of_getElem? (i := 85) (by decide +kernel), List.mem_of_getElem? (i := 86) (by decide +kernel)⟩
theorem lw_p1 : lw_okq (⟨"StageWalker", "walkFirst", "(IIJI)J"⟩, 10) := ⟨⟨by decide +kernel, by decide +kernel⟩, List.mem_of_getElem? (i := 5) (by decide +kernel), List.mem_of_getElem? (i := 89) (by decide +kernel), List.mem_of_getElem? (i := 90) (by decide +kernel)⟩
theorem lw_p2 : lw_okq (⟨"StageWalker", "throughSecond", "(IIJZ)J"⟩, 10) := ⟨⟨by decide +kernel, by decide +kernel⟩, List.mem_of_getElem? (i := 5) (by decide +kernel), List.mem_of_getElem? (i := 99) (by decide +kernel), List.mem_of_getElem? (i := 100) (by decide +kernel)⟩
theorem lw_p3 : lw_okq (⟨"StageWalker", "walkSecond", "(IJZ)J"⟩, 10) := ⟨⟨by decide +kernel, by decide +kernel⟩, List.mem_of_getElem? (i := 5) (by decide +kernel), List.mem_of_getElem? (i := 103) (by decide +kernel), List.mem_of_getElem? (i := 104) (by decide +kernel)⟩
theorem lw_p4 : lw_okq (⟨"StageWalker", "entryAt", "(IJ)J"⟩, 10) := ⟨⟨by decide +kernel, by decide +kernel⟩, List.mem_of_getElem? (i := 5) (by decide +kernel), List.mem_of_getElem? (i := 108) (by decide +kernel), List.mem_of_getElem? (i := 109) (by decide +kernel)⟩
theorem lw_p5 : lw_okq (⟨"StageWalker", "secondAllows", "(IJZ)Z"⟩, 10) := ⟨⟨by decide +kernel, by decide +kernel⟩, List.mem_of_getElem? (i := 5) (by decide +kernel), List.mem_of_getElem? (i := 133) (by decide +kernel), List.mem_of_getElem? (i := 134) (by decide +kernel)⟩
theorem lw_p6 : lw_okq (⟨"StageWalker", "firstAllows", "(IIJ)Z"⟩, 10) := ⟨⟨by decide +kernel, by decide +kernel⟩, List.mem_of_getElem? (i := 5) (by decide +kernel), List.mem_of_getElem? (i := 157) (by decide +kernel), List.mem_of_getElem? (i := 158) (by decide +kernel)⟩
theorem lw_p7 : lw_okq (⟨"StageWalker", "userBitFits", "(IIJ)Z"⟩, 10) := ⟨⟨by decide +kernel, by decide +kernel⟩, List.mem_of_getElem? (i := 5) (by decide +kernel), List.mem_of_getElem? (i := 161) (by decide +kernel), List.mem_of_getElem? (i := 162) (by decide +kernel)⟩
theorem lw_p8 : lw_okq (⟨"StageWalkerModel", "go", "(III)V"⟩, 9) := ⟨⟨by decide +kernel, by decide +kernel⟩, List.mem_of_getElem? (i := 187) (by decide +kernel), List.mem_of_getElem? (i := 251) (by decide +kernel), List.mem_of_getElem? (i := 252) (by decide +kernel)⟩
theorem lw_p9 : lw_okq (⟨"StageWalkerModel", "has", "(I)Z"⟩, 9) := ⟨⟨by decide +kernel, by decide +kernel⟩, List.mem_of_getElem? (i := 187) (by decide +kernel), List.mem_of_getElem? (i := 256) (by decide +kernel), List.mem_of_getElem? (i := 257) (by decide +kernel)⟩
theorem lw_p10 : lw_okq (⟨"StageWalkerModel", "first", "(IJIZZZZ)J"⟩, 9) := ⟨⟨by decide +kernel, by decide +kernel⟩, List.mem_of_getElem? (i := 187) (by decide +kernel), List.mem_of_getElem? (i := 260) (by decide +kernel), List.mem_of_getElem? (i := 261) (by decide +kernel)⟩
theorem lw_p11 : lw_okq (⟨"StageWalkerModel", "second", "(JIIZ)J"⟩, 9) := ⟨⟨by decide +kernel, by decide +kernel⟩, List.mem_of_getElem? (i := 187) (by decide +kernel), List.mem_of_getElem? (i := 267) (by decide +kernel), List.mem_of_getElem? (i := 268) (by decide +kernel)⟩
theorem lw_p12 : lw_okq (⟨"StageWalkerModel", "inMemory", "(IJ)J"⟩, 9) := ⟨⟨by decide +kernel, by decide +kernel⟩, List.mem_of_getElem? (i := 187) (by decide +kernel), List.mem_of_getElem? (i := 271) (by decide +kernel), List.mem_of_getElem? (i := 272) (by decide +kernel)⟩
theorem lw_p13 : lw_okq (⟨"StageWalkerModel", "raise", "(IIII)V"⟩, 9) := ⟨⟨by decide +kernel, by decide +kernel⟩, List.mem_of_getElem? (i := 187) (by decide +kernel), List.mem_of_getElem? (i := 276) (by decide +kernel), List.mem_of_getElem? (i := 277) (by decide +kernel)⟩
theorem lw_p14 : lw_okq (⟨"StageWalkerModel", "userFits", "(IZIZ)Z"⟩, 9) := ⟨⟨by decide +kernel, by decide +kernel⟩, List.mem_of_getElem? (i := 187) (by decide +kernel), List.mem_of_getElem? (i := 298) (by decide +kernel), List.mem_of_getElem? (i := 299) (by decide +kernel)⟩
def lw_privs_1 : List (MethodName × Nat) := [(⟨"StageWalker", "lead", "(IIJ)J"⟩, 10), (⟨"StageWalker", "walkFirst", "(IIJI)J"⟩, 10), (⟨"StageWalker", "throughSecond", "(IIJZ)J"⟩, 10), (⟨"StageWalker", "walkSecond", "(IJZ)J"⟩, 10), (⟨"StageWalker", "entryAt", "(IJ)J"⟩, 10), (⟨"StageWalker", "secondAllows", "(IJZ)Z"⟩, 10), (⟨"StageWalker", "firstAllows", "(IIJ)Z"⟩, 10), (⟨"StageWalker", "userBitFits", "(IIJ)Z"⟩, 10), (⟨"StageWalkerModel", "go", "(III)V"⟩, 9), (⟨"StageWalkerModel", "has", "(I)Z"⟩, 9), (⟨"StageWalkerModel", "first", "(IJIZZZZ)J"⟩, 9), (⟨"StageWalkerModel", "second", "(JIIZ)J"⟩, 9), (⟨"StageWalkerModel", "inMemory", "(IJ)J"⟩, 9), (⟨"StageWalkerModel", "raise", "(IIII)V"⟩, 9), (⟨"StageWalkerModel", "userFits", "(IZIZ)Z"⟩, 9)]
theorem lw_r1 : ∀ q ∈ lw_privs_1, lw_okq q := List.forall_mem_cons.mpr ⟨lw_p0, List.forall_mem_cons.mpr ⟨lw_p1, List.forall_mem_cons.mpr ⟨lw_p2, List.forall_mem_cons.mpr ⟨lw_p3, List.forall_mem_cons.mpr ⟨lw_p4, List.forall_mem_cons.mpr ⟨lw_p5, List.forall_mem_cons.mpr ⟨lw_p6, List.forall_mem_cons.mpr ⟨lw_p7, List.forall_mem_cons.mpr ⟨lw_p8, List.forall_mem_cons.mpr ⟨lw_p9, List.forall_mem_cons.mpr ⟨lw_p10, List.forall_mem_cons.mpr ⟨lw_p11, List.forall_mem_cons.mpr ⟨lw_p12, List.forall_mem_cons.mpr ⟨lw_p13, List.forall_mem_cons.mpr ⟨lw_p14, fun _ h => absurd h List.not_mem_nil⟩⟩⟩⟩⟩⟩⟩⟩⟩⟩⟩⟩⟩⟩⟩
def lw_privs : List (MethodName × Nat) := lw_privs_1
def lw_tbl : List Cond := k2_sels lw_privs ++ tables_1
theorem lw_privs_ok : ∀ q ∈ lw_privs, lw_okq q := lw_r1
/-! ===== BEGIN words of one list among another's, by their places ===== -/
theorem goodIn_r {big : List Cond} (ws : List Cond) (ps : List Nat) (hp : ws = ps.filterMap (fun i => big[i]?)) (h : ws.all goodWord = true) : GoodIn big ws := by
  intro w hw
  have h1 := List.all_eq_true.mp h w hw
  rw [hp] at hw
  obtain ⟨i, -, hi⟩ := List.mem_filterMap.mp hw
  have hm : w ∈ big := by first | exact List.mem_of_getElem? hi | exact List.getElem?_mem hi
  exact ⟨hm, good_of_word h1⟩
theorem goodIn_app {big a b : List Cond} (ha : GoodIn big a) (hb : GoodIn big b) : GoodIn big (a ++ b) := fun w h => (List.mem_append.mp h).elim (ha w) (hb w)
theorem goodIn_ca {big a b : List Cond} {c : Cond} (ha : GoodIn big (c :: a)) (hb : GoodIn big b) : GoodIn big (c :: (a ++ b)) := fun w h => (List.mem_cons.mp h).elim (fun e => ha w (List.mem_cons.mpr (Or.inl e))) (fun h => (List.mem_append.mp h).elim (fun h => ha w (List.mem_cons.mpr (Or.inr h))) (hb w))
theorem goodIn_sub {big ws : List Cond} (hm : ∀ w ∈ ws, w ∈ big) (h : ws.all goodWord = true) : GoodIn big ws := fun w hw => ⟨hm w hw, good_of_word (List.all_eq_true.mp h w hw)⟩
/-! ===== END ===== -/

/-! ===== BEGIN printed: names, fields, word lists, decode rows ===== -/
def RX0 : String := "StageWalker"
def TX0 : u_T := fun k => match k with
  | 0 => ("StageWalker", "words", "[I", true)
  | 1 => ("StageWalker", "atp", "I", false)
  | 2 => ("StageWalker", "vsAtp", "I", false)
  | 3 => ("StageWalker", "hgatp", "I", false)
  | 4 => ("StageWalker", "rights", "I", false)
  | 5 => ("StageWalker", "latestPlace", "I", false)
  | 6 => ("StageWalker", "latestSecond", "I", false)
  | 7 => ("StageWalker", "latestEntry", "Z", false)
  | 8 => ("StageWalker", "refusedAddress", "J", false)
  | _ => ("StageWalker", "refusedEntry", "Z", false)
def tyX0 : Nat → FieldType := fun k => match k with
  | 0 => .array .int
  | 1 => .int
  | 2 => .int
  | 3 => .int
  | 4 => .int
  | 5 => .int
  | 6 => .int
  | 7 => .boolean
  | 8 => .long
  | _ => .boolean
abbrev wsX00 : List Cond := u_ws RX0 TX0 10
theorem nmX0 : ∀ a, a < 10 → ∀ b, b < 10 → a ≠ b → (TX0 a).2.1 ≠ (TX0 b).2.1 := by decide +kernel
theorem tyX0_ok : ∀ k, k < 10 → parseFieldDescriptor (TX0 k).2.2.1 = some (tyX0 k) := by decide +kernel
abbrev cX0_init : ByteArray := prog_1_method_1_code
def yX0_init : MethodName := ⟨RX0, "<init>", "()V"⟩
abbrev cX0_begin : ByteArray := prog_1_method_2_code
def yX0_begin : MethodName := ⟨RX0, "begin", "()V"⟩
abbrev cX0_poke : ByteArray := prog_1_method_3_code
def yX0_poke : MethodName := ⟨RX0, "poke", "(IIIIII)I"⟩
abbrev cX0_word : ByteArray := prog_1_method_4_code
def yX0_word : MethodName := ⟨RX0, "word", "(I)I"⟩
abbrev cX0_roots : ByteArray := prog_1_method_5_code
def yX0_roots : MethodName := ⟨RX0, "roots", "(III)V"⟩
abbrev cX0_rights : ByteArray := prog_1_method_6_code
def yX0_rights : MethodName := ⟨RX0, "rights", "(I)I"⟩
abbrev cX0_translate : ByteArray := prog_1_method_7_code
def yX0_translate : MethodName := ⟨RX0, "translate", "(III)I"⟩
abbrev cX0_place : ByteArray := prog_1_method_8_code
def yX0_place : MethodName := ⟨RX0, "place", "()I"⟩
abbrev cX0_second : ByteArray := prog_1_method_9_code
def yX0_second : MethodName := ⟨RX0, "second", "()I"⟩
abbrev cX0_entry : ByteArray := prog_1_method_10_code
def yX0_entry : MethodName := ⟨RX0, "entry", "()Z"⟩
abbrev cX0_pages : ByteArray := prog_1_method_11_code
def yX0_pages : MethodName := ⟨RX0, "pages", "(IIII)I"⟩
abbrev cX0_isWordOfMemory : ByteArray := prog_1_method_12_code
def yX0_isWordOfMemory : MethodName := ⟨RX0, "isWordOfMemory", "(I)Z"⟩
abbrev cX0_isKnown : ByteArray := prog_1_method_13_code
def yX0_isKnown : MethodName := ⟨RX0, "isKnown", "(II)Z"⟩
abbrev cX0_isVirtual : ByteArray := prog_1_method_14_code
def yX0_isVirtual : MethodName := ⟨RX0, "isVirtual", "(I)Z"⟩
abbrev cX0_lead : ByteArray := prog_1_method_15_code
def yX0_lead : MethodName := ⟨RX0, "lead", "(IIJ)J"⟩
abbrev cX0_throughSecond : ByteArray := prog_1_method_16_code
def yX0_throughSecond : MethodName := ⟨RX0, "throughSecond", "(IIJZ)J"⟩
abbrev cX0_walkFirst : ByteArray := prog_1_method_17_code
def yX0_walkFirst : MethodName := ⟨RX0, "walkFirst", "(IIJI)J"⟩
abbrev cX0_walkSecond : ByteArray := prog_1_method_18_code
def yX0_walkSecond : MethodName := ⟨RX0, "walkSecond", "(IJZ)J"⟩
abbrev cX0_upperEntry : ByteArray := prog_1_method_19_code
def yX0_upperEntry : MethodName := ⟨RX0, "upperEntry", "(IJ)J"⟩
abbrev cX0_lowerEntry : ByteArray := prog_1_method_20_code
def yX0_lowerEntry : MethodName := ⟨RX0, "lowerEntry", "(JJ)J"⟩
abbrev cX0_entryAt : ByteArray := prog_1_method_21_code
def yX0_entryAt : MethodName := ⟨RX0, "entryAt", "(IJ)J"⟩
abbrev cX0_isTable : ByteArray := prog_1_method_22_code
def yX0_isTable : MethodName := ⟨RX0, "isTable", "(J)Z"⟩
abbrev cX0_isGoodLeaf : ByteArray := prog_1_method_23_code
def yX0_isGoodLeaf : MethodName := ⟨RX0, "isGoodLeaf", "(JZ)Z"⟩
abbrev cX0_firstAllows : ByteArray := prog_1_method_24_code
def yX0_firstAllows : MethodName := ⟨RX0, "firstAllows", "(IIJ)Z"⟩
abbrev cX0_userBitFits : ByteArray := prog_1_method_25_code
def yX0_userBitFits : MethodName := ⟨RX0, "userBitFits", "(IIJ)Z"⟩
abbrev cX0_secondAllows : ByteArray := prog_1_method_26_code
def yX0_secondAllows : MethodName := ⟨RX0, "secondAllows", "(IJZ)Z"⟩
abbrev cX0_grants : ByteArray := prog_1_method_27_code
def yX0_grants : MethodName := ⟨RX0, "grants", "(IJZ)Z"⟩
abbrev cX0_result : ByteArray := prog_1_method_28_code
def yX0_result : MethodName := ⟨RX0, "result", "(JZJ)J"⟩
abbrev cX0_noMemory : ByteArray := prog_1_method_29_code
def yX0_noMemory : MethodName := ⟨RX0, "noMemory", "(I)J"⟩
abbrev cX0_firstFault : ByteArray := prog_1_method_30_code
def yX0_firstFault : MethodName := ⟨RX0, "firstFault", "(I)J"⟩
abbrev cX0_secondFault : ByteArray := prog_1_method_31_code
def yX0_secondFault : MethodName := ⟨RX0, "secondFault", "(I)J"⟩
def RX1 : String := "StageWalkerModel"
def TX1 : u_T := fun k => match k with
  | 0 => ("StageWalkerModel", "memory", "[I", true)
  | 1 => ("StageWalkerModel", "atp", "I", false)
  | 2 => ("StageWalkerModel", "vsAtp", "I", false)
  | 3 => ("StageWalkerModel", "hgatp", "I", false)
  | 4 => ("StageWalkerModel", "rights", "I", false)
  | 5 => ("StageWalkerModel", "code", "I", false)
  | 6 => ("StageWalkerModel", "found", "J", false)
  | 7 => ("StageWalkerModel", "wanted", "J", false)
  | _ => ("StageWalkerModel", "ofEntry", "Z", false)
def tyX1 : Nat → FieldType := fun k => match k with
  | 0 => .array .int
  | 1 => .int
  | 2 => .int
  | 3 => .int
  | 4 => .int
  | 5 => .int
  | 6 => .long
  | 7 => .long
  | _ => .boolean
abbrev wsX10 : List Cond := u_ws RX1 TX1 9
theorem nmX1 : ∀ a, a < 9 → ∀ b, b < 9 → a ≠ b → (TX1 a).2.1 ≠ (TX1 b).2.1 := by decide +kernel
theorem tyX1_ok : ∀ k, k < 9 → parseFieldDescriptor (TX1 k).2.2.1 = some (tyX1 k) := by decide +kernel
abbrev cX1_init : ByteArray := prog_3_method_1_code
def yX1_init : MethodName := ⟨RX1, "<init>", "()V"⟩
abbrev cX1_begin : ByteArray := prog_3_method_2_code
def yX1_begin : MethodName := ⟨RX1, "begin", "()V"⟩
abbrev cX1_poke : ByteArray := prog_3_method_3_code
def yX1_poke : MethodName := ⟨RX1, "poke", "(IIIIII)I"⟩
abbrev cX1_word : ByteArray := prog_3_method_4_code
def yX1_word : MethodName := ⟨RX1, "word", "(I)I"⟩
abbrev cX1_roots : ByteArray := prog_3_method_5_code
def yX1_roots : MethodName := ⟨RX1, "roots", "(III)V"⟩
def RJ7 : String := "java/util/Arrays"
def TJ7 : u_T := fun k => match k with
  | _ => ("", "", "", false)
def tyJ7 : Nat → FieldType := fun k => match k with
  | _ => .int
abbrev wsJ70 : List Cond := u_ws RJ7 TJ7 0
theorem nmJ7 : ∀ a, a < 0 → ∀ b, b < 0 → a ≠ b → (TJ7 a).2.1 ≠ (TJ7 b).2.1 := by decide +kernel
theorem tyJ7_ok : ∀ k, k < 0 → parseFieldDescriptor (TJ7 k).2.2.1 = some (tyJ7 k) := by decide +kernel
abbrev cJ7_fill_53178 : ByteArray := prog_4_method_103_code
def yJ7_fill_53178 : MethodName := ⟨RJ7, "fill", "([II)V"⟩
def RL : String := "StageWalkerLaw"
abbrev cL_law : ByteArray := code
def yL_law : MethodName := ⟨RL, "law", "([I)Z"⟩
def wsX0_init : List Cond := .code yX0_init cX0_init 1 none :: ([.methodLink RX0 3 objectInit, .instanceMethod objectInit, .code objectInit ⟨#[0xb1]⟩ 1 none, .constant RX0 9 (65536), .arrayClass .int, .fieldLink RX0 10 "StageWalker" "words" "[I", .fieldLink RX0 14 "StageWalker" "latestPlace" "I"] ++ wsX00)
def wsJ7_fill_53178 : List Cond := .code yJ7_fill_53178 cJ7_fill_53178 4 none :: ([])
def wsX0_begin : List Cond := .code yX0_begin cX0_begin 1 none :: ([.fieldLink RX0 10 "StageWalker" "words" "[I", .fieldLink RX0 24 "StageWalker" "atp" "I", .fieldLink RX0 27 "StageWalker" "vsAtp" "I", .fieldLink RX0 30 "StageWalker" "hgatp" "I", .fieldLink RX0 33 "StageWalker" "rights" "I", .fieldLink RX0 14 "StageWalker" "latestPlace" "I", .fieldLink RX0 36 "StageWalker" "latestSecond" "I", .fieldLink RX0 39 "StageWalker" "latestEntry" "Z", .methodLink RX0 18 yJ7_fill_53178, .static yJ7_fill_53178, .initialized RJ7, .code yJ7_fill_53178 cJ7_fill_53178 4 none] ++ wsX00)
def wsX0_isWordOfMemory : List Cond := .code yX0_isWordOfMemory cX0_isWordOfMemory 1 (some .boolean) :: ([.constant RX0 71 (262144)])
def wsX0_poke : List Cond := .code yX0_poke cX0_poke 8 (some .int) :: ([.constant RX0 47 (262124), .fieldLink RX0 10 "StageWalker" "words" "[I", .methodLink RX0 43 yX0_isWordOfMemory, .static yX0_isWordOfMemory, .initialized RX0, .code yX0_isWordOfMemory cX0_isWordOfMemory 1 (some .boolean), .constant RX0 71 (262144)] ++ wsX00)
def wsX0_word : List Cond := .code yX0_word cX0_word 2 (some .int) :: ([.fieldLink RX0 10 "StageWalker" "words" "[I", .methodLink RX0 43 yX0_isWordOfMemory, .static yX0_isWordOfMemory, .initialized RX0, .code yX0_isWordOfMemory cX0_isWordOfMemory 1 (some .boolean), .constant RX0 71 (262144)] ++ wsX00)
def wsX0_roots : List Cond := .code yX0_roots cX0_roots 4 none :: ([.fieldLink RX0 24 "StageWalker" "atp" "I", .fieldLink RX0 27 "StageWalker" "vsAtp" "I", .fieldLink RX0 30 "StageWalker" "hgatp" "I"] ++ wsX00)
def wsX0_rights : List Cond := .code yX0_rights cX0_rights 3 (some .int) :: ([.fieldLink RX0 33 "StageWalker" "rights" "I"] ++ wsX00)
def wsX0_isVirtual : List Cond := .code yX0_isVirtual cX0_isVirtual 1 (some .boolean) :: ([])
def wsX0_isKnown : List Cond := .code yX0_isKnown cX0_isKnown 3 (some .boolean) :: ([.methodLink RX0 72 yX0_isVirtual, .static yX0_isVirtual, .initialized RX0, .code yX0_isVirtual cX0_isVirtual 1 (some .boolean)])
def wsX0_upperEntry : List Cond := .code yX0_upperEntry cX0_upperEntry 3 (some .long) :: ([.constantLong RX0 69 (4096), .constantLong RX0 128 (4)])
def wsX0_noMemory : List Cond := .code yX0_noMemory cX0_noMemory 1 (some .long) :: ([.constantLong RX0 162 (-1), .constantLong RX0 164 (-7), .constantLong RX0 166 (-5)])
def wsX0_entryAt : List Cond := .code yX0_entryAt cX0_entryAt 4 (some .long) :: ([.constantLong RX0 83 (262144), .fieldLink RX0 10 "StageWalker" "words" "[I", .constantLong RX0 52 (4294967295), .methodLink RX0 85 yX0_noMemory, .static yX0_noMemory, .initialized RX0, .code yX0_noMemory cX0_noMemory 1 (some .long), .constantLong RX0 162 (-1), .constantLong RX0 164 (-7), .constantLong RX0 166 (-5)] ++ wsX00)
def wsX0_isTable : List Cond := .code yX0_isTable cX0_isTable 2 (some .boolean) :: ([.constantLong RX0 132 (223)])
def wsX0_lowerEntry : List Cond := .code yX0_lowerEntry cX0_lowerEntry 4 (some .long) :: ([.constantLong RX0 69 (4096), .constantLong RX0 128 (4), .constantLong RX0 130 (1023)])
def wsX0_isGoodLeaf : List Cond := .code yX0_isGoodLeaf cX0_isGoodLeaf 6 (some .boolean) :: ([.constantLong RX0 134 (14), .constantLong RX0 136 (6), .constantLong RX0 128 (4), .constantLong RX0 138 (1047552)])
def wsX0_grants : List Cond := .code yX0_grants cX0_grants 4 (some .boolean) :: ([.constantLong RX0 148 (64), .constantLong RX0 128 (4), .constantLong RX0 150 (128), .constantLong RX0 152 (10), .constantLong RX0 154 (2), .constantLong RX0 156 (8)])
def wsX0_secondAllows : List Cond := .code yX0_secondAllows cX0_secondAllows 6 (some .boolean) :: ([.fieldLink RX0 33 "StageWalker" "rights" "I", .constantLong RX0 146 (16), .methodLink RX0 143 yX0_grants, .static yX0_grants, .initialized RX0, .code yX0_grants cX0_grants 4 (some .boolean), .constantLong RX0 148 (64), .constantLong RX0 128 (4), .constantLong RX0 150 (128), .constantLong RX0 152 (10), .constantLong RX0 154 (2), .constantLong RX0 156 (8)] ++ wsX00)
def wsX0_result : List Cond := .code yX0_result cX0_result 7 (some .long) :: ([.constantLong RX0 158 (4194303), .constantLong RX0 160 (4095), .constantLong RX0 69 (4096), .constantLong RX0 162 (-1)])
def wsX0_secondFault : List Cond := .code yX0_secondFault cX0_secondFault 1 (some .long) :: ([.constantLong RX0 174 (-20), .constantLong RX0 176 (-23), .constantLong RX0 178 (-21)])
def wsX0_walkSecond_r1 : List Cond := [Cond.fieldLink RX0 30 "StageWalker" "hgatp" "I", Cond.constant RX0 123 (4194300), Cond.fieldLink RX0 62 "StageWalker" "refusedAddress" "J", Cond.fieldLink RX0 66 "StageWalker" "refusedEntry" "Z", Cond.methodLink RX0 93 yX0_upperEntry, Cond.static yX0_upperEntry, Cond.initialized RX0, Cond.code yX0_upperEntry cX0_upperEntry 3 (some .long), Cond.constantLong RX0 69 (4096), Cond.constantLong RX0 128 (4), Cond.methodLink RX0 97 yX0_entryAt, Cond.instanceMethod yX0_entryAt, Cond.selects RX0 yX0_entryAt yX0_entryAt, Cond.code yX0_entryAt cX0_entryAt 4 (some .long), Cond.constantLong RX0 83 (262144), Cond.fieldLink RX0 10 "StageWalker" "words" "[I", Cond.constantLong RX0 52 (4294967295), Cond.methodLink RX0 85 yX0_noMemory, Cond.static yX0_noMemory, Cond.code yX0_noMemory cX0_noMemory 1 (some .long), Cond.constantLong RX0 162 (-1), Cond.constantLong RX0 164 (-7), Cond.constantLong RX0 166 (-5), Cond.methodLink RX0 100 yX0_isTable]
def wsX0_walkSecond_r2 : List Cond := [Cond.static yX0_isTable, Cond.code yX0_isTable cX0_isTable 2 (some .boolean), Cond.constantLong RX0 132 (223), Cond.methodLink RX0 104 yX0_lowerEntry, Cond.static yX0_lowerEntry, Cond.code yX0_lowerEntry cX0_lowerEntry 4 (some .long), Cond.constantLong RX0 130 (1023), Cond.methodLink RX0 108 yX0_isGoodLeaf, Cond.static yX0_isGoodLeaf, Cond.code yX0_isGoodLeaf cX0_isGoodLeaf 6 (some .boolean), Cond.constantLong RX0 134 (14), Cond.constantLong RX0 136 (6), Cond.constantLong RX0 138 (1047552), Cond.methodLink RX0 124 yX0_secondAllows, Cond.instanceMethod yX0_secondAllows, Cond.selects RX0 yX0_secondAllows yX0_secondAllows, Cond.code yX0_secondAllows cX0_secondAllows 6 (some .boolean), Cond.fieldLink RX0 33 "StageWalker" "rights" "I", Cond.constantLong RX0 146 (16), Cond.methodLink RX0 143 yX0_grants, Cond.static yX0_grants, Cond.code yX0_grants cX0_grants 4 (some .boolean), Cond.constantLong RX0 148 (64), Cond.constantLong RX0 150 (128)]
def wsX0_walkSecond_r3 : List Cond := [Cond.constantLong RX0 152 (10), Cond.constantLong RX0 154 (2), Cond.constantLong RX0 156 (8), Cond.methodLink RX0 116 yX0_result, Cond.static yX0_result, Cond.code yX0_result cX0_result 7 (some .long), Cond.constantLong RX0 158 (4194303), Cond.constantLong RX0 160 (4095), Cond.methodLink RX0 58 yX0_secondFault, Cond.static yX0_secondFault, Cond.code yX0_secondFault cX0_secondFault 1 (some .long), Cond.constantLong RX0 174 (-20), Cond.constantLong RX0 176 (-23), Cond.constantLong RX0 178 (-21)]
def wsX0_walkSecond : List Cond := .code yX0_walkSecond cX0_walkSecond 8 (some .long) :: ((wsX0_walkSecond_r1 ++ (wsX0_walkSecond_r2 ++ wsX0_walkSecond_r3)) ++ wsX00)
def wsX0_throughSecond_r1 : List Cond := [Cond.fieldLink RX0 30 "StageWalker" "hgatp" "I", Cond.methodLink RX0 72 yX0_isVirtual, Cond.static yX0_isVirtual, Cond.initialized RX0, Cond.code yX0_isVirtual cX0_isVirtual 1 (some .boolean), Cond.methodLink RX0 88 yX0_walkSecond, Cond.instanceMethod yX0_walkSecond, Cond.selects RX0 yX0_walkSecond yX0_walkSecond, Cond.code yX0_walkSecond cX0_walkSecond 8 (some .long), Cond.constant RX0 123 (4194300), Cond.fieldLink RX0 62 "StageWalker" "refusedAddress" "J", Cond.fieldLink RX0 66 "StageWalker" "refusedEntry" "Z", Cond.methodLink RX0 93 yX0_upperEntry, Cond.static yX0_upperEntry, Cond.code yX0_upperEntry cX0_upperEntry 3 (some .long), Cond.constantLong RX0 69 (4096), Cond.constantLong RX0 128 (4), Cond.methodLink RX0 97 yX0_entryAt, Cond.instanceMethod yX0_entryAt, Cond.selects RX0 yX0_entryAt yX0_entryAt, Cond.code yX0_entryAt cX0_entryAt 4 (some .long), Cond.constantLong RX0 83 (262144), Cond.fieldLink RX0 10 "StageWalker" "words" "[I", Cond.constantLong RX0 52 (4294967295)]
def wsX0_throughSecond_r2 : List Cond := [Cond.methodLink RX0 85 yX0_noMemory, Cond.static yX0_noMemory, Cond.code yX0_noMemory cX0_noMemory 1 (some .long), Cond.constantLong RX0 162 (-1), Cond.constantLong RX0 164 (-7), Cond.constantLong RX0 166 (-5), Cond.methodLink RX0 100 yX0_isTable, Cond.static yX0_isTable, Cond.code yX0_isTable cX0_isTable 2 (some .boolean), Cond.constantLong RX0 132 (223), Cond.methodLink RX0 104 yX0_lowerEntry, Cond.static yX0_lowerEntry, Cond.code yX0_lowerEntry cX0_lowerEntry 4 (some .long), Cond.constantLong RX0 130 (1023), Cond.methodLink RX0 108 yX0_isGoodLeaf, Cond.static yX0_isGoodLeaf, Cond.code yX0_isGoodLeaf cX0_isGoodLeaf 6 (some .boolean), Cond.constantLong RX0 134 (14), Cond.constantLong RX0 136 (6), Cond.constantLong RX0 138 (1047552), Cond.methodLink RX0 124 yX0_secondAllows, Cond.instanceMethod yX0_secondAllows, Cond.selects RX0 yX0_secondAllows yX0_secondAllows, Cond.code yX0_secondAllows cX0_secondAllows 6 (some .boolean)]
def wsX0_throughSecond_r3 : List Cond := [Cond.fieldLink RX0 33 "StageWalker" "rights" "I", Cond.constantLong RX0 146 (16), Cond.methodLink RX0 143 yX0_grants, Cond.static yX0_grants, Cond.code yX0_grants cX0_grants 4 (some .boolean), Cond.constantLong RX0 148 (64), Cond.constantLong RX0 150 (128), Cond.constantLong RX0 152 (10), Cond.constantLong RX0 154 (2), Cond.constantLong RX0 156 (8), Cond.methodLink RX0 116 yX0_result, Cond.static yX0_result, Cond.code yX0_result cX0_result 7 (some .long), Cond.constantLong RX0 158 (4194303), Cond.constantLong RX0 160 (4095), Cond.methodLink RX0 58 yX0_secondFault, Cond.static yX0_secondFault, Cond.code yX0_secondFault cX0_secondFault 1 (some .long), Cond.constantLong RX0 174 (-20), Cond.constantLong RX0 176 (-23), Cond.constantLong RX0 178 (-21)]
def wsX0_throughSecond : List Cond := .code yX0_throughSecond cX0_throughSecond 7 (some .long) :: ((wsX0_throughSecond_r1 ++ (wsX0_throughSecond_r2 ++ wsX0_throughSecond_r3)) ++ wsX00)
def wsX0_userBitFits : List Cond := .code yX0_userBitFits cX0_userBitFits 7 (some .boolean) :: ([.constantLong RX0 146 (16), .fieldLink RX0 33 "StageWalker" "rights" "I", .methodLink RX0 72 yX0_isVirtual, .static yX0_isVirtual, .initialized RX0, .code yX0_isVirtual cX0_isVirtual 1 (some .boolean)] ++ wsX00)
def wsX0_firstAllows : List Cond := .code yX0_firstAllows cX0_firstAllows 6 (some .boolean) :: ([.fieldLink RX0 33 "StageWalker" "rights" "I", .methodLink RX0 72 yX0_isVirtual, .static yX0_isVirtual, .initialized RX0, .code yX0_isVirtual cX0_isVirtual 1 (some .boolean), .methodLink RX0 140 yX0_userBitFits, .instanceMethod yX0_userBitFits, .selects RX0 yX0_userBitFits yX0_userBitFits, .code yX0_userBitFits cX0_userBitFits 7 (some .boolean), .constantLong RX0 146 (16), .methodLink RX0 143 yX0_grants, .static yX0_grants, .code yX0_grants cX0_grants 4 (some .boolean), .constantLong RX0 148 (64), .constantLong RX0 128 (4), .constantLong RX0 150 (128), .constantLong RX0 152 (10), .constantLong RX0 154 (2), .constantLong RX0 156 (8)] ++ wsX00)
def wsX0_firstFault : List Cond := .code yX0_firstFault cX0_firstFault 1 (some .long) :: ([.constantLong RX0 168 (-12), .constantLong RX0 170 (-15), .constantLong RX0 172 (-13)])
def wsX0_walkFirst_r1 : List Cond := [Cond.constant RX0 92 (4194303), Cond.methodLink RX0 93 yX0_upperEntry, Cond.static yX0_upperEntry, Cond.initialized RX0, Cond.code yX0_upperEntry cX0_upperEntry 3 (some .long), Cond.constantLong RX0 69 (4096), Cond.constantLong RX0 128 (4), Cond.methodLink RX0 79 yX0_throughSecond, Cond.instanceMethod yX0_throughSecond, Cond.selects RX0 yX0_throughSecond yX0_throughSecond, Cond.code yX0_throughSecond cX0_throughSecond 7 (some .long), Cond.fieldLink RX0 30 "StageWalker" "hgatp" "I", Cond.methodLink RX0 72 yX0_isVirtual, Cond.static yX0_isVirtual, Cond.code yX0_isVirtual cX0_isVirtual 1 (some .boolean), Cond.methodLink RX0 88 yX0_walkSecond, Cond.instanceMethod yX0_walkSecond, Cond.selects RX0 yX0_walkSecond yX0_walkSecond, Cond.code yX0_walkSecond cX0_walkSecond 8 (some .long), Cond.constant RX0 123 (4194300), Cond.fieldLink RX0 62 "StageWalker" "refusedAddress" "J", Cond.fieldLink RX0 66 "StageWalker" "refusedEntry" "Z", Cond.methodLink RX0 97 yX0_entryAt, Cond.instanceMethod yX0_entryAt]
def wsX0_walkFirst_r2 : List Cond := [Cond.selects RX0 yX0_entryAt yX0_entryAt, Cond.code yX0_entryAt cX0_entryAt 4 (some .long), Cond.constantLong RX0 83 (262144), Cond.fieldLink RX0 10 "StageWalker" "words" "[I", Cond.constantLong RX0 52 (4294967295), Cond.methodLink RX0 85 yX0_noMemory, Cond.static yX0_noMemory, Cond.code yX0_noMemory cX0_noMemory 1 (some .long), Cond.constantLong RX0 162 (-1), Cond.constantLong RX0 164 (-7), Cond.constantLong RX0 166 (-5), Cond.methodLink RX0 100 yX0_isTable, Cond.static yX0_isTable, Cond.code yX0_isTable cX0_isTable 2 (some .boolean), Cond.constantLong RX0 132 (223), Cond.methodLink RX0 104 yX0_lowerEntry, Cond.static yX0_lowerEntry, Cond.code yX0_lowerEntry cX0_lowerEntry 4 (some .long), Cond.constantLong RX0 130 (1023), Cond.methodLink RX0 108 yX0_isGoodLeaf, Cond.static yX0_isGoodLeaf, Cond.code yX0_isGoodLeaf cX0_isGoodLeaf 6 (some .boolean), Cond.constantLong RX0 134 (14), Cond.constantLong RX0 136 (6)]
def wsX0_walkFirst_r3 : List Cond := [Cond.constantLong RX0 138 (1047552), Cond.methodLink RX0 124 yX0_secondAllows, Cond.instanceMethod yX0_secondAllows, Cond.selects RX0 yX0_secondAllows yX0_secondAllows, Cond.code yX0_secondAllows cX0_secondAllows 6 (some .boolean), Cond.fieldLink RX0 33 "StageWalker" "rights" "I", Cond.constantLong RX0 146 (16), Cond.methodLink RX0 143 yX0_grants, Cond.static yX0_grants, Cond.code yX0_grants cX0_grants 4 (some .boolean), Cond.constantLong RX0 148 (64), Cond.constantLong RX0 150 (128), Cond.constantLong RX0 152 (10), Cond.constantLong RX0 154 (2), Cond.constantLong RX0 156 (8), Cond.methodLink RX0 116 yX0_result, Cond.static yX0_result, Cond.code yX0_result cX0_result 7 (some .long), Cond.constantLong RX0 158 (4194303), Cond.constantLong RX0 160 (4095), Cond.methodLink RX0 58 yX0_secondFault, Cond.static yX0_secondFault, Cond.code yX0_secondFault cX0_secondFault 1 (some .long), Cond.constantLong RX0 174 (-20)]
def wsX0_walkFirst_r4 : List Cond := [Cond.constantLong RX0 176 (-23), Cond.constantLong RX0 178 (-21), Cond.methodLink RX0 112 yX0_firstAllows, Cond.instanceMethod yX0_firstAllows, Cond.selects RX0 yX0_firstAllows yX0_firstAllows, Cond.code yX0_firstAllows cX0_firstAllows 6 (some .boolean), Cond.methodLink RX0 140 yX0_userBitFits, Cond.instanceMethod yX0_userBitFits, Cond.selects RX0 yX0_userBitFits yX0_userBitFits, Cond.code yX0_userBitFits cX0_userBitFits 7 (some .boolean), Cond.methodLink RX0 120 yX0_firstFault, Cond.static yX0_firstFault, Cond.code yX0_firstFault cX0_firstFault 1 (some .long), Cond.constantLong RX0 168 (-12), Cond.constantLong RX0 170 (-15), Cond.constantLong RX0 172 (-13)]
def wsX0_walkFirst : List Cond := .code yX0_walkFirst cX0_walkFirst 12 (some .long) :: ((wsX0_walkFirst_r1 ++ (wsX0_walkFirst_r2 ++ (wsX0_walkFirst_r3 ++ wsX0_walkFirst_r4))) ++ wsX00)
def wsX0_lead_r1 : List Cond := [Cond.fieldLink RX0 27 "StageWalker" "vsAtp" "I", Cond.fieldLink RX0 24 "StageWalker" "atp" "I", Cond.constantLong RX0 83 (262144), Cond.methodLink RX0 72 yX0_isVirtual, Cond.static yX0_isVirtual, Cond.initialized RX0, Cond.code yX0_isVirtual cX0_isVirtual 1 (some .boolean), Cond.methodLink RX0 75 yX0_walkFirst, Cond.instanceMethod yX0_walkFirst, Cond.selects RX0 yX0_walkFirst yX0_walkFirst, Cond.code yX0_walkFirst cX0_walkFirst 12 (some .long), Cond.constant RX0 92 (4194303), Cond.methodLink RX0 93 yX0_upperEntry, Cond.static yX0_upperEntry, Cond.code yX0_upperEntry cX0_upperEntry 3 (some .long), Cond.constantLong RX0 69 (4096), Cond.constantLong RX0 128 (4), Cond.methodLink RX0 79 yX0_throughSecond, Cond.instanceMethod yX0_throughSecond, Cond.selects RX0 yX0_throughSecond yX0_throughSecond, Cond.code yX0_throughSecond cX0_throughSecond 7 (some .long), Cond.fieldLink RX0 30 "StageWalker" "hgatp" "I", Cond.methodLink RX0 88 yX0_walkSecond, Cond.instanceMethod yX0_walkSecond]
def wsX0_lead_r2 : List Cond := [Cond.selects RX0 yX0_walkSecond yX0_walkSecond, Cond.code yX0_walkSecond cX0_walkSecond 8 (some .long), Cond.constant RX0 123 (4194300), Cond.fieldLink RX0 62 "StageWalker" "refusedAddress" "J", Cond.fieldLink RX0 66 "StageWalker" "refusedEntry" "Z", Cond.methodLink RX0 97 yX0_entryAt, Cond.instanceMethod yX0_entryAt, Cond.selects RX0 yX0_entryAt yX0_entryAt, Cond.code yX0_entryAt cX0_entryAt 4 (some .long), Cond.fieldLink RX0 10 "StageWalker" "words" "[I", Cond.constantLong RX0 52 (4294967295), Cond.methodLink RX0 85 yX0_noMemory, Cond.static yX0_noMemory, Cond.code yX0_noMemory cX0_noMemory 1 (some .long), Cond.constantLong RX0 162 (-1), Cond.constantLong RX0 164 (-7), Cond.constantLong RX0 166 (-5), Cond.methodLink RX0 100 yX0_isTable, Cond.static yX0_isTable, Cond.code yX0_isTable cX0_isTable 2 (some .boolean), Cond.constantLong RX0 132 (223), Cond.methodLink RX0 104 yX0_lowerEntry, Cond.static yX0_lowerEntry, Cond.code yX0_lowerEntry cX0_lowerEntry 4 (some .long)]
def wsX0_lead_r3 : List Cond := [Cond.constantLong RX0 130 (1023), Cond.methodLink RX0 108 yX0_isGoodLeaf, Cond.static yX0_isGoodLeaf, Cond.code yX0_isGoodLeaf cX0_isGoodLeaf 6 (some .boolean), Cond.constantLong RX0 134 (14), Cond.constantLong RX0 136 (6), Cond.constantLong RX0 138 (1047552), Cond.methodLink RX0 124 yX0_secondAllows, Cond.instanceMethod yX0_secondAllows, Cond.selects RX0 yX0_secondAllows yX0_secondAllows, Cond.code yX0_secondAllows cX0_secondAllows 6 (some .boolean), Cond.fieldLink RX0 33 "StageWalker" "rights" "I", Cond.constantLong RX0 146 (16), Cond.methodLink RX0 143 yX0_grants, Cond.static yX0_grants, Cond.code yX0_grants cX0_grants 4 (some .boolean), Cond.constantLong RX0 148 (64), Cond.constantLong RX0 150 (128), Cond.constantLong RX0 152 (10), Cond.constantLong RX0 154 (2), Cond.constantLong RX0 156 (8), Cond.methodLink RX0 116 yX0_result, Cond.static yX0_result, Cond.code yX0_result cX0_result 7 (some .long)]
def wsX0_lead_r4 : List Cond := [Cond.constantLong RX0 158 (4194303), Cond.constantLong RX0 160 (4095), Cond.methodLink RX0 58 yX0_secondFault, Cond.static yX0_secondFault, Cond.code yX0_secondFault cX0_secondFault 1 (some .long), Cond.constantLong RX0 174 (-20), Cond.constantLong RX0 176 (-23), Cond.constantLong RX0 178 (-21), Cond.methodLink RX0 112 yX0_firstAllows, Cond.instanceMethod yX0_firstAllows, Cond.selects RX0 yX0_firstAllows yX0_firstAllows, Cond.code yX0_firstAllows cX0_firstAllows 6 (some .boolean), Cond.methodLink RX0 140 yX0_userBitFits, Cond.instanceMethod yX0_userBitFits, Cond.selects RX0 yX0_userBitFits yX0_userBitFits, Cond.code yX0_userBitFits cX0_userBitFits 7 (some .boolean), Cond.methodLink RX0 120 yX0_firstFault, Cond.static yX0_firstFault, Cond.code yX0_firstFault cX0_firstFault 1 (some .long), Cond.constantLong RX0 168 (-12), Cond.constantLong RX0 170 (-15), Cond.constantLong RX0 172 (-13)]
def wsX0_lead : List Cond := .code yX0_lead cX0_lead 10 (some .long) :: ((wsX0_lead_r1 ++ (wsX0_lead_r2 ++ (wsX0_lead_r3 ++ wsX0_lead_r4))) ++ wsX00)
def wsX0_translate_r1 : List Cond := [Cond.constantLong RX0 52 (4294967295), Cond.fieldLink RX0 14 "StageWalker" "latestPlace" "I", Cond.fieldLink RX0 62 "StageWalker" "refusedAddress" "J", Cond.fieldLink RX0 36 "StageWalker" "latestSecond" "I", Cond.fieldLink RX0 66 "StageWalker" "refusedEntry" "Z", Cond.fieldLink RX0 39 "StageWalker" "latestEntry" "Z", Cond.methodLink RX0 48 yX0_isKnown, Cond.static yX0_isKnown, Cond.initialized RX0, Cond.code yX0_isKnown cX0_isKnown 3 (some .boolean), Cond.methodLink RX0 72 yX0_isVirtual, Cond.static yX0_isVirtual, Cond.code yX0_isVirtual cX0_isVirtual 1 (some .boolean), Cond.methodLink RX0 54 yX0_lead, Cond.instanceMethod yX0_lead, Cond.selects RX0 yX0_lead yX0_lead, Cond.code yX0_lead cX0_lead 10 (some .long), Cond.fieldLink RX0 27 "StageWalker" "vsAtp" "I", Cond.fieldLink RX0 24 "StageWalker" "atp" "I", Cond.constantLong RX0 83 (262144), Cond.methodLink RX0 75 yX0_walkFirst, Cond.instanceMethod yX0_walkFirst, Cond.selects RX0 yX0_walkFirst yX0_walkFirst, Cond.code yX0_walkFirst cX0_walkFirst 12 (some .long)]
def wsX0_translate_r2 : List Cond := [Cond.constant RX0 92 (4194303), Cond.methodLink RX0 93 yX0_upperEntry, Cond.static yX0_upperEntry, Cond.code yX0_upperEntry cX0_upperEntry 3 (some .long), Cond.constantLong RX0 69 (4096), Cond.constantLong RX0 128 (4), Cond.methodLink RX0 79 yX0_throughSecond, Cond.instanceMethod yX0_throughSecond, Cond.selects RX0 yX0_throughSecond yX0_throughSecond, Cond.code yX0_throughSecond cX0_throughSecond 7 (some .long), Cond.fieldLink RX0 30 "StageWalker" "hgatp" "I", Cond.methodLink RX0 88 yX0_walkSecond, Cond.instanceMethod yX0_walkSecond, Cond.selects RX0 yX0_walkSecond yX0_walkSecond, Cond.code yX0_walkSecond cX0_walkSecond 8 (some .long), Cond.constant RX0 123 (4194300), Cond.methodLink RX0 97 yX0_entryAt, Cond.instanceMethod yX0_entryAt, Cond.selects RX0 yX0_entryAt yX0_entryAt, Cond.code yX0_entryAt cX0_entryAt 4 (some .long), Cond.fieldLink RX0 10 "StageWalker" "words" "[I", Cond.methodLink RX0 85 yX0_noMemory, Cond.static yX0_noMemory, Cond.code yX0_noMemory cX0_noMemory 1 (some .long)]
def wsX0_translate_r3 : List Cond := [Cond.constantLong RX0 162 (-1), Cond.constantLong RX0 164 (-7), Cond.constantLong RX0 166 (-5), Cond.methodLink RX0 100 yX0_isTable, Cond.static yX0_isTable, Cond.code yX0_isTable cX0_isTable 2 (some .boolean), Cond.constantLong RX0 132 (223), Cond.methodLink RX0 104 yX0_lowerEntry, Cond.static yX0_lowerEntry, Cond.code yX0_lowerEntry cX0_lowerEntry 4 (some .long), Cond.constantLong RX0 130 (1023), Cond.methodLink RX0 108 yX0_isGoodLeaf, Cond.static yX0_isGoodLeaf, Cond.code yX0_isGoodLeaf cX0_isGoodLeaf 6 (some .boolean), Cond.constantLong RX0 134 (14), Cond.constantLong RX0 136 (6), Cond.constantLong RX0 138 (1047552), Cond.methodLink RX0 124 yX0_secondAllows, Cond.instanceMethod yX0_secondAllows, Cond.selects RX0 yX0_secondAllows yX0_secondAllows, Cond.code yX0_secondAllows cX0_secondAllows 6 (some .boolean), Cond.fieldLink RX0 33 "StageWalker" "rights" "I", Cond.constantLong RX0 146 (16), Cond.methodLink RX0 143 yX0_grants]
def wsX0_translate_r4 : List Cond := [Cond.static yX0_grants, Cond.code yX0_grants cX0_grants 4 (some .boolean), Cond.constantLong RX0 148 (64), Cond.constantLong RX0 150 (128), Cond.constantLong RX0 152 (10), Cond.constantLong RX0 154 (2), Cond.constantLong RX0 156 (8), Cond.methodLink RX0 116 yX0_result, Cond.static yX0_result, Cond.code yX0_result cX0_result 7 (some .long), Cond.constantLong RX0 158 (4194303), Cond.constantLong RX0 160 (4095), Cond.methodLink RX0 58 yX0_secondFault, Cond.static yX0_secondFault, Cond.code yX0_secondFault cX0_secondFault 1 (some .long), Cond.constantLong RX0 174 (-20), Cond.constantLong RX0 176 (-23), Cond.constantLong RX0 178 (-21), Cond.methodLink RX0 112 yX0_firstAllows, Cond.instanceMethod yX0_firstAllows, Cond.selects RX0 yX0_firstAllows yX0_firstAllows, Cond.code yX0_firstAllows cX0_firstAllows 6 (some .boolean), Cond.methodLink RX0 140 yX0_userBitFits, Cond.instanceMethod yX0_userBitFits]
def wsX0_translate_r5 : List Cond := [Cond.selects RX0 yX0_userBitFits yX0_userBitFits, Cond.code yX0_userBitFits cX0_userBitFits 7 (some .boolean), Cond.methodLink RX0 120 yX0_firstFault, Cond.static yX0_firstFault, Cond.code yX0_firstFault cX0_firstFault 1 (some .long), Cond.constantLong RX0 168 (-12), Cond.constantLong RX0 170 (-15), Cond.constantLong RX0 172 (-13)]
def wsX0_translate : List Cond := .code yX0_translate cX0_translate 7 (some .int) :: ((wsX0_translate_r1 ++ (wsX0_translate_r2 ++ (wsX0_translate_r3 ++ (wsX0_translate_r4 ++ wsX0_translate_r5)))) ++ wsX00)
def wsX0_place : List Cond := .code yX0_place cX0_place 1 (some .int) :: ([.fieldLink RX0 14 "StageWalker" "latestPlace" "I"] ++ wsX00)
def wsX0_second : List Cond := .code yX0_second cX0_second 1 (some .int) :: ([.fieldLink RX0 36 "StageWalker" "latestSecond" "I"] ++ wsX00)
def wsX0_entry : List Cond := .code yX0_entry cX0_entry 1 (some .boolean) :: ([.fieldLink RX0 39 "StageWalker" "latestEntry" "Z"] ++ wsX00)
def wsX0_pages_r1 : List Cond := [Cond.constantLong RX0 52 (4294967295), Cond.constantLong RX0 69 (4096), Cond.methodLink RX0 48 yX0_isKnown, Cond.static yX0_isKnown, Cond.initialized RX0, Cond.code yX0_isKnown cX0_isKnown 3 (some .boolean), Cond.methodLink RX0 72 yX0_isVirtual, Cond.static yX0_isVirtual, Cond.code yX0_isVirtual cX0_isVirtual 1 (some .boolean), Cond.methodLink RX0 54 yX0_lead, Cond.instanceMethod yX0_lead, Cond.selects RX0 yX0_lead yX0_lead, Cond.code yX0_lead cX0_lead 10 (some .long), Cond.fieldLink RX0 27 "StageWalker" "vsAtp" "I", Cond.fieldLink RX0 24 "StageWalker" "atp" "I", Cond.constantLong RX0 83 (262144), Cond.methodLink RX0 75 yX0_walkFirst, Cond.instanceMethod yX0_walkFirst, Cond.selects RX0 yX0_walkFirst yX0_walkFirst, Cond.code yX0_walkFirst cX0_walkFirst 12 (some .long), Cond.constant RX0 92 (4194303), Cond.methodLink RX0 93 yX0_upperEntry, Cond.static yX0_upperEntry, Cond.code yX0_upperEntry cX0_upperEntry 3 (some .long)]
def wsX0_pages_r2 : List Cond := [Cond.constantLong RX0 128 (4), Cond.methodLink RX0 79 yX0_throughSecond, Cond.instanceMethod yX0_throughSecond, Cond.selects RX0 yX0_throughSecond yX0_throughSecond, Cond.code yX0_throughSecond cX0_throughSecond 7 (some .long), Cond.fieldLink RX0 30 "StageWalker" "hgatp" "I", Cond.methodLink RX0 88 yX0_walkSecond, Cond.instanceMethod yX0_walkSecond, Cond.selects RX0 yX0_walkSecond yX0_walkSecond, Cond.code yX0_walkSecond cX0_walkSecond 8 (some .long), Cond.constant RX0 123 (4194300), Cond.fieldLink RX0 62 "StageWalker" "refusedAddress" "J", Cond.fieldLink RX0 66 "StageWalker" "refusedEntry" "Z", Cond.methodLink RX0 97 yX0_entryAt, Cond.instanceMethod yX0_entryAt, Cond.selects RX0 yX0_entryAt yX0_entryAt, Cond.code yX0_entryAt cX0_entryAt 4 (some .long), Cond.fieldLink RX0 10 "StageWalker" "words" "[I", Cond.methodLink RX0 85 yX0_noMemory, Cond.static yX0_noMemory, Cond.code yX0_noMemory cX0_noMemory 1 (some .long), Cond.constantLong RX0 162 (-1), Cond.constantLong RX0 164 (-7), Cond.constantLong RX0 166 (-5)]
def wsX0_pages_r3 : List Cond := [Cond.methodLink RX0 100 yX0_isTable, Cond.static yX0_isTable, Cond.code yX0_isTable cX0_isTable 2 (some .boolean), Cond.constantLong RX0 132 (223), Cond.methodLink RX0 104 yX0_lowerEntry, Cond.static yX0_lowerEntry, Cond.code yX0_lowerEntry cX0_lowerEntry 4 (some .long), Cond.constantLong RX0 130 (1023), Cond.methodLink RX0 108 yX0_isGoodLeaf, Cond.static yX0_isGoodLeaf, Cond.code yX0_isGoodLeaf cX0_isGoodLeaf 6 (some .boolean), Cond.constantLong RX0 134 (14), Cond.constantLong RX0 136 (6), Cond.constantLong RX0 138 (1047552), Cond.methodLink RX0 124 yX0_secondAllows, Cond.instanceMethod yX0_secondAllows, Cond.selects RX0 yX0_secondAllows yX0_secondAllows, Cond.code yX0_secondAllows cX0_secondAllows 6 (some .boolean), Cond.fieldLink RX0 33 "StageWalker" "rights" "I", Cond.constantLong RX0 146 (16), Cond.methodLink RX0 143 yX0_grants, Cond.static yX0_grants, Cond.code yX0_grants cX0_grants 4 (some .boolean), Cond.constantLong RX0 148 (64)]
def wsX0_pages_r4 : List Cond := [Cond.constantLong RX0 150 (128), Cond.constantLong RX0 152 (10), Cond.constantLong RX0 154 (2), Cond.constantLong RX0 156 (8), Cond.methodLink RX0 116 yX0_result, Cond.static yX0_result, Cond.code yX0_result cX0_result 7 (some .long), Cond.constantLong RX0 158 (4194303), Cond.constantLong RX0 160 (4095), Cond.methodLink RX0 58 yX0_secondFault, Cond.static yX0_secondFault, Cond.code yX0_secondFault cX0_secondFault 1 (some .long), Cond.constantLong RX0 174 (-20), Cond.constantLong RX0 176 (-23), Cond.constantLong RX0 178 (-21), Cond.methodLink RX0 112 yX0_firstAllows, Cond.instanceMethod yX0_firstAllows, Cond.selects RX0 yX0_firstAllows yX0_firstAllows, Cond.code yX0_firstAllows cX0_firstAllows 6 (some .boolean), Cond.methodLink RX0 140 yX0_userBitFits, Cond.instanceMethod yX0_userBitFits, Cond.selects RX0 yX0_userBitFits yX0_userBitFits, Cond.code yX0_userBitFits cX0_userBitFits 7 (some .boolean), Cond.methodLink RX0 120 yX0_firstFault]
def wsX0_pages_r5 : List Cond := [Cond.static yX0_firstFault, Cond.code yX0_firstFault cX0_firstFault 1 (some .long), Cond.constantLong RX0 168 (-12), Cond.constantLong RX0 170 (-15), Cond.constantLong RX0 172 (-13)]
def wsX0_pages : List Cond := .code yX0_pages cX0_pages 11 (some .int) :: ((wsX0_pages_r1 ++ (wsX0_pages_r2 ++ (wsX0_pages_r3 ++ (wsX0_pages_r4 ++ wsX0_pages_r5)))) ++ wsX00)
def wsX1_init : List Cond := .code yX1_init cX1_init 1 none :: ([.methodLink RX1 1 objectInit, .instanceMethod objectInit, .code objectInit ⟨#[0xb1]⟩ 1 none, .constant RX1 7 (65536), .arrayClass .int, .fieldLink RX1 8 "StageWalkerModel" "memory" "[I", .fieldLink RX1 14 "StageWalkerModel" "code" "I"] ++ wsX10)
def wsX1_begin : List Cond := .code yX1_begin cX1_begin 2 none :: ([.constant RX1 7 (65536), .fieldLink RX1 8 "StageWalkerModel" "memory" "[I", .fieldLink RX1 18 "StageWalkerModel" "atp" "I", .fieldLink RX1 21 "StageWalkerModel" "vsAtp" "I", .fieldLink RX1 24 "StageWalkerModel" "hgatp" "I", .fieldLink RX1 27 "StageWalkerModel" "rights" "I", .fieldLink RX1 14 "StageWalkerModel" "code" "I"] ++ wsX10)
def wsX1_poke : List Cond := .code yX1_poke cX1_poke 8 (some .int) :: ([.constant RX1 30 (262124), .fieldLink RX1 8 "StageWalkerModel" "memory" "[I"] ++ wsX10)
def wsX1_word : List Cond := .code yX1_word cX1_word 2 (some .int) :: ([.constant RX1 31 (262144), .fieldLink RX1 8 "StageWalkerModel" "memory" "[I"] ++ wsX10)
def wsX1_roots : List Cond := .code yX1_roots cX1_roots 4 none :: ([.fieldLink RX1 18 "StageWalkerModel" "atp" "I", .fieldLink RX1 21 "StageWalkerModel" "vsAtp" "I", .fieldLink RX1 24 "StageWalkerModel" "hgatp" "I"] ++ wsX10)
def wsL_law_r1 : List Cond := [Cond.classLink RL 7 RX0, Cond.instantiable RX0 10, Cond.initialized RX0, Cond.classLink RL 10 RX1, Cond.instantiable RX1 9, Cond.initialized RX1, Cond.methodLink RL 9 yX0_init, Cond.instanceMethod yX0_init, Cond.code yX0_init cX0_init 1 none, Cond.methodLink RX0 3 objectInit, Cond.instanceMethod objectInit, Cond.code objectInit ⟨#[0xb1]⟩ 1 none, Cond.constant RX0 9 (65536), Cond.arrayClass .int, Cond.fieldLink RX0 10 "StageWalker" "words" "[I", Cond.fieldLink RX0 14 "StageWalker" "latestPlace" "I", Cond.methodLink RL 12 yX1_init, Cond.instanceMethod yX1_init, Cond.code yX1_init cX1_init 1 none, Cond.methodLink RX1 1 objectInit, Cond.constant RX1 7 (65536), Cond.fieldLink RX1 8 "StageWalkerModel" "memory" "[I", Cond.fieldLink RX1 14 "StageWalkerModel" "code" "I", Cond.methodLink RL 13 yX0_begin]
def wsL_law_r2 : List Cond := [Cond.instanceMethod yX0_begin, Cond.selects RX0 yX0_begin yX0_begin, Cond.code yX0_begin cX0_begin 1 none, Cond.fieldLink RX0 24 "StageWalker" "atp" "I", Cond.fieldLink RX0 27 "StageWalker" "vsAtp" "I", Cond.fieldLink RX0 30 "StageWalker" "hgatp" "I", Cond.fieldLink RX0 33 "StageWalker" "rights" "I", Cond.fieldLink RX0 36 "StageWalker" "latestSecond" "I", Cond.fieldLink RX0 39 "StageWalker" "latestEntry" "Z", Cond.methodLink RX0 18 yJ7_fill_53178, Cond.static yJ7_fill_53178, Cond.initialized RJ7, Cond.code yJ7_fill_53178 cJ7_fill_53178 4 none, Cond.methodLink RL 16 yX1_begin, Cond.instanceMethod yX1_begin, Cond.selects RX1 yX1_begin yX1_begin, Cond.code yX1_begin cX1_begin 2 none, Cond.fieldLink RX1 18 "StageWalkerModel" "atp" "I", Cond.fieldLink RX1 21 "StageWalkerModel" "vsAtp" "I", Cond.fieldLink RX1 24 "StageWalkerModel" "hgatp" "I", Cond.fieldLink RX1 27 "StageWalkerModel" "rights" "I", Cond.methodLink RL 17 yX0_poke, Cond.instanceMethod yX0_poke, Cond.selects RX0 yX0_poke yX0_poke]
def wsL_law_r3 : List Cond := [Cond.code yX0_poke cX0_poke 8 (some .int), Cond.constant RX0 47 (262124), Cond.methodLink RX0 43 yX0_isWordOfMemory, Cond.static yX0_isWordOfMemory, Cond.code yX0_isWordOfMemory cX0_isWordOfMemory 1 (some .boolean), Cond.constant RX0 71 (262144), Cond.methodLink RL 21 yX1_poke, Cond.instanceMethod yX1_poke, Cond.selects RX1 yX1_poke yX1_poke, Cond.code yX1_poke cX1_poke 8 (some .int), Cond.constant RX1 30 (262124), Cond.methodLink RL 22 yX0_word, Cond.instanceMethod yX0_word, Cond.selects RX0 yX0_word yX0_word, Cond.code yX0_word cX0_word 2 (some .int), Cond.methodLink RL 26 yX1_word, Cond.instanceMethod yX1_word, Cond.selects RX1 yX1_word yX1_word, Cond.code yX1_word cX1_word 2 (some .int), Cond.constant RX1 31 (262144), Cond.methodLink RL 27 yX0_roots, Cond.instanceMethod yX0_roots, Cond.selects RX0 yX0_roots yX0_roots, Cond.code yX0_roots cX0_roots 4 none]
def wsL_law_r4 : List Cond := [Cond.methodLink RL 31 yX1_roots, Cond.instanceMethod yX1_roots, Cond.selects RX1 yX1_roots yX1_roots, Cond.code yX1_roots cX1_roots 4 none, Cond.methodLink RL 32 yX0_rights, Cond.instanceMethod yX0_rights, Cond.selects RX0 yX0_rights yX0_rights, Cond.code yX0_rights cX0_rights 3 (some .int), Cond.methodLink RL 36 yX0_translate, Cond.instanceMethod yX0_translate, Cond.selects RX0 yX0_translate yX0_translate, Cond.code yX0_translate cX0_translate 7 (some .int), Cond.constantLong RX0 52 (4294967295), Cond.fieldLink RX0 62 "StageWalker" "refusedAddress" "J", Cond.fieldLink RX0 66 "StageWalker" "refusedEntry" "Z", Cond.methodLink RX0 48 yX0_isKnown, Cond.static yX0_isKnown, Cond.code yX0_isKnown cX0_isKnown 3 (some .boolean), Cond.methodLink RX0 72 yX0_isVirtual, Cond.static yX0_isVirtual, Cond.code yX0_isVirtual cX0_isVirtual 1 (some .boolean), Cond.methodLink RX0 54 yX0_lead, Cond.instanceMethod yX0_lead, Cond.selects RX0 yX0_lead yX0_lead]
def wsL_law_r5 : List Cond := [Cond.code yX0_lead cX0_lead 10 (some .long), Cond.constantLong RX0 83 (262144), Cond.methodLink RX0 75 yX0_walkFirst, Cond.instanceMethod yX0_walkFirst, Cond.selects RX0 yX0_walkFirst yX0_walkFirst, Cond.code yX0_walkFirst cX0_walkFirst 12 (some .long), Cond.constant RX0 92 (4194303), Cond.methodLink RX0 93 yX0_upperEntry, Cond.static yX0_upperEntry, Cond.code yX0_upperEntry cX0_upperEntry 3 (some .long), Cond.constantLong RX0 69 (4096), Cond.constantLong RX0 128 (4), Cond.methodLink RX0 79 yX0_throughSecond, Cond.instanceMethod yX0_throughSecond, Cond.selects RX0 yX0_throughSecond yX0_throughSecond, Cond.code yX0_throughSecond cX0_throughSecond 7 (some .long), Cond.methodLink RX0 88 yX0_walkSecond, Cond.instanceMethod yX0_walkSecond, Cond.selects RX0 yX0_walkSecond yX0_walkSecond, Cond.code yX0_walkSecond cX0_walkSecond 8 (some .long), Cond.constant RX0 123 (4194300), Cond.methodLink RX0 97 yX0_entryAt, Cond.instanceMethod yX0_entryAt, Cond.selects RX0 yX0_entryAt yX0_entryAt]
def wsL_law_r6 : List Cond := [Cond.code yX0_entryAt cX0_entryAt 4 (some .long), Cond.methodLink RX0 85 yX0_noMemory, Cond.static yX0_noMemory, Cond.code yX0_noMemory cX0_noMemory 1 (some .long), Cond.constantLong RX0 162 (-1), Cond.constantLong RX0 164 (-7), Cond.constantLong RX0 166 (-5), Cond.methodLink RX0 100 yX0_isTable, Cond.static yX0_isTable, Cond.code yX0_isTable cX0_isTable 2 (some .boolean), Cond.constantLong RX0 132 (223), Cond.methodLink RX0 104 yX0_lowerEntry, Cond.static yX0_lowerEntry, Cond.code yX0_lowerEntry cX0_lowerEntry 4 (some .long), Cond.constantLong RX0 130 (1023), Cond.methodLink RX0 108 yX0_isGoodLeaf, Cond.static yX0_isGoodLeaf, Cond.code yX0_isGoodLeaf cX0_isGoodLeaf 6 (some .boolean), Cond.constantLong RX0 134 (14), Cond.constantLong RX0 136 (6), Cond.constantLong RX0 138 (1047552), Cond.methodLink RX0 124 yX0_secondAllows, Cond.instanceMethod yX0_secondAllows, Cond.selects RX0 yX0_secondAllows yX0_secondAllows]
def wsL_law_r7 : List Cond := [Cond.code yX0_secondAllows cX0_secondAllows 6 (some .boolean), Cond.constantLong RX0 146 (16), Cond.methodLink RX0 143 yX0_grants, Cond.static yX0_grants, Cond.code yX0_grants cX0_grants 4 (some .boolean), Cond.constantLong RX0 148 (64), Cond.constantLong RX0 150 (128), Cond.constantLong RX0 152 (10), Cond.constantLong RX0 154 (2), Cond.constantLong RX0 156 (8), Cond.methodLink RX0 116 yX0_result, Cond.static yX0_result, Cond.code yX0_result cX0_result 7 (some .long), Cond.constantLong RX0 158 (4194303), Cond.constantLong RX0 160 (4095), Cond.methodLink RX0 58 yX0_secondFault, Cond.static yX0_secondFault, Cond.code yX0_secondFault cX0_secondFault 1 (some .long), Cond.constantLong RX0 174 (-20), Cond.constantLong RX0 176 (-23), Cond.constantLong RX0 178 (-21), Cond.methodLink RX0 112 yX0_firstAllows, Cond.instanceMethod yX0_firstAllows, Cond.selects RX0 yX0_firstAllows yX0_firstAllows]
def wsL_law_r8 : List Cond := [Cond.code yX0_firstAllows cX0_firstAllows 6 (some .boolean), Cond.methodLink RX0 140 yX0_userBitFits, Cond.instanceMethod yX0_userBitFits, Cond.selects RX0 yX0_userBitFits yX0_userBitFits, Cond.code yX0_userBitFits cX0_userBitFits 7 (some .boolean), Cond.methodLink RX0 120 yX0_firstFault, Cond.static yX0_firstFault, Cond.code yX0_firstFault cX0_firstFault 1 (some .long), Cond.constantLong RX0 168 (-12), Cond.constantLong RX0 170 (-15), Cond.constantLong RX0 172 (-13), Cond.methodLink RL 41 yX0_place, Cond.instanceMethod yX0_place, Cond.selects RX0 yX0_place yX0_place, Cond.code yX0_place cX0_place 1 (some .int), Cond.methodLink RL 46 yX0_second, Cond.instanceMethod yX0_second, Cond.selects RX0 yX0_second yX0_second, Cond.code yX0_second cX0_second 1 (some .int), Cond.methodLink RL 50 yX0_entry, Cond.instanceMethod yX0_entry, Cond.selects RX0 yX0_entry yX0_entry, Cond.code yX0_entry cX0_entry 1 (some .boolean), Cond.methodLink RL 55 yX0_pages]
def wsL_law_r9 : List Cond := [Cond.instanceMethod yX0_pages, Cond.selects RX0 yX0_pages yX0_pages, Cond.code yX0_pages cX0_pages 11 (some .int)]
def wsL_law : List Cond := (wsL_law_r1 ++ (wsL_law_r2 ++ (wsL_law_r3 ++ (wsL_law_r4 ++ (wsL_law_r5 ++ (wsL_law_r6 ++ (wsL_law_r7 ++ (wsL_law_r8 ++ wsL_law_r9)))))))) ++ wsX00 ++ wsX10 ++ ([] : List Cond)
set_option maxRecDepth 20000 in
theorem wsL_law_in : ∀ w ∈ wsL_law, w ∈ lw_tbl := fun w h => (goodIn_p wsL_law [23, 26, 205, 63, 66, 239, 70, 73, 243, 79, 248, 83, 253, 87, 91, 94, 97, 102, 106, 110, 116, 120, 125, 129, 135, 139, 143, 150, 154, 162, 167, 174, 178, 181, 188, 192, 196, 200] (by decide +kernel) (by decide +kernel) w h).1
theorem inlX0 : ∀ w ∈ wsX00, w ∈ wsL_law := fun _ h => List.mem_append_left _ (List.mem_append_left _ (List.mem_append_right _ h))
theorem inX0 : ∀ w ∈ wsX00, w ∈ lw_tbl := fun w h => wsL_law_in w (inlX0 w h)
theorem inlX1 : ∀ w ∈ wsX10, w ∈ wsL_law := fun _ h => List.mem_append_left _ (List.mem_append_right _ h)
theorem inX1 : ∀ w ∈ wsX10, w ∈ lw_tbl := fun w h => wsL_law_in w (inlX1 w h)
theorem inJ7 : ∀ w ∈ wsJ70, w ∈ lw_tbl := by decide +kernel
theorem dX0_init_0 : decode cX0_init 0 = .ok (.aload_n 0, 1) := by decide +kernel
theorem dX0_init_1 : decode cX0_init 1 = .ok (.invokespecial 3, 3) := by decide +kernel
theorem dX0_init_4 : decode cX0_init 4 = .ok (.aload_n 0, 1) := by decide +kernel
theorem dX0_init_5 : decode cX0_init 5 = .ok (.ldc 9, 2) := by decide +kernel
theorem dX0_init_7 : decode cX0_init 7 = .ok (.newarray .int, 2) := by decide +kernel
theorem dX0_init_9 : decode cX0_init 9 = .ok (.putfield 10, 3) := by decide +kernel
theorem dX0_init_12 : decode cX0_init 12 = .ok (.aload_n 0, 1) := by decide +kernel
theorem dX0_init_13 : decode cX0_init 13 = .ok (.iconst (-1), 1) := by decide +kernel
theorem dX0_init_14 : decode cX0_init 14 = .ok (.putfield 14, 3) := by decide +kernel
theorem dX0_init_17 : decode cX0_init 17 = .ok (.return_, 1) := by decide +kernel
set_option maxRecDepth 20000 in
theorem ggX0_begin_J7_fill_53178 : GoodIn wsX0_begin wsJ7_fill_53178 := goodIn_r _ [12] (by decide +kernel) (by decide +kernel)
set_option maxRecDepth 20000 in
theorem gX0_begin_J7_fill_53178 : GoodIn wsX0_begin (va_wsS RX0 18 yJ7_fill_53178 wsJ7_fill_53178) := goodIn_app (goodIn_of _ (by decide +kernel)) ggX0_begin_J7_fill_53178
theorem dX0_begin_0 : decode cX0_begin 0 = .ok (.aload_n 0, 1) := by decide +kernel
theorem dX0_begin_1 : decode cX0_begin 1 = .ok (.getfield 10, 3) := by decide +kernel
theorem dX0_begin_4 : decode cX0_begin 4 = .ok (.iconst 0, 1) := by decide +kernel
theorem dX0_begin_5 : decode cX0_begin 5 = .ok (.invokestatic 18, 3) := by decide +kernel
theorem dX0_begin_8 : decode cX0_begin 8 = .ok (.aload_n 0, 1) := by decide +kernel
theorem dX0_begin_9 : decode cX0_begin 9 = .ok (.iconst 0, 1) := by decide +kernel
theorem dX0_begin_10 : decode cX0_begin 10 = .ok (.putfield 24, 3) := by decide +kernel
theorem dX0_begin_13 : decode cX0_begin 13 = .ok (.aload_n 0, 1) := by decide +kernel
theorem dX0_begin_14 : decode cX0_begin 14 = .ok (.iconst 0, 1) := by decide +kernel
theorem dX0_begin_15 : decode cX0_begin 15 = .ok (.putfield 27, 3) := by decide +kernel
theorem dX0_begin_18 : decode cX0_begin 18 = .ok (.aload_n 0, 1) := by decide +kernel
theorem dX0_begin_19 : decode cX0_begin 19 = .ok (.iconst 0, 1) := by decide +kernel
theorem dX0_begin_20 : decode cX0_begin 20 = .ok (.putfield 30, 3) := by decide +kernel
theorem dX0_begin_23 : decode cX0_begin 23 = .ok (.aload_n 0, 1) := by decide +kernel
theorem dX0_begin_24 : decode cX0_begin 24 = .ok (.iconst 0, 1) := by decide +kernel
theorem dX0_begin_25 : decode cX0_begin 25 = .ok (.putfield 33, 3) := by decide +kernel
theorem dX0_begin_28 : decode cX0_begin 28 = .ok (.aload_n 0, 1) := by decide +kernel
theorem dX0_begin_29 : decode cX0_begin 29 = .ok (.iconst (-1), 1) := by decide +kernel
theorem dX0_begin_30 : decode cX0_begin 30 = .ok (.putfield 14, 3) := by decide +kernel
theorem dX0_begin_33 : decode cX0_begin 33 = .ok (.aload_n 0, 1) := by decide +kernel
theorem dX0_begin_34 : decode cX0_begin 34 = .ok (.iconst 0, 1) := by decide +kernel
theorem dX0_begin_35 : decode cX0_begin 35 = .ok (.putfield 36, 3) := by decide +kernel
theorem dX0_begin_38 : decode cX0_begin 38 = .ok (.aload_n 0, 1) := by decide +kernel
theorem dX0_begin_39 : decode cX0_begin 39 = .ok (.iconst 0, 1) := by decide +kernel
theorem dX0_begin_40 : decode cX0_begin 40 = .ok (.putfield 39, 3) := by decide +kernel
theorem dX0_begin_43 : decode cX0_begin 43 = .ok (.return_, 1) := by decide +kernel
set_option maxRecDepth 20000 in
theorem ggX0_poke_X0_isWordOfMemory : GoodIn wsX0_poke wsX0_isWordOfMemory := goodIn_r _ [6, 7] (by decide +kernel) (by decide +kernel)
set_option maxRecDepth 20000 in
theorem gX0_poke_X0_isWordOfMemory : GoodIn wsX0_poke (va_wsS RX0 43 yX0_isWordOfMemory wsX0_isWordOfMemory) := goodIn_app (goodIn_of _ (by decide +kernel)) ggX0_poke_X0_isWordOfMemory
theorem dX0_poke_0 : decode cX0_poke 0 = .ok (.iload_n 1, 1) := by decide +kernel
theorem dX0_poke_1 : decode cX0_poke 1 = .ok (.invokestatic 43, 3) := by decide +kernel
theorem dX0_poke_4 : decode cX0_poke 4 = .ok (.ifCond .eq 9, 3) := by decide +kernel
theorem dX0_poke_7 : decode cX0_poke 7 = .ok (.iload_n 1, 1) := by decide +kernel
theorem dX0_poke_8 : decode cX0_poke 8 = .ok (.ldc 47, 2) := by decide +kernel
theorem dX0_poke_10 : decode cX0_poke 10 = .ok (.if_icmp .le 5, 3) := by decide +kernel
theorem dX0_poke_13 : decode cX0_poke 13 = .ok (.iconst (-1), 1) := by decide +kernel
theorem dX0_poke_14 : decode cX0_poke 14 = .ok (.ireturn, 1) := by decide +kernel
theorem dX0_poke_15 : decode cX0_poke 15 = .ok (.iload_n 1, 1) := by decide +kernel
theorem dX0_poke_16 : decode cX0_poke 16 = .ok (.iconst 4, 1) := by decide +kernel
theorem dX0_poke_17 : decode cX0_poke 17 = .ok (.idiv, 1) := by decide +kernel
theorem dX0_poke_18 : decode cX0_poke 18 = .ok (.istore 7, 2) := by decide +kernel
theorem dX0_poke_20 : decode cX0_poke 20 = .ok (.aload_n 0, 1) := by decide +kernel
theorem dX0_poke_21 : decode cX0_poke 21 = .ok (.getfield 10, 3) := by decide +kernel
theorem dX0_poke_24 : decode cX0_poke 24 = .ok (.iload 7, 2) := by decide +kernel
theorem dX0_poke_26 : decode cX0_poke 26 = .ok (.iload_n 2, 1) := by decide +kernel
theorem dX0_poke_27 : decode cX0_poke 27 = .ok (.iastore, 1) := by decide +kernel
theorem dX0_poke_28 : decode cX0_poke 28 = .ok (.aload_n 0, 1) := by decide +kernel
theorem dX0_poke_29 : decode cX0_poke 29 = .ok (.getfield 10, 3) := by decide +kernel
theorem dX0_poke_32 : decode cX0_poke 32 = .ok (.iload 7, 2) := by decide +kernel
theorem dX0_poke_34 : decode cX0_poke 34 = .ok (.iconst 1, 1) := by decide +kernel
theorem dX0_poke_35 : decode cX0_poke 35 = .ok (.iadd, 1) := by decide +kernel
theorem dX0_poke_36 : decode cX0_poke 36 = .ok (.iload_n 3, 1) := by decide +kernel
theorem dX0_poke_37 : decode cX0_poke 37 = .ok (.iastore, 1) := by decide +kernel
theorem dX0_poke_38 : decode cX0_poke 38 = .ok (.aload_n 0, 1) := by decide +kernel
theorem dX0_poke_39 : decode cX0_poke 39 = .ok (.getfield 10, 3) := by decide +kernel
theorem dX0_poke_42 : decode cX0_poke 42 = .ok (.iload 7, 2) := by decide +kernel
theorem dX0_poke_44 : decode cX0_poke 44 = .ok (.iconst 2, 1) := by decide +kernel
theorem dX0_poke_45 : decode cX0_poke 45 = .ok (.iadd, 1) := by decide +kernel
theorem dX0_poke_46 : decode cX0_poke 46 = .ok (.iload 4, 2) := by decide +kernel
theorem dX0_poke_48 : decode cX0_poke 48 = .ok (.iastore, 1) := by decide +kernel
theorem dX0_poke_49 : decode cX0_poke 49 = .ok (.aload_n 0, 1) := by decide +kernel
theorem dX0_poke_50 : decode cX0_poke 50 = .ok (.getfield 10, 3) := by decide +kernel
theorem dX0_poke_53 : decode cX0_poke 53 = .ok (.iload 7, 2) := by decide +kernel
theorem dX0_poke_55 : decode cX0_poke 55 = .ok (.iconst 3, 1) := by decide +kernel
theorem dX0_poke_56 : decode cX0_poke 56 = .ok (.iadd, 1) := by decide +kernel
theorem dX0_poke_57 : decode cX0_poke 57 = .ok (.iload 5, 2) := by decide +kernel
theorem dX0_poke_59 : decode cX0_poke 59 = .ok (.iastore, 1) := by decide +kernel
theorem dX0_poke_60 : decode cX0_poke 60 = .ok (.aload_n 0, 1) := by decide +kernel
theorem dX0_poke_61 : decode cX0_poke 61 = .ok (.getfield 10, 3) := by decide +kernel
theorem dX0_poke_64 : decode cX0_poke 64 = .ok (.iload 7, 2) := by decide +kernel
theorem dX0_poke_66 : decode cX0_poke 66 = .ok (.iconst 4, 1) := by decide +kernel
theorem dX0_poke_67 : decode cX0_poke 67 = .ok (.iadd, 1) := by decide +kernel
theorem dX0_poke_68 : decode cX0_poke 68 = .ok (.iload 6, 2) := by decide +kernel
theorem dX0_poke_70 : decode cX0_poke 70 = .ok (.iastore, 1) := by decide +kernel
theorem dX0_poke_71 : decode cX0_poke 71 = .ok (.iload_n 1, 1) := by decide +kernel
theorem dX0_poke_72 : decode cX0_poke 72 = .ok (.bipush 20, 2) := by decide +kernel
theorem dX0_poke_74 : decode cX0_poke 74 = .ok (.iadd, 1) := by decide +kernel
theorem dX0_poke_75 : decode cX0_poke 75 = .ok (.ireturn, 1) := by decide +kernel
set_option maxRecDepth 20000 in
theorem ggX0_word_X0_isWordOfMemory : GoodIn wsX0_word wsX0_isWordOfMemory := goodIn_r _ [5, 6] (by decide +kernel) (by decide +kernel)
set_option maxRecDepth 20000 in
theorem gX0_word_X0_isWordOfMemory : GoodIn wsX0_word (va_wsS RX0 43 yX0_isWordOfMemory wsX0_isWordOfMemory) := goodIn_app (goodIn_of _ (by decide +kernel)) ggX0_word_X0_isWordOfMemory
theorem dX0_word_0 : decode cX0_word 0 = .ok (.iload_n 1, 1) := by decide +kernel
theorem dX0_word_1 : decode cX0_word 1 = .ok (.invokestatic 43, 3) := by decide +kernel
theorem dX0_word_4 : decode cX0_word 4 = .ok (.ifCond .eq 14, 3) := by decide +kernel
theorem dX0_word_7 : decode cX0_word 7 = .ok (.aload_n 0, 1) := by decide +kernel
theorem dX0_word_8 : decode cX0_word 8 = .ok (.getfield 10, 3) := by decide +kernel
theorem dX0_word_11 : decode cX0_word 11 = .ok (.iload_n 1, 1) := by decide +kernel
theorem dX0_word_12 : decode cX0_word 12 = .ok (.iconst 4, 1) := by decide +kernel
theorem dX0_word_13 : decode cX0_word 13 = .ok (.idiv, 1) := by decide +kernel
theorem dX0_word_14 : decode cX0_word 14 = .ok (.iaload, 1) := by decide +kernel
theorem dX0_word_15 : decode cX0_word 15 = .ok (.goto 4, 3) := by decide +kernel
theorem dX0_word_18 : decode cX0_word 18 = .ok (.iconst 0, 1) := by decide +kernel
theorem dX0_word_19 : decode cX0_word 19 = .ok (.ireturn, 1) := by decide +kernel
theorem dX0_roots_0 : decode cX0_roots 0 = .ok (.aload_n 0, 1) := by decide +kernel
theorem dX0_roots_1 : decode cX0_roots 1 = .ok (.iload_n 1, 1) := by decide +kernel
theorem dX0_roots_2 : decode cX0_roots 2 = .ok (.putfield 24, 3) := by decide +kernel
theorem dX0_roots_5 : decode cX0_roots 5 = .ok (.aload_n 0, 1) := by decide +kernel
theorem dX0_roots_6 : decode cX0_roots 6 = .ok (.iload_n 2, 1) := by decide +kernel
theorem dX0_roots_7 : decode cX0_roots 7 = .ok (.putfield 27, 3) := by decide +kernel
theorem dX0_roots_10 : decode cX0_roots 10 = .ok (.aload_n 0, 1) := by decide +kernel
theorem dX0_roots_11 : decode cX0_roots 11 = .ok (.iload_n 3, 1) := by decide +kernel
theorem dX0_roots_12 : decode cX0_roots 12 = .ok (.putfield 30, 3) := by decide +kernel
theorem dX0_roots_15 : decode cX0_roots 15 = .ok (.return_, 1) := by decide +kernel
theorem dX0_rights_0 : decode cX0_rights 0 = .ok (.aload_n 0, 1) := by decide +kernel
theorem dX0_rights_1 : decode cX0_rights 1 = .ok (.getfield 33, 3) := by decide +kernel
theorem dX0_rights_4 : decode cX0_rights 4 = .ok (.istore_n 2, 1) := by decide +kernel
theorem dX0_rights_5 : decode cX0_rights 5 = .ok (.aload_n 0, 1) := by decide +kernel
theorem dX0_rights_6 : decode cX0_rights 6 = .ok (.iload_n 1, 1) := by decide +kernel
theorem dX0_rights_7 : decode cX0_rights 7 = .ok (.bipush 15, 2) := by decide +kernel
theorem dX0_rights_9 : decode cX0_rights 9 = .ok (.iand, 1) := by decide +kernel
theorem dX0_rights_10 : decode cX0_rights 10 = .ok (.putfield 33, 3) := by decide +kernel
theorem dX0_rights_13 : decode cX0_rights 13 = .ok (.iload_n 2, 1) := by decide +kernel
theorem dX0_rights_14 : decode cX0_rights 14 = .ok (.ireturn, 1) := by decide +kernel
set_option maxRecDepth 20000 in
theorem ggX0_translate_X0_isKnown : GoodIn wsX0_translate wsX0_isKnown := goodIn_r _ [10, 11, 12, 9, 13] (by decide +kernel) (by decide +kernel)
set_option maxRecDepth 20000 in
theorem gX0_translate_X0_isKnown : GoodIn wsX0_translate (va_wsS RX0 48 yX0_isKnown wsX0_isKnown) := goodIn_app (goodIn_of _ (by decide +kernel)) ggX0_translate_X0_isKnown
set_option maxRecDepth 20000 in
theorem ggX0_translate_X0_lead : GoodIn wsX0_translate wsX0_lead := goodIn_r _ [17, 18, 19, 20, 11, 12, 9, 13, 21, 22, 23, 24, 25, 26, 27, 28, 29, 30, 31, 32, 33, 34, 35, 36, 37, 38, 39, 40, 3, 5, 41, 42, 43, 44, 45, 1, 46, 47, 48, 49, 50, 51, 52, 53, 54, 55, 56, 57, 58, 59, 60, 61, 62, 63, 64, 65, 66, 67, 68, 69, 70, 71, 72, 73, 74, 75, 76, 77, 78, 79, 80, 81, 82, 83, 84, 85, 86, 87, 88, 89, 90, 91, 92, 93, 94, 95, 96, 97, 98, 99, 100, 101, 102, 103, 104, 105, 106, 107, 108, 109, 110, 111, 112, 113, 114] (by decide +kernel) (by decide +kernel)
set_option maxRecDepth 20000 in
theorem gX0_translate_X0_lead : GoodIn wsX0_translate (wsV RX0 54 RX0 yX0_lead wsX0_lead) := goodIn_app (goodIn_of _ (by decide +kernel)) ggX0_translate_X0_lead
set_option maxRecDepth 20000 in
theorem ggX0_translate_X0_secondFault : GoodIn wsX0_translate wsX0_secondFault := goodIn_r _ [87, 88, 89, 90] (by decide +kernel) (by decide +kernel)
set_option maxRecDepth 20000 in
theorem gX0_translate_X0_secondFault : GoodIn wsX0_translate (va_wsS RX0 58 yX0_secondFault wsX0_secondFault) := goodIn_app (goodIn_of _ (by decide +kernel)) ggX0_translate_X0_secondFault
theorem dX0_translate_0 : decode cX0_translate 0 = .ok (.iload_n 1, 1) := by decide +kernel
theorem dX0_translate_1 : decode cX0_translate 1 = .ok (.iload_n 2, 1) := by decide +kernel
theorem dX0_translate_2 : decode cX0_translate 2 = .ok (.invokestatic 48, 3) := by decide +kernel
theorem dX0_translate_5 : decode cX0_translate 5 = .ok (.ifCond .ne 5, 3) := by decide +kernel
theorem dX0_translate_8 : decode cX0_translate 8 = .ok (.iconst (-1), 1) := by decide +kernel
theorem dX0_translate_9 : decode cX0_translate 9 = .ok (.ireturn, 1) := by decide +kernel
theorem dX0_translate_10 : decode cX0_translate 10 = .ok (.aload_n 0, 1) := by decide +kernel
theorem dX0_translate_11 : decode cX0_translate 11 = .ok (.iload_n 1, 1) := by decide +kernel
theorem dX0_translate_12 : decode cX0_translate 12 = .ok (.iload_n 2, 1) := by decide +kernel
theorem dX0_translate_13 : decode cX0_translate 13 = .ok (.iload_n 3, 1) := by decide +kernel
theorem dX0_translate_14 : decode cX0_translate 14 = .ok (.i2l, 1) := by decide +kernel
theorem dX0_translate_15 : decode cX0_translate 15 = .ok (.ldc2_w 52, 3) := by decide +kernel
theorem dX0_translate_18 : decode cX0_translate 18 = .ok (.land, 1) := by decide +kernel
theorem dX0_translate_19 : decode cX0_translate 19 = .ok (.invokevirtual 54, 3) := by decide +kernel
theorem dX0_translate_22 : decode cX0_translate 22 = .ok (.lstore 4, 2) := by decide +kernel
theorem dX0_translate_24 : decode cX0_translate 24 = .ok (.lload 4, 2) := by decide +kernel
theorem dX0_translate_26 : decode cX0_translate 26 = .ok (.iload_n 2, 1) := by decide +kernel
theorem dX0_translate_27 : decode cX0_translate 27 = .ok (.invokestatic 58, 3) := by decide +kernel
theorem dX0_translate_30 : decode cX0_translate 30 = .ok (.lcmp, 1) := by decide +kernel
theorem dX0_translate_31 : decode cX0_translate 31 = .ok (.ifCond .ne 7, 3) := by decide +kernel
theorem dX0_translate_34 : decode cX0_translate 34 = .ok (.iconst 1, 1) := by decide +kernel
theorem dX0_translate_35 : decode cX0_translate 35 = .ok (.goto 4, 3) := by decide +kernel
theorem dX0_translate_38 : decode cX0_translate 38 = .ok (.iconst 0, 1) := by decide +kernel
theorem dX0_translate_39 : decode cX0_translate 39 = .ok (.istore 6, 2) := by decide +kernel
theorem dX0_translate_41 : decode cX0_translate 41 = .ok (.aload_n 0, 1) := by decide +kernel
theorem dX0_translate_42 : decode cX0_translate 42 = .ok (.lload 4, 2) := by decide +kernel
theorem dX0_translate_44 : decode cX0_translate 44 = .ok (.lconst 0, 1) := by decide +kernel
theorem dX0_translate_45 : decode cX0_translate 45 = .ok (.lcmp, 1) := by decide +kernel
theorem dX0_translate_46 : decode cX0_translate 46 = .ok (.ifCond .ge 7, 3) := by decide +kernel
theorem dX0_translate_49 : decode cX0_translate 49 = .ok (.iconst (-1), 1) := by decide +kernel
theorem dX0_translate_50 : decode cX0_translate 50 = .ok (.goto 6, 3) := by decide +kernel
theorem dX0_translate_53 : decode cX0_translate 53 = .ok (.lload 4, 2) := by decide +kernel
theorem dX0_translate_55 : decode cX0_translate 55 = .ok (.l2i, 1) := by decide +kernel
theorem dX0_translate_56 : decode cX0_translate 56 = .ok (.putfield 14, 3) := by decide +kernel
theorem dX0_translate_59 : decode cX0_translate 59 = .ok (.aload_n 0, 1) := by decide +kernel
theorem dX0_translate_60 : decode cX0_translate 60 = .ok (.iload 6, 2) := by decide +kernel
theorem dX0_translate_62 : decode cX0_translate 62 = .ok (.ifCond .eq 13, 3) := by decide +kernel
theorem dX0_translate_65 : decode cX0_translate 65 = .ok (.aload_n 0, 1) := by decide +kernel
theorem dX0_translate_66 : decode cX0_translate 66 = .ok (.getfield 62, 3) := by decide +kernel
theorem dX0_translate_69 : decode cX0_translate 69 = .ok (.iconst 2, 1) := by decide +kernel
theorem dX0_translate_70 : decode cX0_translate 70 = .ok (.lushr, 1) := by decide +kernel
theorem dX0_translate_71 : decode cX0_translate 71 = .ok (.l2i, 1) := by decide +kernel
theorem dX0_translate_72 : decode cX0_translate 72 = .ok (.goto 4, 3) := by decide +kernel
theorem dX0_translate_75 : decode cX0_translate 75 = .ok (.iconst 0, 1) := by decide +kernel
theorem dX0_translate_76 : decode cX0_translate 76 = .ok (.putfield 36, 3) := by decide +kernel
theorem dX0_translate_79 : decode cX0_translate 79 = .ok (.aload_n 0, 1) := by decide +kernel
theorem dX0_translate_80 : decode cX0_translate 80 = .ok (.iload 6, 2) := by decide +kernel
theorem dX0_translate_82 : decode cX0_translate 82 = .ok (.ifCond .eq 14, 3) := by decide +kernel
theorem dX0_translate_85 : decode cX0_translate 85 = .ok (.aload_n 0, 1) := by decide +kernel
theorem dX0_translate_86 : decode cX0_translate 86 = .ok (.getfield 66, 3) := by decide +kernel
theorem dX0_translate_89 : decode cX0_translate 89 = .ok (.ifCond .eq 7, 3) := by decide +kernel
theorem dX0_translate_92 : decode cX0_translate 92 = .ok (.iconst 1, 1) := by decide +kernel
theorem dX0_translate_93 : decode cX0_translate 93 = .ok (.goto 4, 3) := by decide +kernel
theorem dX0_translate_96 : decode cX0_translate 96 = .ok (.iconst 0, 1) := by decide +kernel
theorem dX0_translate_97 : decode cX0_translate 97 = .ok (.putfield 39, 3) := by decide +kernel
theorem dX0_translate_100 : decode cX0_translate 100 = .ok (.lload 4, 2) := by decide +kernel
theorem dX0_translate_102 : decode cX0_translate 102 = .ok (.lconst 0, 1) := by decide +kernel
theorem dX0_translate_103 : decode cX0_translate 103 = .ok (.lcmp, 1) := by decide +kernel
theorem dX0_translate_104 : decode cX0_translate 104 = .ok (.ifCond .ge 10, 3) := by decide +kernel
theorem dX0_translate_107 : decode cX0_translate 107 = .ok (.lload 4, 2) := by decide +kernel
theorem dX0_translate_109 : decode cX0_translate 109 = .ok (.lneg, 1) := by decide +kernel
theorem dX0_translate_110 : decode cX0_translate 110 = .ok (.l2i, 1) := by decide +kernel
theorem dX0_translate_111 : decode cX0_translate 111 = .ok (.goto 4, 3) := by decide +kernel
theorem dX0_translate_114 : decode cX0_translate 114 = .ok (.iconst 0, 1) := by decide +kernel
theorem dX0_translate_115 : decode cX0_translate 115 = .ok (.ireturn, 1) := by decide +kernel
theorem dX0_place_0 : decode cX0_place 0 = .ok (.aload_n 0, 1) := by decide +kernel
theorem dX0_place_1 : decode cX0_place 1 = .ok (.getfield 14, 3) := by decide +kernel
theorem dX0_place_4 : decode cX0_place 4 = .ok (.ireturn, 1) := by decide +kernel
theorem dX0_second_0 : decode cX0_second 0 = .ok (.aload_n 0, 1) := by decide +kernel
theorem dX0_second_1 : decode cX0_second 1 = .ok (.getfield 36, 3) := by decide +kernel
theorem dX0_second_4 : decode cX0_second 4 = .ok (.ireturn, 1) := by decide +kernel
theorem dX0_entry_0 : decode cX0_entry 0 = .ok (.aload_n 0, 1) := by decide +kernel
theorem dX0_entry_1 : decode cX0_entry 1 = .ok (.getfield 39, 3) := by decide +kernel
theorem dX0_entry_4 : decode cX0_entry 4 = .ok (.ireturn, 1) := by decide +kernel
set_option maxRecDepth 20000 in
theorem ggX0_pages_X0_isKnown : GoodIn wsX0_pages wsX0_isKnown := goodIn_r _ [6, 7, 8, 5, 9] (by decide +kernel) (by decide +kernel)
set_option maxRecDepth 20000 in
theorem gX0_pages_X0_isKnown : GoodIn wsX0_pages (va_wsS RX0 48 yX0_isKnown wsX0_isKnown) := goodIn_app (goodIn_of _ (by decide +kernel)) ggX0_pages_X0_isKnown
set_option maxRecDepth 20000 in
theorem ggX0_pages_X0_lead : GoodIn wsX0_pages wsX0_lead := goodIn_r _ [13, 14, 15, 16, 7, 8, 5, 9, 17, 18, 19, 20, 21, 22, 23, 24, 2, 25, 26, 27, 28, 29, 30, 31, 32, 33, 34, 35, 36, 37, 38, 39, 40, 41, 42, 1, 43, 44, 45, 46, 47, 48, 49, 50, 51, 52, 53, 54, 55, 56, 57, 58, 59, 60, 61, 62, 63, 64, 65, 66, 67, 68, 69, 70, 71, 72, 73, 74, 75, 76, 77, 78, 79, 80, 81, 82, 83, 84, 85, 86, 87, 88, 89, 90, 91, 92, 93, 94, 95, 96, 97, 98, 99, 100, 101, 102, 103, 104, 105, 106, 107, 108, 109, 110, 111] (by decide +kernel) (by decide +kernel)
set_option maxRecDepth 20000 in
theorem gX0_pages_X0_lead : GoodIn wsX0_pages (wsV RX0 54 RX0 yX0_lead wsX0_lead) := goodIn_app (goodIn_of _ (by decide +kernel)) ggX0_pages_X0_lead
theorem dX0_pages_0 : decode cX0_pages 0 = .ok (.iload 4, 2) := by decide +kernel
theorem dX0_pages_2 : decode cX0_pages 2 = .ok (.iconst 1, 1) := by decide +kernel
theorem dX0_pages_3 : decode cX0_pages 3 = .ok (.if_icmp .lt 19, 3) := by decide +kernel
theorem dX0_pages_6 : decode cX0_pages 6 = .ok (.iload 4, 2) := by decide +kernel
theorem dX0_pages_8 : decode cX0_pages 8 = .ok (.sipush 1024, 3) := by decide +kernel
theorem dX0_pages_11 : decode cX0_pages 11 = .ok (.if_icmp .gt 11, 3) := by decide +kernel
theorem dX0_pages_14 : decode cX0_pages 14 = .ok (.iload_n 1, 1) := by decide +kernel
theorem dX0_pages_15 : decode cX0_pages 15 = .ok (.iload_n 2, 1) := by decide +kernel
theorem dX0_pages_16 : decode cX0_pages 16 = .ok (.invokestatic 48, 3) := by decide +kernel
theorem dX0_pages_19 : decode cX0_pages 19 = .ok (.ifCond .ne 5, 3) := by decide +kernel
theorem dX0_pages_22 : decode cX0_pages 22 = .ok (.iconst (-1), 1) := by decide +kernel
theorem dX0_pages_23 : decode cX0_pages 23 = .ok (.ireturn, 1) := by decide +kernel
theorem dX0_pages_24 : decode cX0_pages 24 = .ok (.iload_n 3, 1) := by decide +kernel
theorem dX0_pages_25 : decode cX0_pages 25 = .ok (.i2l, 1) := by decide +kernel
theorem dX0_pages_26 : decode cX0_pages 26 = .ok (.ldc2_w 52, 3) := by decide +kernel
theorem dX0_pages_29 : decode cX0_pages 29 = .ok (.land, 1) := by decide +kernel
theorem dX0_pages_30 : decode cX0_pages 30 = .ok (.lstore 5, 2) := by decide +kernel
theorem dX0_pages_32 : decode cX0_pages 32 = .ok (.iconst 0, 1) := by decide +kernel
theorem dX0_pages_33 : decode cX0_pages 33 = .ok (.istore 7, 2) := by decide +kernel
theorem dX0_pages_35 : decode cX0_pages 35 = .ok (.iconst 0, 1) := by decide +kernel
theorem dX0_pages_36 : decode cX0_pages 36 = .ok (.istore 8, 2) := by decide +kernel
theorem dX0_pages_38 : decode cX0_pages 38 = .ok (.iload 8, 2) := by decide +kernel
theorem dX0_pages_40 : decode cX0_pages 40 = .ok (.iload 4, 2) := by decide +kernel
theorem dX0_pages_42 : decode cX0_pages 42 = .ok (.if_icmp .ge 46, 3) := by decide +kernel
theorem dX0_pages_45 : decode cX0_pages 45 = .ok (.lload 5, 2) := by decide +kernel
theorem dX0_pages_47 : decode cX0_pages 47 = .ok (.iload 8, 2) := by decide +kernel
theorem dX0_pages_49 : decode cX0_pages 49 = .ok (.i2l, 1) := by decide +kernel
theorem dX0_pages_50 : decode cX0_pages 50 = .ok (.ldc2_w 69, 3) := by decide +kernel
theorem dX0_pages_53 : decode cX0_pages 53 = .ok (.lmul, 1) := by decide +kernel
theorem dX0_pages_54 : decode cX0_pages 54 = .ok (.ladd, 1) := by decide +kernel
theorem dX0_pages_55 : decode cX0_pages 55 = .ok (.lstore 9, 2) := by decide +kernel
theorem dX0_pages_57 : decode cX0_pages 57 = .ok (.lload 9, 2) := by decide +kernel
theorem dX0_pages_59 : decode cX0_pages 59 = .ok (.ldc2_w 52, 3) := by decide +kernel
theorem dX0_pages_62 : decode cX0_pages 62 = .ok (.lcmp, 1) := by decide +kernel
theorem dX0_pages_63 : decode cX0_pages 63 = .ok (.ifCond .gt 19, 3) := by decide +kernel
theorem dX0_pages_66 : decode cX0_pages 66 = .ok (.aload_n 0, 1) := by decide +kernel
theorem dX0_pages_67 : decode cX0_pages 67 = .ok (.iload_n 1, 1) := by decide +kernel
theorem dX0_pages_68 : decode cX0_pages 68 = .ok (.iload_n 2, 1) := by decide +kernel
theorem dX0_pages_69 : decode cX0_pages 69 = .ok (.lload 9, 2) := by decide +kernel
theorem dX0_pages_71 : decode cX0_pages 71 = .ok (.invokevirtual 54, 3) := by decide +kernel
theorem dX0_pages_74 : decode cX0_pages 74 = .ok (.lconst 0, 1) := by decide +kernel
theorem dX0_pages_75 : decode cX0_pages 75 = .ok (.lcmp, 1) := by decide +kernel
theorem dX0_pages_76 : decode cX0_pages 76 = .ok (.ifCond .lt 6, 3) := by decide +kernel
theorem dX0_pages_79 : decode cX0_pages 79 = .ok (.iinc 7 1, 3) := by decide +kernel
theorem dX0_pages_82 : decode cX0_pages 82 = .ok (.iinc 8 1, 3) := by decide +kernel
theorem dX0_pages_85 : decode cX0_pages 85 = .ok (.goto (-47), 3) := by decide +kernel
theorem dX0_pages_88 : decode cX0_pages 88 = .ok (.iload 7, 2) := by decide +kernel
theorem dX0_pages_90 : decode cX0_pages 90 = .ok (.ireturn, 1) := by decide +kernel
theorem dX0_isWordOfMemory_0 : decode cX0_isWordOfMemory 0 = .ok (.iload_n 0, 1) := by decide +kernel
theorem dX0_isWordOfMemory_1 : decode cX0_isWordOfMemory 1 = .ok (.ifCond .lt 19, 3) := by decide +kernel
theorem dX0_isWordOfMemory_4 : decode cX0_isWordOfMemory 4 = .ok (.iload_n 0, 1) := by decide +kernel
theorem dX0_isWordOfMemory_5 : decode cX0_isWordOfMemory 5 = .ok (.ldc 71, 2) := by decide +kernel
theorem dX0_isWordOfMemory_7 : decode cX0_isWordOfMemory 7 = .ok (.if_icmp .ge 13, 3) := by decide +kernel
theorem dX0_isWordOfMemory_10 : decode cX0_isWordOfMemory 10 = .ok (.iload_n 0, 1) := by decide +kernel
theorem dX0_isWordOfMemory_11 : decode cX0_isWordOfMemory 11 = .ok (.iconst 4, 1) := by decide +kernel
theorem dX0_isWordOfMemory_12 : decode cX0_isWordOfMemory 12 = .ok (.irem, 1) := by decide +kernel
theorem dX0_isWordOfMemory_13 : decode cX0_isWordOfMemory 13 = .ok (.ifCond .ne 7, 3) := by decide +kernel
theorem dX0_isWordOfMemory_16 : decode cX0_isWordOfMemory 16 = .ok (.iconst 1, 1) := by decide +kernel
theorem dX0_isWordOfMemory_17 : decode cX0_isWordOfMemory 17 = .ok (.goto 4, 3) := by decide +kernel
theorem dX0_isWordOfMemory_20 : decode cX0_isWordOfMemory 20 = .ok (.iconst 0, 1) := by decide +kernel
theorem dX0_isWordOfMemory_21 : decode cX0_isWordOfMemory 21 = .ok (.ireturn, 1) := by decide +kernel
set_option maxRecDepth 20000 in
theorem ggX0_isKnown_X0_isVirtual : GoodIn wsX0_isKnown wsX0_isVirtual := goodIn_r _ [4] (by decide +kernel) (by decide +kernel)
set_option maxRecDepth 20000 in
theorem gX0_isKnown_X0_isVirtual : GoodIn wsX0_isKnown (va_wsS RX0 72 yX0_isVirtual wsX0_isVirtual) := goodIn_app (goodIn_of _ (by decide +kernel)) ggX0_isKnown_X0_isVirtual
theorem dX0_isKnown_0 : decode cX0_isKnown 0 = .ok (.iload_n 0, 1) := by decide +kernel
theorem dX0_isKnown_1 : decode cX0_isKnown 1 = .ok (.invokestatic 72, 3) := by decide +kernel
theorem dX0_isKnown_4 : decode cX0_isKnown 4 = .ok (.ifCond .eq 7, 3) := by decide +kernel
theorem dX0_isKnown_7 : decode cX0_isKnown 7 = .ok (.iconst 3, 1) := by decide +kernel
theorem dX0_isKnown_8 : decode cX0_isKnown 8 = .ok (.goto 4, 3) := by decide +kernel
theorem dX0_isKnown_11 : decode cX0_isKnown 11 = .ok (.iconst 2, 1) := by decide +kernel
theorem dX0_isKnown_12 : decode cX0_isKnown 12 = .ok (.istore_n 2, 1) := by decide +kernel
theorem dX0_isKnown_13 : decode cX0_isKnown 13 = .ok (.iload_n 0, 1) := by decide +kernel
theorem dX0_isKnown_14 : decode cX0_isKnown 14 = .ok (.ifCond .lt 21, 3) := by decide +kernel
theorem dX0_isKnown_17 : decode cX0_isKnown 17 = .ok (.iload_n 0, 1) := by decide +kernel
theorem dX0_isKnown_18 : decode cX0_isKnown 18 = .ok (.iconst 3, 1) := by decide +kernel
theorem dX0_isKnown_19 : decode cX0_isKnown 19 = .ok (.if_icmp .gt 16, 3) := by decide +kernel
theorem dX0_isKnown_22 : decode cX0_isKnown 22 = .ok (.iload_n 1, 1) := by decide +kernel
theorem dX0_isKnown_23 : decode cX0_isKnown 23 = .ok (.ifCond .lt 12, 3) := by decide +kernel
theorem dX0_isKnown_26 : decode cX0_isKnown 26 = .ok (.iload_n 1, 1) := by decide +kernel
theorem dX0_isKnown_27 : decode cX0_isKnown 27 = .ok (.iload_n 2, 1) := by decide +kernel
theorem dX0_isKnown_28 : decode cX0_isKnown 28 = .ok (.if_icmp .gt 7, 3) := by decide +kernel
theorem dX0_isKnown_31 : decode cX0_isKnown 31 = .ok (.iconst 1, 1) := by decide +kernel
theorem dX0_isKnown_32 : decode cX0_isKnown 32 = .ok (.goto 4, 3) := by decide +kernel
theorem dX0_isKnown_35 : decode cX0_isKnown 35 = .ok (.iconst 0, 1) := by decide +kernel
theorem dX0_isKnown_36 : decode cX0_isKnown 36 = .ok (.ireturn, 1) := by decide +kernel
theorem dX0_isVirtual_0 : decode cX0_isVirtual 0 = .ok (.iload_n 0, 1) := by decide +kernel
theorem dX0_isVirtual_1 : decode cX0_isVirtual 1 = .ok (.iconst 2, 1) := by decide +kernel
theorem dX0_isVirtual_2 : decode cX0_isVirtual 2 = .ok (.if_icmp .lt 7, 3) := by decide +kernel
theorem dX0_isVirtual_5 : decode cX0_isVirtual 5 = .ok (.iconst 1, 1) := by decide +kernel
theorem dX0_isVirtual_6 : decode cX0_isVirtual 6 = .ok (.goto 4, 3) := by decide +kernel
theorem dX0_isVirtual_9 : decode cX0_isVirtual 9 = .ok (.iconst 0, 1) := by decide +kernel
theorem dX0_isVirtual_10 : decode cX0_isVirtual 10 = .ok (.ireturn, 1) := by decide +kernel
set_option maxRecDepth 20000 in
theorem ggX0_lead_X0_isVirtual : GoodIn wsX0_lead wsX0_isVirtual := goodIn_r _ [7] (by decide +kernel) (by decide +kernel)
set_option maxRecDepth 20000 in
theorem gX0_lead_X0_isVirtual : GoodIn wsX0_lead (va_wsS RX0 72 yX0_isVirtual wsX0_isVirtual) := goodIn_app (goodIn_of _ (by decide +kernel)) ggX0_lead_X0_isVirtual
set_option maxRecDepth 20000 in
theorem ggX0_lead_X0_walkFirst : GoodIn wsX0_lead wsX0_walkFirst := goodIn_r _ [11, 12, 13, 14, 6, 15, 16, 17, 18, 19, 20, 21, 22, 4, 5, 7, 23, 24, 25, 26, 27, 28, 29, 30, 31, 32, 33, 3, 34, 35, 36, 37, 38, 39, 40, 41, 42, 43, 44, 45, 46, 47, 48, 49, 50, 51, 52, 53, 54, 55, 56, 57, 58, 59, 60, 61, 62, 63, 64, 65, 66, 67, 68, 69, 70, 71, 72, 73, 74, 75, 76, 77, 78, 79, 80, 81, 82, 83, 84, 85, 86, 87, 88, 89, 90, 91, 92, 93, 94, 95, 96, 97, 98, 99, 100, 101, 102, 103, 104] (by decide +kernel) (by decide +kernel)
set_option maxRecDepth 20000 in
theorem gX0_lead_X0_walkFirst : GoodIn wsX0_lead (wsV RX0 75 RX0 yX0_walkFirst wsX0_walkFirst) := goodIn_app (goodIn_of _ (by decide +kernel)) ggX0_lead_X0_walkFirst
set_option maxRecDepth 20000 in
theorem ggX0_lead_X0_throughSecond : GoodIn wsX0_lead wsX0_throughSecond := goodIn_r _ [21, 22, 4, 5, 6, 7, 23, 24, 25, 26, 27, 28, 29, 13, 14, 15, 16, 17, 30, 31, 32, 33, 3, 34, 35, 36, 37, 38, 39, 40, 41, 42, 43, 44, 45, 46, 47, 48, 49, 50, 51, 52, 53, 54, 55, 56, 57, 58, 59, 60, 61, 62, 63, 64, 65, 66, 67, 68, 69, 70, 71, 72, 73, 74, 75, 76, 77, 78, 79, 80, 95, 96, 97, 98, 99, 100, 101, 102, 103, 104] (by decide +kernel) (by decide +kernel)
set_option maxRecDepth 20000 in
theorem gX0_lead_X0_throughSecond : GoodIn wsX0_lead (wsV RX0 79 RX0 yX0_throughSecond wsX0_throughSecond) := goodIn_app (goodIn_of _ (by decide +kernel)) ggX0_lead_X0_throughSecond
set_option maxRecDepth 20000 in
theorem ggX0_lead_X0_noMemory : GoodIn wsX0_lead wsX0_noMemory := goodIn_r _ [38, 39, 40, 41] (by decide +kernel) (by decide +kernel)
set_option maxRecDepth 20000 in
theorem gX0_lead_X0_noMemory : GoodIn wsX0_lead (va_wsS RX0 85 yX0_noMemory wsX0_noMemory) := goodIn_app (goodIn_of _ (by decide +kernel)) ggX0_lead_X0_noMemory
theorem dX0_lead_0 : decode cX0_lead 0 = .ok (.iload_n 1, 1) := by decide +kernel
theorem dX0_lead_1 : decode cX0_lead 1 = .ok (.invokestatic 72, 3) := by decide +kernel
theorem dX0_lead_4 : decode cX0_lead 4 = .ok (.ifCond .eq 10, 3) := by decide +kernel
theorem dX0_lead_7 : decode cX0_lead 7 = .ok (.aload_n 0, 1) := by decide +kernel
theorem dX0_lead_8 : decode cX0_lead 8 = .ok (.getfield 27, 3) := by decide +kernel
theorem dX0_lead_11 : decode cX0_lead 11 = .ok (.goto 7, 3) := by decide +kernel
theorem dX0_lead_14 : decode cX0_lead 14 = .ok (.aload_n 0, 1) := by decide +kernel
theorem dX0_lead_15 : decode cX0_lead 15 = .ok (.getfield 24, 3) := by decide +kernel
theorem dX0_lead_18 : decode cX0_lead 18 = .ok (.istore 5, 2) := by decide +kernel
theorem dX0_lead_20 : decode cX0_lead 20 = .ok (.iload 5, 2) := by decide +kernel
theorem dX0_lead_22 : decode cX0_lead 22 = .ok (.ifCond .ge 15, 3) := by decide +kernel
theorem dX0_lead_25 : decode cX0_lead 25 = .ok (.aload_n 0, 1) := by decide +kernel
theorem dX0_lead_26 : decode cX0_lead 26 = .ok (.iload_n 1, 1) := by decide +kernel
theorem dX0_lead_27 : decode cX0_lead 27 = .ok (.iload_n 2, 1) := by decide +kernel
theorem dX0_lead_28 : decode cX0_lead 28 = .ok (.lload_n 3, 1) := by decide +kernel
theorem dX0_lead_29 : decode cX0_lead 29 = .ok (.iload 5, 2) := by decide +kernel
theorem dX0_lead_31 : decode cX0_lead 31 = .ok (.invokevirtual 75, 3) := by decide +kernel
theorem dX0_lead_34 : decode cX0_lead 34 = .ok (.goto 4, 3) := by decide +kernel
theorem dX0_lead_37 : decode cX0_lead 37 = .ok (.lload_n 3, 1) := by decide +kernel
theorem dX0_lead_38 : decode cX0_lead 38 = .ok (.lstore 6, 2) := by decide +kernel
theorem dX0_lead_40 : decode cX0_lead 40 = .ok (.aload_n 0, 1) := by decide +kernel
theorem dX0_lead_41 : decode cX0_lead 41 = .ok (.iload_n 1, 1) := by decide +kernel
theorem dX0_lead_42 : decode cX0_lead 42 = .ok (.iload_n 2, 1) := by decide +kernel
theorem dX0_lead_43 : decode cX0_lead 43 = .ok (.lload 6, 2) := by decide +kernel
theorem dX0_lead_45 : decode cX0_lead 45 = .ok (.iconst 0, 1) := by decide +kernel
theorem dX0_lead_46 : decode cX0_lead 46 = .ok (.invokevirtual 79, 3) := by decide +kernel
theorem dX0_lead_49 : decode cX0_lead 49 = .ok (.lstore 8, 2) := by decide +kernel
theorem dX0_lead_51 : decode cX0_lead 51 = .ok (.lload 8, 2) := by decide +kernel
theorem dX0_lead_53 : decode cX0_lead 53 = .ok (.ldc2_w 83, 3) := by decide +kernel
theorem dX0_lead_56 : decode cX0_lead 56 = .ok (.lcmp, 1) := by decide +kernel
theorem dX0_lead_57 : decode cX0_lead 57 = .ok (.ifCond .lt 10, 3) := by decide +kernel
theorem dX0_lead_60 : decode cX0_lead 60 = .ok (.iload_n 2, 1) := by decide +kernel
theorem dX0_lead_61 : decode cX0_lead 61 = .ok (.invokestatic 85, 3) := by decide +kernel
theorem dX0_lead_64 : decode cX0_lead 64 = .ok (.goto 5, 3) := by decide +kernel
theorem dX0_lead_67 : decode cX0_lead 67 = .ok (.lload 8, 2) := by decide +kernel
theorem dX0_lead_69 : decode cX0_lead 69 = .ok (.lreturn, 1) := by decide +kernel
set_option maxRecDepth 20000 in
theorem ggX0_throughSecond_X0_isVirtual : GoodIn wsX0_throughSecond wsX0_isVirtual := goodIn_r _ [5] (by decide +kernel) (by decide +kernel)
set_option maxRecDepth 20000 in
theorem gX0_throughSecond_X0_isVirtual : GoodIn wsX0_throughSecond (va_wsS RX0 72 yX0_isVirtual wsX0_isVirtual) := goodIn_app (goodIn_of _ (by decide +kernel)) ggX0_throughSecond_X0_isVirtual
set_option maxRecDepth 20000 in
theorem ggX0_throughSecond_X0_walkSecond : GoodIn wsX0_throughSecond wsX0_walkSecond := goodIn_r _ [9, 1, 10, 11, 12, 13, 14, 4, 15, 16, 17, 18, 19, 20, 21, 22, 23, 24, 25, 26, 27, 28, 29, 30, 31, 32, 33, 34, 35, 36, 37, 38, 39, 40, 41, 42, 43, 44, 45, 46, 47, 48, 49, 50, 51, 52, 53, 54, 55, 56, 57, 58, 59, 60, 61, 62, 63, 64, 65, 66, 67, 68, 69, 70, 71, 72, 73, 74, 75, 76, 77, 78, 79] (by decide +kernel) (by decide +kernel)
set_option maxRecDepth 20000 in
theorem gX0_throughSecond_X0_walkSecond : GoodIn wsX0_throughSecond (wsV RX0 88 RX0 yX0_walkSecond wsX0_walkSecond) := goodIn_app (goodIn_of _ (by decide +kernel)) ggX0_throughSecond_X0_walkSecond
theorem dX0_throughSecond_0 : decode cX0_throughSecond 0 = .ok (.lload_n 3, 1) := by decide +kernel
theorem dX0_throughSecond_1 : decode cX0_throughSecond 1 = .ok (.lconst 0, 1) := by decide +kernel
theorem dX0_throughSecond_2 : decode cX0_throughSecond 2 = .ok (.lcmp, 1) := by decide +kernel
theorem dX0_throughSecond_3 : decode cX0_throughSecond 3 = .ok (.ifCond .lt 21, 3) := by decide +kernel
theorem dX0_throughSecond_6 : decode cX0_throughSecond 6 = .ok (.iload_n 1, 1) := by decide +kernel
theorem dX0_throughSecond_7 : decode cX0_throughSecond 7 = .ok (.invokestatic 72, 3) := by decide +kernel
theorem dX0_throughSecond_10 : decode cX0_throughSecond 10 = .ok (.ifCond .eq 14, 3) := by decide +kernel
theorem dX0_throughSecond_13 : decode cX0_throughSecond 13 = .ok (.aload_n 0, 1) := by decide +kernel
theorem dX0_throughSecond_14 : decode cX0_throughSecond 14 = .ok (.getfield 30, 3) := by decide +kernel
theorem dX0_throughSecond_17 : decode cX0_throughSecond 17 = .ok (.ifCond .ge 7, 3) := by decide +kernel
theorem dX0_throughSecond_20 : decode cX0_throughSecond 20 = .ok (.iconst 1, 1) := by decide +kernel
theorem dX0_throughSecond_21 : decode cX0_throughSecond 21 = .ok (.goto 4, 3) := by decide +kernel
theorem dX0_throughSecond_24 : decode cX0_throughSecond 24 = .ok (.iconst 0, 1) := by decide +kernel
theorem dX0_throughSecond_25 : decode cX0_throughSecond 25 = .ok (.istore 6, 2) := by decide +kernel
theorem dX0_throughSecond_27 : decode cX0_throughSecond 27 = .ok (.iload 6, 2) := by decide +kernel
theorem dX0_throughSecond_29 : decode cX0_throughSecond 29 = .ok (.ifCond .eq 14, 3) := by decide +kernel
theorem dX0_throughSecond_32 : decode cX0_throughSecond 32 = .ok (.aload_n 0, 1) := by decide +kernel
theorem dX0_throughSecond_33 : decode cX0_throughSecond 33 = .ok (.iload_n 2, 1) := by decide +kernel
theorem dX0_throughSecond_34 : decode cX0_throughSecond 34 = .ok (.lload_n 3, 1) := by decide +kernel
theorem dX0_throughSecond_35 : decode cX0_throughSecond 35 = .ok (.iload 5, 2) := by decide +kernel
theorem dX0_throughSecond_37 : decode cX0_throughSecond 37 = .ok (.invokevirtual 88, 3) := by decide +kernel
theorem dX0_throughSecond_40 : decode cX0_throughSecond 40 = .ok (.goto 4, 3) := by decide +kernel
theorem dX0_throughSecond_43 : decode cX0_throughSecond 43 = .ok (.lload_n 3, 1) := by decide +kernel
theorem dX0_throughSecond_44 : decode cX0_throughSecond 44 = .ok (.lreturn, 1) := by decide +kernel
set_option maxRecDepth 20000 in
theorem ggX0_walkFirst_X0_upperEntry : GoodIn wsX0_walkFirst wsX0_upperEntry := goodIn_r _ [5, 6, 7] (by decide +kernel) (by decide +kernel)
set_option maxRecDepth 20000 in
theorem gX0_walkFirst_X0_upperEntry : GoodIn wsX0_walkFirst (va_wsS RX0 93 yX0_upperEntry wsX0_upperEntry) := goodIn_app (goodIn_of _ (by decide +kernel)) ggX0_walkFirst_X0_upperEntry
set_option maxRecDepth 20000 in
theorem ggX0_walkFirst_X0_throughSecond : GoodIn wsX0_walkFirst wsX0_throughSecond := goodIn_r _ [11, 12, 13, 14, 4, 15, 16, 17, 18, 19, 20, 21, 22, 2, 3, 5, 6, 7, 23, 24, 25, 26, 27, 28, 29, 30, 31, 32, 33, 34, 35, 36, 37, 38, 39, 40, 41, 42, 43, 44, 45, 46, 47, 48, 49, 50, 51, 52, 53, 54, 55, 56, 57, 58, 59, 60, 61, 62, 63, 64, 65, 66, 67, 68, 69, 70, 71, 72, 73, 74, 89, 90, 91, 92, 93, 94, 95, 96, 97, 98] (by decide +kernel) (by decide +kernel)
set_option maxRecDepth 20000 in
theorem gX0_walkFirst_X0_throughSecond : GoodIn wsX0_walkFirst (wsV RX0 79 RX0 yX0_throughSecond wsX0_throughSecond) := goodIn_app (goodIn_of _ (by decide +kernel)) ggX0_walkFirst_X0_throughSecond
set_option maxRecDepth 20000 in
theorem ggX0_walkFirst_X0_entryAt : GoodIn wsX0_walkFirst wsX0_entryAt := goodIn_r _ [26, 27, 28, 29, 30, 31, 4, 32, 33, 34, 35, 89, 90, 91, 92, 93, 94, 95, 96, 97, 98] (by decide +kernel) (by decide +kernel)
set_option maxRecDepth 20000 in
theorem gX0_walkFirst_X0_entryAt : GoodIn wsX0_walkFirst (wsV RX0 97 RX0 yX0_entryAt wsX0_entryAt) := goodIn_app (goodIn_of _ (by decide +kernel)) ggX0_walkFirst_X0_entryAt
set_option maxRecDepth 20000 in
theorem ggX0_walkFirst_X0_isTable : GoodIn wsX0_walkFirst wsX0_isTable := goodIn_r _ [38, 39] (by decide +kernel) (by decide +kernel)
set_option maxRecDepth 20000 in
theorem gX0_walkFirst_X0_isTable : GoodIn wsX0_walkFirst (va_wsS RX0 100 yX0_isTable wsX0_isTable) := goodIn_app (goodIn_of _ (by decide +kernel)) ggX0_walkFirst_X0_isTable
set_option maxRecDepth 20000 in
theorem ggX0_walkFirst_X0_lowerEntry : GoodIn wsX0_walkFirst wsX0_lowerEntry := goodIn_r _ [42, 6, 7, 43] (by decide +kernel) (by decide +kernel)
set_option maxRecDepth 20000 in
theorem gX0_walkFirst_X0_lowerEntry : GoodIn wsX0_walkFirst (va_wsS RX0 104 yX0_lowerEntry wsX0_lowerEntry) := goodIn_app (goodIn_of _ (by decide +kernel)) ggX0_walkFirst_X0_lowerEntry
set_option maxRecDepth 20000 in
theorem ggX0_walkFirst_X0_isGoodLeaf : GoodIn wsX0_walkFirst wsX0_isGoodLeaf := goodIn_r _ [46, 47, 48, 7, 49] (by decide +kernel) (by decide +kernel)
set_option maxRecDepth 20000 in
theorem gX0_walkFirst_X0_isGoodLeaf : GoodIn wsX0_walkFirst (va_wsS RX0 108 yX0_isGoodLeaf wsX0_isGoodLeaf) := goodIn_app (goodIn_of _ (by decide +kernel)) ggX0_walkFirst_X0_isGoodLeaf
set_option maxRecDepth 20000 in
theorem ggX0_walkFirst_X0_firstAllows : GoodIn wsX0_walkFirst wsX0_firstAllows := goodIn_r _ [78, 54, 13, 14, 4, 15, 79, 80, 81, 82, 55, 56, 57, 58, 59, 7, 60, 61, 62, 63, 89, 90, 91, 92, 93, 94, 95, 96, 97, 98] (by decide +kernel) (by decide +kernel)
set_option maxRecDepth 20000 in
theorem gX0_walkFirst_X0_firstAllows : GoodIn wsX0_walkFirst (wsV RX0 112 RX0 yX0_firstAllows wsX0_firstAllows) := goodIn_app (goodIn_of _ (by decide +kernel)) ggX0_walkFirst_X0_firstAllows
set_option maxRecDepth 20000 in
theorem ggX0_walkFirst_X0_result : GoodIn wsX0_walkFirst wsX0_result := goodIn_r _ [66, 67, 68, 6, 33] (by decide +kernel) (by decide +kernel)
set_option maxRecDepth 20000 in
theorem gX0_walkFirst_X0_result : GoodIn wsX0_walkFirst (va_wsS RX0 116 yX0_result wsX0_result) := goodIn_app (goodIn_of _ (by decide +kernel)) ggX0_walkFirst_X0_result
set_option maxRecDepth 20000 in
theorem ggX0_walkFirst_X0_firstFault : GoodIn wsX0_walkFirst wsX0_firstFault := goodIn_r _ [85, 86, 87, 88] (by decide +kernel) (by decide +kernel)
set_option maxRecDepth 20000 in
theorem gX0_walkFirst_X0_firstFault : GoodIn wsX0_walkFirst (va_wsS RX0 120 yX0_firstFault wsX0_firstFault) := goodIn_app (goodIn_of _ (by decide +kernel)) ggX0_walkFirst_X0_firstFault
theorem dX0_walkFirst_0 : decode cX0_walkFirst 0 = .ok (.iload 5, 2) := by decide +kernel
theorem dX0_walkFirst_2 : decode cX0_walkFirst 2 = .ok (.ldc 92, 2) := by decide +kernel
theorem dX0_walkFirst_4 : decode cX0_walkFirst 4 = .ok (.iand, 1) := by decide +kernel
theorem dX0_walkFirst_5 : decode cX0_walkFirst 5 = .ok (.lload_n 3, 1) := by decide +kernel
theorem dX0_walkFirst_6 : decode cX0_walkFirst 6 = .ok (.invokestatic 93, 3) := by decide +kernel
theorem dX0_walkFirst_9 : decode cX0_walkFirst 9 = .ok (.lstore 6, 2) := by decide +kernel
theorem dX0_walkFirst_11 : decode cX0_walkFirst 11 = .ok (.aload_n 0, 1) := by decide +kernel
theorem dX0_walkFirst_12 : decode cX0_walkFirst 12 = .ok (.iload_n 2, 1) := by decide +kernel
theorem dX0_walkFirst_13 : decode cX0_walkFirst 13 = .ok (.aload_n 0, 1) := by decide +kernel
theorem dX0_walkFirst_14 : decode cX0_walkFirst 14 = .ok (.iload_n 1, 1) := by decide +kernel
theorem dX0_walkFirst_15 : decode cX0_walkFirst 15 = .ok (.iload_n 2, 1) := by decide +kernel
theorem dX0_walkFirst_16 : decode cX0_walkFirst 16 = .ok (.lload 6, 2) := by decide +kernel
theorem dX0_walkFirst_18 : decode cX0_walkFirst 18 = .ok (.iconst 1, 1) := by decide +kernel
theorem dX0_walkFirst_19 : decode cX0_walkFirst 19 = .ok (.invokevirtual 79, 3) := by decide +kernel
theorem dX0_walkFirst_22 : decode cX0_walkFirst 22 = .ok (.invokevirtual 97, 3) := by decide +kernel
theorem dX0_walkFirst_25 : decode cX0_walkFirst 25 = .ok (.lstore 8, 2) := by decide +kernel
theorem dX0_walkFirst_27 : decode cX0_walkFirst 27 = .ok (.lload 8, 2) := by decide +kernel
theorem dX0_walkFirst_29 : decode cX0_walkFirst 29 = .ok (.invokestatic 100, 3) := by decide +kernel
theorem dX0_walkFirst_32 : decode cX0_walkFirst 32 = .ok (.ifCond .ne 7, 3) := by decide +kernel
theorem dX0_walkFirst_35 : decode cX0_walkFirst 35 = .ok (.iconst 1, 1) := by decide +kernel
theorem dX0_walkFirst_36 : decode cX0_walkFirst 36 = .ok (.goto 4, 3) := by decide +kernel
theorem dX0_walkFirst_39 : decode cX0_walkFirst 39 = .ok (.iconst 0, 1) := by decide +kernel
theorem dX0_walkFirst_40 : decode cX0_walkFirst 40 = .ok (.istore 10, 2) := by decide +kernel
theorem dX0_walkFirst_42 : decode cX0_walkFirst 42 = .ok (.lload 8, 2) := by decide +kernel
theorem dX0_walkFirst_44 : decode cX0_walkFirst 44 = .ok (.lconst 0, 1) := by decide +kernel
theorem dX0_walkFirst_45 : decode cX0_walkFirst 45 = .ok (.lcmp, 1) := by decide +kernel
theorem dX0_walkFirst_46 : decode cX0_walkFirst 46 = .ok (.ifCond .lt 32, 3) := by decide +kernel
theorem dX0_walkFirst_49 : decode cX0_walkFirst 49 = .ok (.iload 10, 2) := by decide +kernel
theorem dX0_walkFirst_51 : decode cX0_walkFirst 51 = .ok (.ifCond .ne 27, 3) := by decide +kernel
theorem dX0_walkFirst_54 : decode cX0_walkFirst 54 = .ok (.lload 8, 2) := by decide +kernel
theorem dX0_walkFirst_56 : decode cX0_walkFirst 56 = .ok (.lload_n 3, 1) := by decide +kernel
theorem dX0_walkFirst_57 : decode cX0_walkFirst 57 = .ok (.invokestatic 104, 3) := by decide +kernel
theorem dX0_walkFirst_60 : decode cX0_walkFirst 60 = .ok (.lstore 6, 2) := by decide +kernel
theorem dX0_walkFirst_62 : decode cX0_walkFirst 62 = .ok (.aload_n 0, 1) := by decide +kernel
theorem dX0_walkFirst_63 : decode cX0_walkFirst 63 = .ok (.iload_n 2, 1) := by decide +kernel
theorem dX0_walkFirst_64 : decode cX0_walkFirst 64 = .ok (.aload_n 0, 1) := by decide +kernel
theorem dX0_walkFirst_65 : decode cX0_walkFirst 65 = .ok (.iload_n 1, 1) := by decide +kernel
theorem dX0_walkFirst_66 : decode cX0_walkFirst 66 = .ok (.iload_n 2, 1) := by decide +kernel
theorem dX0_walkFirst_67 : decode cX0_walkFirst 67 = .ok (.lload 6, 2) := by decide +kernel
theorem dX0_walkFirst_69 : decode cX0_walkFirst 69 = .ok (.iconst 1, 1) := by decide +kernel
theorem dX0_walkFirst_70 : decode cX0_walkFirst 70 = .ok (.invokevirtual 79, 3) := by decide +kernel
theorem dX0_walkFirst_73 : decode cX0_walkFirst 73 = .ok (.invokevirtual 97, 3) := by decide +kernel
theorem dX0_walkFirst_76 : decode cX0_walkFirst 76 = .ok (.lstore 8, 2) := by decide +kernel
theorem dX0_walkFirst_78 : decode cX0_walkFirst 78 = .ok (.lload 8, 2) := by decide +kernel
theorem dX0_walkFirst_80 : decode cX0_walkFirst 80 = .ok (.lconst 0, 1) := by decide +kernel
theorem dX0_walkFirst_81 : decode cX0_walkFirst 81 = .ok (.lcmp, 1) := by decide +kernel
theorem dX0_walkFirst_82 : decode cX0_walkFirst 82 = .ok (.ifCond .ge 6, 3) := by decide +kernel
theorem dX0_walkFirst_85 : decode cX0_walkFirst 85 = .ok (.lload 8, 2) := by decide +kernel
theorem dX0_walkFirst_87 : decode cX0_walkFirst 87 = .ok (.lreturn, 1) := by decide +kernel
theorem dX0_walkFirst_88 : decode cX0_walkFirst 88 = .ok (.lload 8, 2) := by decide +kernel
theorem dX0_walkFirst_90 : decode cX0_walkFirst 90 = .ok (.iload 10, 2) := by decide +kernel
theorem dX0_walkFirst_92 : decode cX0_walkFirst 92 = .ok (.invokestatic 108, 3) := by decide +kernel
theorem dX0_walkFirst_95 : decode cX0_walkFirst 95 = .ok (.ifCond .eq 18, 3) := by decide +kernel
theorem dX0_walkFirst_98 : decode cX0_walkFirst 98 = .ok (.aload_n 0, 1) := by decide +kernel
theorem dX0_walkFirst_99 : decode cX0_walkFirst 99 = .ok (.iload_n 1, 1) := by decide +kernel
theorem dX0_walkFirst_100 : decode cX0_walkFirst 100 = .ok (.iload_n 2, 1) := by decide +kernel
theorem dX0_walkFirst_101 : decode cX0_walkFirst 101 = .ok (.lload 8, 2) := by decide +kernel
theorem dX0_walkFirst_103 : decode cX0_walkFirst 103 = .ok (.invokevirtual 112, 3) := by decide +kernel
theorem dX0_walkFirst_106 : decode cX0_walkFirst 106 = .ok (.ifCond .eq 7, 3) := by decide +kernel
theorem dX0_walkFirst_109 : decode cX0_walkFirst 109 = .ok (.iconst 1, 1) := by decide +kernel
theorem dX0_walkFirst_110 : decode cX0_walkFirst 110 = .ok (.goto 4, 3) := by decide +kernel
theorem dX0_walkFirst_113 : decode cX0_walkFirst 113 = .ok (.iconst 0, 1) := by decide +kernel
theorem dX0_walkFirst_114 : decode cX0_walkFirst 114 = .ok (.istore 11, 2) := by decide +kernel
theorem dX0_walkFirst_116 : decode cX0_walkFirst 116 = .ok (.iload 11, 2) := by decide +kernel
theorem dX0_walkFirst_118 : decode cX0_walkFirst 118 = .ok (.ifCond .eq 14, 3) := by decide +kernel
theorem dX0_walkFirst_121 : decode cX0_walkFirst 121 = .ok (.lload 8, 2) := by decide +kernel
theorem dX0_walkFirst_123 : decode cX0_walkFirst 123 = .ok (.iload 10, 2) := by decide +kernel
theorem dX0_walkFirst_125 : decode cX0_walkFirst 125 = .ok (.lload_n 3, 1) := by decide +kernel
theorem dX0_walkFirst_126 : decode cX0_walkFirst 126 = .ok (.invokestatic 116, 3) := by decide +kernel
theorem dX0_walkFirst_129 : decode cX0_walkFirst 129 = .ok (.goto 7, 3) := by decide +kernel
theorem dX0_walkFirst_132 : decode cX0_walkFirst 132 = .ok (.iload_n 2, 1) := by decide +kernel
theorem dX0_walkFirst_133 : decode cX0_walkFirst 133 = .ok (.invokestatic 120, 3) := by decide +kernel
theorem dX0_walkFirst_136 : decode cX0_walkFirst 136 = .ok (.lreturn, 1) := by decide +kernel
set_option maxRecDepth 20000 in
theorem ggX0_walkSecond_X0_upperEntry : GoodIn wsX0_walkSecond wsX0_upperEntry := goodIn_r _ [8, 9, 10] (by decide +kernel) (by decide +kernel)
set_option maxRecDepth 20000 in
theorem gX0_walkSecond_X0_upperEntry : GoodIn wsX0_walkSecond (va_wsS RX0 93 yX0_upperEntry wsX0_upperEntry) := goodIn_app (goodIn_of _ (by decide +kernel)) ggX0_walkSecond_X0_upperEntry
set_option maxRecDepth 20000 in
theorem ggX0_walkSecond_X0_entryAt : GoodIn wsX0_walkSecond wsX0_entryAt := goodIn_r _ [14, 15, 16, 17, 18, 19, 7, 20, 21, 22, 23, 63, 64, 65, 66, 67, 68, 69, 70, 71, 72] (by decide +kernel) (by decide +kernel)
set_option maxRecDepth 20000 in
theorem gX0_walkSecond_X0_entryAt : GoodIn wsX0_walkSecond (wsV RX0 97 RX0 yX0_entryAt wsX0_entryAt) := goodIn_app (goodIn_of _ (by decide +kernel)) ggX0_walkSecond_X0_entryAt
set_option maxRecDepth 20000 in
theorem ggX0_walkSecond_X0_isTable : GoodIn wsX0_walkSecond wsX0_isTable := goodIn_r _ [26, 27] (by decide +kernel) (by decide +kernel)
set_option maxRecDepth 20000 in
theorem gX0_walkSecond_X0_isTable : GoodIn wsX0_walkSecond (va_wsS RX0 100 yX0_isTable wsX0_isTable) := goodIn_app (goodIn_of _ (by decide +kernel)) ggX0_walkSecond_X0_isTable
set_option maxRecDepth 20000 in
theorem ggX0_walkSecond_X0_lowerEntry : GoodIn wsX0_walkSecond wsX0_lowerEntry := goodIn_r _ [30, 9, 10, 31] (by decide +kernel) (by decide +kernel)
set_option maxRecDepth 20000 in
theorem gX0_walkSecond_X0_lowerEntry : GoodIn wsX0_walkSecond (va_wsS RX0 104 yX0_lowerEntry wsX0_lowerEntry) := goodIn_app (goodIn_of _ (by decide +kernel)) ggX0_walkSecond_X0_lowerEntry
set_option maxRecDepth 20000 in
theorem ggX0_walkSecond_X0_isGoodLeaf : GoodIn wsX0_walkSecond wsX0_isGoodLeaf := goodIn_r _ [34, 35, 36, 10, 37] (by decide +kernel) (by decide +kernel)
set_option maxRecDepth 20000 in
theorem gX0_walkSecond_X0_isGoodLeaf : GoodIn wsX0_walkSecond (va_wsS RX0 108 yX0_isGoodLeaf wsX0_isGoodLeaf) := goodIn_app (goodIn_of _ (by decide +kernel)) ggX0_walkSecond_X0_isGoodLeaf
set_option maxRecDepth 20000 in
theorem ggX0_walkSecond_X0_secondAllows : GoodIn wsX0_walkSecond wsX0_secondAllows := goodIn_r _ [41, 42, 43, 44, 45, 7, 46, 47, 10, 48, 49, 50, 51, 63, 64, 65, 66, 67, 68, 69, 70, 71, 72] (by decide +kernel) (by decide +kernel)
set_option maxRecDepth 20000 in
theorem gX0_walkSecond_X0_secondAllows : GoodIn wsX0_walkSecond (wsV RX0 124 RX0 yX0_secondAllows wsX0_secondAllows) := goodIn_app (goodIn_of _ (by decide +kernel)) ggX0_walkSecond_X0_secondAllows
set_option maxRecDepth 20000 in
theorem ggX0_walkSecond_X0_result : GoodIn wsX0_walkSecond wsX0_result := goodIn_r _ [54, 55, 56, 9, 21] (by decide +kernel) (by decide +kernel)
set_option maxRecDepth 20000 in
theorem gX0_walkSecond_X0_result : GoodIn wsX0_walkSecond (va_wsS RX0 116 yX0_result wsX0_result) := goodIn_app (goodIn_of _ (by decide +kernel)) ggX0_walkSecond_X0_result
set_option maxRecDepth 20000 in
theorem ggX0_walkSecond_X0_secondFault : GoodIn wsX0_walkSecond wsX0_secondFault := goodIn_r _ [59, 60, 61, 62] (by decide +kernel) (by decide +kernel)
set_option maxRecDepth 20000 in
theorem gX0_walkSecond_X0_secondFault : GoodIn wsX0_walkSecond (va_wsS RX0 58 yX0_secondFault wsX0_secondFault) := goodIn_app (goodIn_of _ (by decide +kernel)) ggX0_walkSecond_X0_secondFault
theorem dX0_walkSecond_0 : decode cX0_walkSecond 0 = .ok (.aload_n 0, 1) := by decide +kernel
theorem dX0_walkSecond_1 : decode cX0_walkSecond 1 = .ok (.iload_n 1, 1) := by decide +kernel
theorem dX0_walkSecond_2 : decode cX0_walkSecond 2 = .ok (.aload_n 0, 1) := by decide +kernel
theorem dX0_walkSecond_3 : decode cX0_walkSecond 3 = .ok (.getfield 30, 3) := by decide +kernel
theorem dX0_walkSecond_6 : decode cX0_walkSecond 6 = .ok (.ldc 123, 2) := by decide +kernel
theorem dX0_walkSecond_8 : decode cX0_walkSecond 8 = .ok (.iand, 1) := by decide +kernel
theorem dX0_walkSecond_9 : decode cX0_walkSecond 9 = .ok (.lload_n 2, 1) := by decide +kernel
theorem dX0_walkSecond_10 : decode cX0_walkSecond 10 = .ok (.invokestatic 93, 3) := by decide +kernel
theorem dX0_walkSecond_13 : decode cX0_walkSecond 13 = .ok (.invokevirtual 97, 3) := by decide +kernel
theorem dX0_walkSecond_16 : decode cX0_walkSecond 16 = .ok (.lstore 5, 2) := by decide +kernel
theorem dX0_walkSecond_18 : decode cX0_walkSecond 18 = .ok (.lload 5, 2) := by decide +kernel
theorem dX0_walkSecond_20 : decode cX0_walkSecond 20 = .ok (.invokestatic 100, 3) := by decide +kernel
theorem dX0_walkSecond_23 : decode cX0_walkSecond 23 = .ok (.ifCond .ne 7, 3) := by decide +kernel
theorem dX0_walkSecond_26 : decode cX0_walkSecond 26 = .ok (.iconst 1, 1) := by decide +kernel
theorem dX0_walkSecond_27 : decode cX0_walkSecond 27 = .ok (.goto 4, 3) := by decide +kernel
theorem dX0_walkSecond_30 : decode cX0_walkSecond 30 = .ok (.iconst 0, 1) := by decide +kernel
theorem dX0_walkSecond_31 : decode cX0_walkSecond 31 = .ok (.istore 7, 2) := by decide +kernel
theorem dX0_walkSecond_33 : decode cX0_walkSecond 33 = .ok (.lload 5, 2) := by decide +kernel
theorem dX0_walkSecond_35 : decode cX0_walkSecond 35 = .ok (.lconst 0, 1) := by decide +kernel
theorem dX0_walkSecond_36 : decode cX0_walkSecond 36 = .ok (.lcmp, 1) := by decide +kernel
theorem dX0_walkSecond_37 : decode cX0_walkSecond 37 = .ok (.ifCond .lt 21, 3) := by decide +kernel
theorem dX0_walkSecond_40 : decode cX0_walkSecond 40 = .ok (.iload 7, 2) := by decide +kernel
theorem dX0_walkSecond_42 : decode cX0_walkSecond 42 = .ok (.ifCond .ne 16, 3) := by decide +kernel
theorem dX0_walkSecond_45 : decode cX0_walkSecond 45 = .ok (.aload_n 0, 1) := by decide +kernel
theorem dX0_walkSecond_46 : decode cX0_walkSecond 46 = .ok (.iload_n 1, 1) := by decide +kernel
theorem dX0_walkSecond_47 : decode cX0_walkSecond 47 = .ok (.lload 5, 2) := by decide +kernel
theorem dX0_walkSecond_49 : decode cX0_walkSecond 49 = .ok (.lload_n 2, 1) := by decide +kernel
theorem dX0_walkSecond_50 : decode cX0_walkSecond 50 = .ok (.invokestatic 104, 3) := by decide +kernel
theorem dX0_walkSecond_53 : decode cX0_walkSecond 53 = .ok (.invokevirtual 97, 3) := by decide +kernel
theorem dX0_walkSecond_56 : decode cX0_walkSecond 56 = .ok (.lstore 5, 2) := by decide +kernel
theorem dX0_walkSecond_58 : decode cX0_walkSecond 58 = .ok (.lload 5, 2) := by decide +kernel
theorem dX0_walkSecond_60 : decode cX0_walkSecond 60 = .ok (.lconst 0, 1) := by decide +kernel
theorem dX0_walkSecond_61 : decode cX0_walkSecond 61 = .ok (.lcmp, 1) := by decide +kernel
theorem dX0_walkSecond_62 : decode cX0_walkSecond 62 = .ok (.ifCond .ge 6, 3) := by decide +kernel
theorem dX0_walkSecond_65 : decode cX0_walkSecond 65 = .ok (.lload 5, 2) := by decide +kernel
theorem dX0_walkSecond_67 : decode cX0_walkSecond 67 = .ok (.lreturn, 1) := by decide +kernel
theorem dX0_walkSecond_68 : decode cX0_walkSecond 68 = .ok (.lload 5, 2) := by decide +kernel
theorem dX0_walkSecond_70 : decode cX0_walkSecond 70 = .ok (.iload 7, 2) := by decide +kernel
theorem dX0_walkSecond_72 : decode cX0_walkSecond 72 = .ok (.invokestatic 108, 3) := by decide +kernel
theorem dX0_walkSecond_75 : decode cX0_walkSecond 75 = .ok (.ifCond .eq 24, 3) := by decide +kernel
theorem dX0_walkSecond_78 : decode cX0_walkSecond 78 = .ok (.aload_n 0, 1) := by decide +kernel
theorem dX0_walkSecond_79 : decode cX0_walkSecond 79 = .ok (.iload_n 1, 1) := by decide +kernel
theorem dX0_walkSecond_80 : decode cX0_walkSecond 80 = .ok (.lload 5, 2) := by decide +kernel
theorem dX0_walkSecond_82 : decode cX0_walkSecond 82 = .ok (.iload 4, 2) := by decide +kernel
theorem dX0_walkSecond_84 : decode cX0_walkSecond 84 = .ok (.invokevirtual 124, 3) := by decide +kernel
theorem dX0_walkSecond_87 : decode cX0_walkSecond 87 = .ok (.ifCond .eq 12, 3) := by decide +kernel
theorem dX0_walkSecond_90 : decode cX0_walkSecond 90 = .ok (.lload 5, 2) := by decide +kernel
theorem dX0_walkSecond_92 : decode cX0_walkSecond 92 = .ok (.iload 7, 2) := by decide +kernel
theorem dX0_walkSecond_94 : decode cX0_walkSecond 94 = .ok (.lload_n 2, 1) := by decide +kernel
theorem dX0_walkSecond_95 : decode cX0_walkSecond 95 = .ok (.invokestatic 116, 3) := by decide +kernel
theorem dX0_walkSecond_98 : decode cX0_walkSecond 98 = .ok (.lreturn, 1) := by decide +kernel
theorem dX0_walkSecond_99 : decode cX0_walkSecond 99 = .ok (.aload_n 0, 1) := by decide +kernel
theorem dX0_walkSecond_100 : decode cX0_walkSecond 100 = .ok (.lload_n 2, 1) := by decide +kernel
theorem dX0_walkSecond_101 : decode cX0_walkSecond 101 = .ok (.putfield 62, 3) := by decide +kernel
theorem dX0_walkSecond_104 : decode cX0_walkSecond 104 = .ok (.aload_n 0, 1) := by decide +kernel
theorem dX0_walkSecond_105 : decode cX0_walkSecond 105 = .ok (.iload 4, 2) := by decide +kernel
theorem dX0_walkSecond_107 : decode cX0_walkSecond 107 = .ok (.putfield 66, 3) := by decide +kernel
theorem dX0_walkSecond_110 : decode cX0_walkSecond 110 = .ok (.iload_n 1, 1) := by decide +kernel
theorem dX0_walkSecond_111 : decode cX0_walkSecond 111 = .ok (.invokestatic 58, 3) := by decide +kernel
theorem dX0_walkSecond_114 : decode cX0_walkSecond 114 = .ok (.lreturn, 1) := by decide +kernel
theorem dX0_upperEntry_0 : decode cX0_upperEntry 0 = .ok (.iload_n 0, 1) := by decide +kernel
theorem dX0_upperEntry_1 : decode cX0_upperEntry 1 = .ok (.i2l, 1) := by decide +kernel
theorem dX0_upperEntry_2 : decode cX0_upperEntry 2 = .ok (.ldc2_w 69, 3) := by decide +kernel
theorem dX0_upperEntry_5 : decode cX0_upperEntry 5 = .ok (.lmul, 1) := by decide +kernel
theorem dX0_upperEntry_6 : decode cX0_upperEntry 6 = .ok (.ldc2_w 128, 3) := by decide +kernel
theorem dX0_upperEntry_9 : decode cX0_upperEntry 9 = .ok (.lload_n 1, 1) := by decide +kernel
theorem dX0_upperEntry_10 : decode cX0_upperEntry 10 = .ok (.bipush 22, 2) := by decide +kernel
theorem dX0_upperEntry_12 : decode cX0_upperEntry 12 = .ok (.lushr, 1) := by decide +kernel
theorem dX0_upperEntry_13 : decode cX0_upperEntry 13 = .ok (.lmul, 1) := by decide +kernel
theorem dX0_upperEntry_14 : decode cX0_upperEntry 14 = .ok (.ladd, 1) := by decide +kernel
theorem dX0_upperEntry_15 : decode cX0_upperEntry 15 = .ok (.lreturn, 1) := by decide +kernel
theorem dX0_lowerEntry_0 : decode cX0_lowerEntry 0 = .ok (.lload_n 0, 1) := by decide +kernel
theorem dX0_lowerEntry_1 : decode cX0_lowerEntry 1 = .ok (.bipush 10, 2) := by decide +kernel
theorem dX0_lowerEntry_3 : decode cX0_lowerEntry 3 = .ok (.lushr, 1) := by decide +kernel
theorem dX0_lowerEntry_4 : decode cX0_lowerEntry 4 = .ok (.ldc2_w 69, 3) := by decide +kernel
theorem dX0_lowerEntry_7 : decode cX0_lowerEntry 7 = .ok (.lmul, 1) := by decide +kernel
theorem dX0_lowerEntry_8 : decode cX0_lowerEntry 8 = .ok (.ldc2_w 128, 3) := by decide +kernel
theorem dX0_lowerEntry_11 : decode cX0_lowerEntry 11 = .ok (.lload_n 2, 1) := by decide +kernel
theorem dX0_lowerEntry_12 : decode cX0_lowerEntry 12 = .ok (.bipush 12, 2) := by decide +kernel
theorem dX0_lowerEntry_14 : decode cX0_lowerEntry 14 = .ok (.lushr, 1) := by decide +kernel
theorem dX0_lowerEntry_15 : decode cX0_lowerEntry 15 = .ok (.ldc2_w 130, 3) := by decide +kernel
theorem dX0_lowerEntry_18 : decode cX0_lowerEntry 18 = .ok (.land, 1) := by decide +kernel
theorem dX0_lowerEntry_19 : decode cX0_lowerEntry 19 = .ok (.lmul, 1) := by decide +kernel
theorem dX0_lowerEntry_20 : decode cX0_lowerEntry 20 = .ok (.ladd, 1) := by decide +kernel
theorem dX0_lowerEntry_21 : decode cX0_lowerEntry 21 = .ok (.lreturn, 1) := by decide +kernel
set_option maxRecDepth 20000 in
theorem ggX0_entryAt_X0_noMemory : GoodIn wsX0_entryAt wsX0_noMemory := goodIn_r _ [7, 8, 9, 10] (by decide +kernel) (by decide +kernel)
set_option maxRecDepth 20000 in
theorem gX0_entryAt_X0_noMemory : GoodIn wsX0_entryAt (va_wsS RX0 85 yX0_noMemory wsX0_noMemory) := goodIn_app (goodIn_of _ (by decide +kernel)) ggX0_entryAt_X0_noMemory
theorem dX0_entryAt_0 : decode cX0_entryAt 0 = .ok (.lload_n 2, 1) := by decide +kernel
theorem dX0_entryAt_1 : decode cX0_entryAt 1 = .ok (.lconst 0, 1) := by decide +kernel
theorem dX0_entryAt_2 : decode cX0_entryAt 2 = .ok (.lcmp, 1) := by decide +kernel
theorem dX0_entryAt_3 : decode cX0_entryAt 3 = .ok (.ifCond .ge 5, 3) := by decide +kernel
theorem dX0_entryAt_6 : decode cX0_entryAt 6 = .ok (.lload_n 2, 1) := by decide +kernel
theorem dX0_entryAt_7 : decode cX0_entryAt 7 = .ok (.lreturn, 1) := by decide +kernel
theorem dX0_entryAt_8 : decode cX0_entryAt 8 = .ok (.lload_n 2, 1) := by decide +kernel
theorem dX0_entryAt_9 : decode cX0_entryAt 9 = .ok (.ldc2_w 83, 3) := by decide +kernel
theorem dX0_entryAt_12 : decode cX0_entryAt 12 = .ok (.lcmp, 1) := by decide +kernel
theorem dX0_entryAt_13 : decode cX0_entryAt 13 = .ok (.ifCond .lt 8, 3) := by decide +kernel
theorem dX0_entryAt_16 : decode cX0_entryAt 16 = .ok (.iload_n 1, 1) := by decide +kernel
theorem dX0_entryAt_17 : decode cX0_entryAt 17 = .ok (.invokestatic 85, 3) := by decide +kernel
theorem dX0_entryAt_20 : decode cX0_entryAt 20 = .ok (.lreturn, 1) := by decide +kernel
theorem dX0_entryAt_21 : decode cX0_entryAt 21 = .ok (.aload_n 0, 1) := by decide +kernel
theorem dX0_entryAt_22 : decode cX0_entryAt 22 = .ok (.getfield 10, 3) := by decide +kernel
theorem dX0_entryAt_25 : decode cX0_entryAt 25 = .ok (.lload_n 2, 1) := by decide +kernel
theorem dX0_entryAt_26 : decode cX0_entryAt 26 = .ok (.l2i, 1) := by decide +kernel
theorem dX0_entryAt_27 : decode cX0_entryAt 27 = .ok (.iconst 4, 1) := by decide +kernel
theorem dX0_entryAt_28 : decode cX0_entryAt 28 = .ok (.idiv, 1) := by decide +kernel
theorem dX0_entryAt_29 : decode cX0_entryAt 29 = .ok (.iaload, 1) := by decide +kernel
theorem dX0_entryAt_30 : decode cX0_entryAt 30 = .ok (.i2l, 1) := by decide +kernel
theorem dX0_entryAt_31 : decode cX0_entryAt 31 = .ok (.ldc2_w 52, 3) := by decide +kernel
theorem dX0_entryAt_34 : decode cX0_entryAt 34 = .ok (.land, 1) := by decide +kernel
theorem dX0_entryAt_35 : decode cX0_entryAt 35 = .ok (.lreturn, 1) := by decide +kernel
theorem dX0_isTable_0 : decode cX0_isTable 0 = .ok (.lload_n 0, 1) := by decide +kernel
theorem dX0_isTable_1 : decode cX0_isTable 1 = .ok (.ldc2_w 132, 3) := by decide +kernel
theorem dX0_isTable_4 : decode cX0_isTable 4 = .ok (.land, 1) := by decide +kernel
theorem dX0_isTable_5 : decode cX0_isTable 5 = .ok (.lconst 1, 1) := by decide +kernel
theorem dX0_isTable_6 : decode cX0_isTable 6 = .ok (.lcmp, 1) := by decide +kernel
theorem dX0_isTable_7 : decode cX0_isTable 7 = .ok (.ifCond .ne 7, 3) := by decide +kernel
theorem dX0_isTable_10 : decode cX0_isTable 10 = .ok (.iconst 1, 1) := by decide +kernel
theorem dX0_isTable_11 : decode cX0_isTable 11 = .ok (.goto 4, 3) := by decide +kernel
theorem dX0_isTable_14 : decode cX0_isTable 14 = .ok (.iconst 0, 1) := by decide +kernel
theorem dX0_isTable_15 : decode cX0_isTable 15 = .ok (.ireturn, 1) := by decide +kernel
theorem dX0_isGoodLeaf_0 : decode cX0_isGoodLeaf 0 = .ok (.lload_n 0, 1) := by decide +kernel
theorem dX0_isGoodLeaf_1 : decode cX0_isGoodLeaf 1 = .ok (.lconst 1, 1) := by decide +kernel
theorem dX0_isGoodLeaf_2 : decode cX0_isGoodLeaf 2 = .ok (.land, 1) := by decide +kernel
theorem dX0_isGoodLeaf_3 : decode cX0_isGoodLeaf 3 = .ok (.lconst 0, 1) := by decide +kernel
theorem dX0_isGoodLeaf_4 : decode cX0_isGoodLeaf 4 = .ok (.lcmp, 1) := by decide +kernel
theorem dX0_isGoodLeaf_5 : decode cX0_isGoodLeaf 5 = .ok (.ifCond .eq 17, 3) := by decide +kernel
theorem dX0_isGoodLeaf_8 : decode cX0_isGoodLeaf 8 = .ok (.lload_n 0, 1) := by decide +kernel
theorem dX0_isGoodLeaf_9 : decode cX0_isGoodLeaf 9 = .ok (.ldc2_w 134, 3) := by decide +kernel
theorem dX0_isGoodLeaf_12 : decode cX0_isGoodLeaf 12 = .ok (.land, 1) := by decide +kernel
theorem dX0_isGoodLeaf_13 : decode cX0_isGoodLeaf 13 = .ok (.lconst 0, 1) := by decide +kernel
theorem dX0_isGoodLeaf_14 : decode cX0_isGoodLeaf 14 = .ok (.lcmp, 1) := by decide +kernel
theorem dX0_isGoodLeaf_15 : decode cX0_isGoodLeaf 15 = .ok (.ifCond .eq 7, 3) := by decide +kernel
theorem dX0_isGoodLeaf_18 : decode cX0_isGoodLeaf 18 = .ok (.iconst 1, 1) := by decide +kernel
theorem dX0_isGoodLeaf_19 : decode cX0_isGoodLeaf 19 = .ok (.goto 4, 3) := by decide +kernel
theorem dX0_isGoodLeaf_22 : decode cX0_isGoodLeaf 22 = .ok (.iconst 0, 1) := by decide +kernel
theorem dX0_isGoodLeaf_23 : decode cX0_isGoodLeaf 23 = .ok (.istore_n 3, 1) := by decide +kernel
theorem dX0_isGoodLeaf_24 : decode cX0_isGoodLeaf 24 = .ok (.lload_n 0, 1) := by decide +kernel
theorem dX0_isGoodLeaf_25 : decode cX0_isGoodLeaf 25 = .ok (.ldc2_w 136, 3) := by decide +kernel
theorem dX0_isGoodLeaf_28 : decode cX0_isGoodLeaf 28 = .ok (.land, 1) := by decide +kernel
theorem dX0_isGoodLeaf_29 : decode cX0_isGoodLeaf 29 = .ok (.ldc2_w 128, 3) := by decide +kernel
theorem dX0_isGoodLeaf_32 : decode cX0_isGoodLeaf 32 = .ok (.lcmp, 1) := by decide +kernel
theorem dX0_isGoodLeaf_33 : decode cX0_isGoodLeaf 33 = .ok (.ifCond .ne 7, 3) := by decide +kernel
theorem dX0_isGoodLeaf_36 : decode cX0_isGoodLeaf 36 = .ok (.iconst 1, 1) := by decide +kernel
theorem dX0_isGoodLeaf_37 : decode cX0_isGoodLeaf 37 = .ok (.goto 4, 3) := by decide +kernel
theorem dX0_isGoodLeaf_40 : decode cX0_isGoodLeaf 40 = .ok (.iconst 0, 1) := by decide +kernel
theorem dX0_isGoodLeaf_41 : decode cX0_isGoodLeaf 41 = .ok (.istore 4, 2) := by decide +kernel
theorem dX0_isGoodLeaf_43 : decode cX0_isGoodLeaf 43 = .ok (.iload_n 2, 1) := by decide +kernel
theorem dX0_isGoodLeaf_44 : decode cX0_isGoodLeaf 44 = .ok (.ifCond .eq 17, 3) := by decide +kernel
theorem dX0_isGoodLeaf_47 : decode cX0_isGoodLeaf 47 = .ok (.lload_n 0, 1) := by decide +kernel
theorem dX0_isGoodLeaf_48 : decode cX0_isGoodLeaf 48 = .ok (.ldc2_w 138, 3) := by decide +kernel
theorem dX0_isGoodLeaf_51 : decode cX0_isGoodLeaf 51 = .ok (.land, 1) := by decide +kernel
theorem dX0_isGoodLeaf_52 : decode cX0_isGoodLeaf 52 = .ok (.lconst 0, 1) := by decide +kernel
theorem dX0_isGoodLeaf_53 : decode cX0_isGoodLeaf 53 = .ok (.lcmp, 1) := by decide +kernel
theorem dX0_isGoodLeaf_54 : decode cX0_isGoodLeaf 54 = .ok (.ifCond .eq 7, 3) := by decide +kernel
theorem dX0_isGoodLeaf_57 : decode cX0_isGoodLeaf 57 = .ok (.iconst 1, 1) := by decide +kernel
theorem dX0_isGoodLeaf_58 : decode cX0_isGoodLeaf 58 = .ok (.goto 4, 3) := by decide +kernel
theorem dX0_isGoodLeaf_61 : decode cX0_isGoodLeaf 61 = .ok (.iconst 0, 1) := by decide +kernel
theorem dX0_isGoodLeaf_62 : decode cX0_isGoodLeaf 62 = .ok (.istore 5, 2) := by decide +kernel
theorem dX0_isGoodLeaf_64 : decode cX0_isGoodLeaf 64 = .ok (.iload_n 3, 1) := by decide +kernel
theorem dX0_isGoodLeaf_65 : decode cX0_isGoodLeaf 65 = .ok (.ifCond .eq 17, 3) := by decide +kernel
theorem dX0_isGoodLeaf_68 : decode cX0_isGoodLeaf 68 = .ok (.iload 4, 2) := by decide +kernel
theorem dX0_isGoodLeaf_70 : decode cX0_isGoodLeaf 70 = .ok (.ifCond .ne 12, 3) := by decide +kernel
theorem dX0_isGoodLeaf_73 : decode cX0_isGoodLeaf 73 = .ok (.iload 5, 2) := by decide +kernel
theorem dX0_isGoodLeaf_75 : decode cX0_isGoodLeaf 75 = .ok (.ifCond .ne 7, 3) := by decide +kernel
theorem dX0_isGoodLeaf_78 : decode cX0_isGoodLeaf 78 = .ok (.iconst 1, 1) := by decide +kernel
theorem dX0_isGoodLeaf_79 : decode cX0_isGoodLeaf 79 = .ok (.goto 4, 3) := by decide +kernel
theorem dX0_isGoodLeaf_82 : decode cX0_isGoodLeaf 82 = .ok (.iconst 0, 1) := by decide +kernel
theorem dX0_isGoodLeaf_83 : decode cX0_isGoodLeaf 83 = .ok (.ireturn, 1) := by decide +kernel
set_option maxRecDepth 20000 in
theorem ggX0_firstAllows_X0_isVirtual : GoodIn wsX0_firstAllows wsX0_isVirtual := goodIn_r _ [5] (by decide +kernel) (by decide +kernel)
set_option maxRecDepth 20000 in
theorem gX0_firstAllows_X0_isVirtual : GoodIn wsX0_firstAllows (va_wsS RX0 72 yX0_isVirtual wsX0_isVirtual) := goodIn_app (goodIn_of _ (by decide +kernel)) ggX0_firstAllows_X0_isVirtual
set_option maxRecDepth 20000 in
theorem ggX0_firstAllows_X0_userBitFits : GoodIn wsX0_firstAllows wsX0_userBitFits := goodIn_r _ [9, 10, 1, 2, 3, 4, 5, 20, 21, 22, 23, 24, 25, 26, 27, 28, 29] (by decide +kernel) (by decide +kernel)
set_option maxRecDepth 20000 in
theorem gX0_firstAllows_X0_userBitFits : GoodIn wsX0_firstAllows (wsV RX0 140 RX0 yX0_userBitFits wsX0_userBitFits) := goodIn_app (goodIn_of _ (by decide +kernel)) ggX0_firstAllows_X0_userBitFits
set_option maxRecDepth 20000 in
theorem ggX0_firstAllows_X0_grants : GoodIn wsX0_firstAllows wsX0_grants := goodIn_r _ [13, 14, 15, 16, 17, 18, 19] (by decide +kernel) (by decide +kernel)
set_option maxRecDepth 20000 in
theorem gX0_firstAllows_X0_grants : GoodIn wsX0_firstAllows (va_wsS RX0 143 yX0_grants wsX0_grants) := goodIn_app (goodIn_of _ (by decide +kernel)) ggX0_firstAllows_X0_grants
theorem dX0_firstAllows_0 : decode cX0_firstAllows 0 = .ok (.iload_n 1, 1) := by decide +kernel
theorem dX0_firstAllows_1 : decode cX0_firstAllows 1 = .ok (.invokestatic 72, 3) := by decide +kernel
theorem dX0_firstAllows_4 : decode cX0_firstAllows 4 = .ok (.ifCond .eq 8, 3) := by decide +kernel
theorem dX0_firstAllows_7 : decode cX0_firstAllows 7 = .ok (.bipush 10, 2) := by decide +kernel
theorem dX0_firstAllows_9 : decode cX0_firstAllows 9 = .ok (.goto 4, 3) := by decide +kernel
theorem dX0_firstAllows_12 : decode cX0_firstAllows 12 = .ok (.iconst 2, 1) := by decide +kernel
theorem dX0_firstAllows_13 : decode cX0_firstAllows 13 = .ok (.istore 5, 2) := by decide +kernel
theorem dX0_firstAllows_15 : decode cX0_firstAllows 15 = .ok (.aload_n 0, 1) := by decide +kernel
theorem dX0_firstAllows_16 : decode cX0_firstAllows 16 = .ok (.iload_n 1, 1) := by decide +kernel
theorem dX0_firstAllows_17 : decode cX0_firstAllows 17 = .ok (.iload_n 2, 1) := by decide +kernel
theorem dX0_firstAllows_18 : decode cX0_firstAllows 18 = .ok (.lload_n 3, 1) := by decide +kernel
theorem dX0_firstAllows_19 : decode cX0_firstAllows 19 = .ok (.invokevirtual 140, 3) := by decide +kernel
theorem dX0_firstAllows_22 : decode cX0_firstAllows 22 = .ok (.ifCond .eq 30, 3) := by decide +kernel
theorem dX0_firstAllows_25 : decode cX0_firstAllows 25 = .ok (.iload_n 2, 1) := by decide +kernel
theorem dX0_firstAllows_26 : decode cX0_firstAllows 26 = .ok (.lload_n 3, 1) := by decide +kernel
theorem dX0_firstAllows_27 : decode cX0_firstAllows 27 = .ok (.aload_n 0, 1) := by decide +kernel
theorem dX0_firstAllows_28 : decode cX0_firstAllows 28 = .ok (.getfield 33, 3) := by decide +kernel
theorem dX0_firstAllows_31 : decode cX0_firstAllows 31 = .ok (.iload 5, 2) := by decide +kernel
theorem dX0_firstAllows_33 : decode cX0_firstAllows 33 = .ok (.iand, 1) := by decide +kernel
theorem dX0_firstAllows_34 : decode cX0_firstAllows 34 = .ok (.ifCond .eq 7, 3) := by decide +kernel
theorem dX0_firstAllows_37 : decode cX0_firstAllows 37 = .ok (.iconst 1, 1) := by decide +kernel
theorem dX0_firstAllows_38 : decode cX0_firstAllows 38 = .ok (.goto 4, 3) := by decide +kernel
theorem dX0_firstAllows_41 : decode cX0_firstAllows 41 = .ok (.iconst 0, 1) := by decide +kernel
theorem dX0_firstAllows_42 : decode cX0_firstAllows 42 = .ok (.invokestatic 143, 3) := by decide +kernel
theorem dX0_firstAllows_45 : decode cX0_firstAllows 45 = .ok (.ifCond .eq 7, 3) := by decide +kernel
theorem dX0_firstAllows_48 : decode cX0_firstAllows 48 = .ok (.iconst 1, 1) := by decide +kernel
theorem dX0_firstAllows_49 : decode cX0_firstAllows 49 = .ok (.goto 4, 3) := by decide +kernel
theorem dX0_firstAllows_52 : decode cX0_firstAllows 52 = .ok (.iconst 0, 1) := by decide +kernel
theorem dX0_firstAllows_53 : decode cX0_firstAllows 53 = .ok (.ireturn, 1) := by decide +kernel
set_option maxRecDepth 20000 in
theorem ggX0_userBitFits_X0_isVirtual : GoodIn wsX0_userBitFits wsX0_isVirtual := goodIn_r _ [6] (by decide +kernel) (by decide +kernel)
set_option maxRecDepth 20000 in
theorem gX0_userBitFits_X0_isVirtual : GoodIn wsX0_userBitFits (va_wsS RX0 72 yX0_isVirtual wsX0_isVirtual) := goodIn_app (goodIn_of _ (by decide +kernel)) ggX0_userBitFits_X0_isVirtual
theorem dX0_userBitFits_0 : decode cX0_userBitFits 0 = .ok (.lload_n 3, 1) := by decide +kernel
theorem dX0_userBitFits_1 : decode cX0_userBitFits 1 = .ok (.ldc2_w 146, 3) := by decide +kernel
theorem dX0_userBitFits_4 : decode cX0_userBitFits 4 = .ok (.land, 1) := by decide +kernel
theorem dX0_userBitFits_5 : decode cX0_userBitFits 5 = .ok (.lconst 0, 1) := by decide +kernel
theorem dX0_userBitFits_6 : decode cX0_userBitFits 6 = .ok (.lcmp, 1) := by decide +kernel
theorem dX0_userBitFits_7 : decode cX0_userBitFits 7 = .ok (.ifCond .eq 7, 3) := by decide +kernel
theorem dX0_userBitFits_10 : decode cX0_userBitFits 10 = .ok (.iconst 1, 1) := by decide +kernel
theorem dX0_userBitFits_11 : decode cX0_userBitFits 11 = .ok (.goto 4, 3) := by decide +kernel
theorem dX0_userBitFits_14 : decode cX0_userBitFits 14 = .ok (.iconst 0, 1) := by decide +kernel
theorem dX0_userBitFits_15 : decode cX0_userBitFits 15 = .ok (.istore 5, 2) := by decide +kernel
theorem dX0_userBitFits_17 : decode cX0_userBitFits 17 = .ok (.iload_n 1, 1) := by decide +kernel
theorem dX0_userBitFits_18 : decode cX0_userBitFits 18 = .ok (.ifCond .eq 8, 3) := by decide +kernel
theorem dX0_userBitFits_21 : decode cX0_userBitFits 21 = .ok (.iload_n 1, 1) := by decide +kernel
theorem dX0_userBitFits_22 : decode cX0_userBitFits 22 = .ok (.iconst 2, 1) := by decide +kernel
theorem dX0_userBitFits_23 : decode cX0_userBitFits 23 = .ok (.if_icmp .ne 6, 3) := by decide +kernel
theorem dX0_userBitFits_26 : decode cX0_userBitFits 26 = .ok (.iload 5, 2) := by decide +kernel
theorem dX0_userBitFits_28 : decode cX0_userBitFits 28 = .ok (.ireturn, 1) := by decide +kernel
theorem dX0_userBitFits_29 : decode cX0_userBitFits 29 = .ok (.iload_n 1, 1) := by decide +kernel
theorem dX0_userBitFits_30 : decode cX0_userBitFits 30 = .ok (.invokestatic 72, 3) := by decide +kernel
theorem dX0_userBitFits_33 : decode cX0_userBitFits 33 = .ok (.ifCond .eq 7, 3) := by decide +kernel
theorem dX0_userBitFits_36 : decode cX0_userBitFits 36 = .ok (.iconst 4, 1) := by decide +kernel
theorem dX0_userBitFits_37 : decode cX0_userBitFits 37 = .ok (.goto 4, 3) := by decide +kernel
theorem dX0_userBitFits_40 : decode cX0_userBitFits 40 = .ok (.iconst 1, 1) := by decide +kernel
theorem dX0_userBitFits_41 : decode cX0_userBitFits 41 = .ok (.istore 6, 2) := by decide +kernel
theorem dX0_userBitFits_43 : decode cX0_userBitFits 43 = .ok (.iload 5, 2) := by decide +kernel
theorem dX0_userBitFits_45 : decode cX0_userBitFits 45 = .ok (.ifCond .eq 17, 3) := by decide +kernel
theorem dX0_userBitFits_48 : decode cX0_userBitFits 48 = .ok (.iload_n 2, 1) := by decide +kernel
theorem dX0_userBitFits_49 : decode cX0_userBitFits 49 = .ok (.ifCond .eq 17, 3) := by decide +kernel
theorem dX0_userBitFits_52 : decode cX0_userBitFits 52 = .ok (.aload_n 0, 1) := by decide +kernel
theorem dX0_userBitFits_53 : decode cX0_userBitFits 53 = .ok (.getfield 33, 3) := by decide +kernel
theorem dX0_userBitFits_56 : decode cX0_userBitFits 56 = .ok (.iload 6, 2) := by decide +kernel
theorem dX0_userBitFits_58 : decode cX0_userBitFits 58 = .ok (.iand, 1) := by decide +kernel
theorem dX0_userBitFits_59 : decode cX0_userBitFits 59 = .ok (.ifCond .eq 7, 3) := by decide +kernel
theorem dX0_userBitFits_62 : decode cX0_userBitFits 62 = .ok (.iconst 1, 1) := by decide +kernel
theorem dX0_userBitFits_63 : decode cX0_userBitFits 63 = .ok (.goto 4, 3) := by decide +kernel
theorem dX0_userBitFits_66 : decode cX0_userBitFits 66 = .ok (.iconst 0, 1) := by decide +kernel
theorem dX0_userBitFits_67 : decode cX0_userBitFits 67 = .ok (.ireturn, 1) := by decide +kernel
set_option maxRecDepth 20000 in
theorem ggX0_secondAllows_X0_grants : GoodIn wsX0_secondAllows wsX0_grants := goodIn_r _ [6, 7, 8, 9, 10, 11, 12] (by decide +kernel) (by decide +kernel)
set_option maxRecDepth 20000 in
theorem gX0_secondAllows_X0_grants : GoodIn wsX0_secondAllows (va_wsS RX0 143 yX0_grants wsX0_grants) := goodIn_app (goodIn_of _ (by decide +kernel)) ggX0_secondAllows_X0_grants
theorem dX0_secondAllows_0 : decode cX0_secondAllows 0 = .ok (.iload 4, 2) := by decide +kernel
theorem dX0_secondAllows_2 : decode cX0_secondAllows 2 = .ok (.ifCond .ne 16, 3) := by decide +kernel
theorem dX0_secondAllows_5 : decode cX0_secondAllows 5 = .ok (.aload_n 0, 1) := by decide +kernel
theorem dX0_secondAllows_6 : decode cX0_secondAllows 6 = .ok (.getfield 33, 3) := by decide +kernel
theorem dX0_secondAllows_9 : decode cX0_secondAllows 9 = .ok (.iconst 2, 1) := by decide +kernel
theorem dX0_secondAllows_10 : decode cX0_secondAllows 10 = .ok (.iand, 1) := by decide +kernel
theorem dX0_secondAllows_11 : decode cX0_secondAllows 11 = .ok (.ifCond .eq 7, 3) := by decide +kernel
theorem dX0_secondAllows_14 : decode cX0_secondAllows 14 = .ok (.iconst 1, 1) := by decide +kernel
theorem dX0_secondAllows_15 : decode cX0_secondAllows 15 = .ok (.goto 4, 3) := by decide +kernel
theorem dX0_secondAllows_18 : decode cX0_secondAllows 18 = .ok (.iconst 0, 1) := by decide +kernel
theorem dX0_secondAllows_19 : decode cX0_secondAllows 19 = .ok (.istore 5, 2) := by decide +kernel
theorem dX0_secondAllows_21 : decode cX0_secondAllows 21 = .ok (.lload_n 2, 1) := by decide +kernel
theorem dX0_secondAllows_22 : decode cX0_secondAllows 22 = .ok (.ldc2_w 146, 3) := by decide +kernel
theorem dX0_secondAllows_25 : decode cX0_secondAllows 25 = .ok (.land, 1) := by decide +kernel
theorem dX0_secondAllows_26 : decode cX0_secondAllows 26 = .ok (.lconst 0, 1) := by decide +kernel
theorem dX0_secondAllows_27 : decode cX0_secondAllows 27 = .ok (.lcmp, 1) := by decide +kernel
theorem dX0_secondAllows_28 : decode cX0_secondAllows 28 = .ok (.ifCond .eq 26, 3) := by decide +kernel
theorem dX0_secondAllows_31 : decode cX0_secondAllows 31 = .ok (.iload 4, 2) := by decide +kernel
theorem dX0_secondAllows_33 : decode cX0_secondAllows 33 = .ok (.ifCond .eq 7, 3) := by decide +kernel
theorem dX0_secondAllows_36 : decode cX0_secondAllows 36 = .ok (.iconst 1, 1) := by decide +kernel
theorem dX0_secondAllows_37 : decode cX0_secondAllows 37 = .ok (.goto 4, 3) := by decide +kernel
theorem dX0_secondAllows_40 : decode cX0_secondAllows 40 = .ok (.iload_n 1, 1) := by decide +kernel
theorem dX0_secondAllows_41 : decode cX0_secondAllows 41 = .ok (.lload_n 2, 1) := by decide +kernel
theorem dX0_secondAllows_42 : decode cX0_secondAllows 42 = .ok (.iload 5, 2) := by decide +kernel
theorem dX0_secondAllows_44 : decode cX0_secondAllows 44 = .ok (.invokestatic 143, 3) := by decide +kernel
theorem dX0_secondAllows_47 : decode cX0_secondAllows 47 = .ok (.ifCond .eq 7, 3) := by decide +kernel
theorem dX0_secondAllows_50 : decode cX0_secondAllows 50 = .ok (.iconst 1, 1) := by decide +kernel
theorem dX0_secondAllows_51 : decode cX0_secondAllows 51 = .ok (.goto 4, 3) := by decide +kernel
theorem dX0_secondAllows_54 : decode cX0_secondAllows 54 = .ok (.iconst 0, 1) := by decide +kernel
theorem dX0_secondAllows_55 : decode cX0_secondAllows 55 = .ok (.ireturn, 1) := by decide +kernel
theorem dX0_grants_0 : decode cX0_grants 0 = .ok (.lload_n 1, 1) := by decide +kernel
theorem dX0_grants_1 : decode cX0_grants 1 = .ok (.ldc2_w 148, 3) := by decide +kernel
theorem dX0_grants_4 : decode cX0_grants 4 = .ok (.land, 1) := by decide +kernel
theorem dX0_grants_5 : decode cX0_grants 5 = .ok (.lconst 0, 1) := by decide +kernel
theorem dX0_grants_6 : decode cX0_grants 6 = .ok (.lcmp, 1) := by decide +kernel
theorem dX0_grants_7 : decode cX0_grants 7 = .ok (.ifCond .ne 5, 3) := by decide +kernel
theorem dX0_grants_10 : decode cX0_grants 10 = .ok (.iconst 0, 1) := by decide +kernel
theorem dX0_grants_11 : decode cX0_grants 11 = .ok (.ireturn, 1) := by decide +kernel
theorem dX0_grants_12 : decode cX0_grants 12 = .ok (.iload_n 0, 1) := by decide +kernel
theorem dX0_grants_13 : decode cX0_grants 13 = .ok (.iconst 2, 1) := by decide +kernel
theorem dX0_grants_14 : decode cX0_grants 14 = .ok (.if_icmp .ne 29, 3) := by decide +kernel
theorem dX0_grants_17 : decode cX0_grants 17 = .ok (.lload_n 1, 1) := by decide +kernel
theorem dX0_grants_18 : decode cX0_grants 18 = .ok (.ldc2_w 128, 3) := by decide +kernel
theorem dX0_grants_21 : decode cX0_grants 21 = .ok (.land, 1) := by decide +kernel
theorem dX0_grants_22 : decode cX0_grants 22 = .ok (.lconst 0, 1) := by decide +kernel
theorem dX0_grants_23 : decode cX0_grants 23 = .ok (.lcmp, 1) := by decide +kernel
theorem dX0_grants_24 : decode cX0_grants 24 = .ok (.ifCond .eq 17, 3) := by decide +kernel
theorem dX0_grants_27 : decode cX0_grants 27 = .ok (.lload_n 1, 1) := by decide +kernel
theorem dX0_grants_28 : decode cX0_grants 28 = .ok (.ldc2_w 150, 3) := by decide +kernel
theorem dX0_grants_31 : decode cX0_grants 31 = .ok (.land, 1) := by decide +kernel
theorem dX0_grants_32 : decode cX0_grants 32 = .ok (.lconst 0, 1) := by decide +kernel
theorem dX0_grants_33 : decode cX0_grants 33 = .ok (.lcmp, 1) := by decide +kernel
theorem dX0_grants_34 : decode cX0_grants 34 = .ok (.ifCond .eq 7, 3) := by decide +kernel
theorem dX0_grants_37 : decode cX0_grants 37 = .ok (.iconst 1, 1) := by decide +kernel
theorem dX0_grants_38 : decode cX0_grants 38 = .ok (.goto 4, 3) := by decide +kernel
theorem dX0_grants_41 : decode cX0_grants 41 = .ok (.iconst 0, 1) := by decide +kernel
theorem dX0_grants_42 : decode cX0_grants 42 = .ok (.ireturn, 1) := by decide +kernel
theorem dX0_grants_43 : decode cX0_grants 43 = .ok (.iload_n 0, 1) := by decide +kernel
theorem dX0_grants_44 : decode cX0_grants 44 = .ok (.iconst 1, 1) := by decide +kernel
theorem dX0_grants_45 : decode cX0_grants 45 = .ok (.if_icmp .ne 29, 3) := by decide +kernel
theorem dX0_grants_48 : decode cX0_grants 48 = .ok (.lload_n 1, 1) := by decide +kernel
theorem dX0_grants_49 : decode cX0_grants 49 = .ok (.iload_n 3, 1) := by decide +kernel
theorem dX0_grants_50 : decode cX0_grants 50 = .ok (.ifCond .eq 9, 3) := by decide +kernel
theorem dX0_grants_53 : decode cX0_grants 53 = .ok (.ldc2_w 152, 3) := by decide +kernel
theorem dX0_grants_56 : decode cX0_grants 56 = .ok (.goto 6, 3) := by decide +kernel
theorem dX0_grants_59 : decode cX0_grants 59 = .ok (.ldc2_w 154, 3) := by decide +kernel
theorem dX0_grants_62 : decode cX0_grants 62 = .ok (.land, 1) := by decide +kernel
theorem dX0_grants_63 : decode cX0_grants 63 = .ok (.lconst 0, 1) := by decide +kernel
theorem dX0_grants_64 : decode cX0_grants 64 = .ok (.lcmp, 1) := by decide +kernel
theorem dX0_grants_65 : decode cX0_grants 65 = .ok (.ifCond .eq 7, 3) := by decide +kernel
theorem dX0_grants_68 : decode cX0_grants 68 = .ok (.iconst 1, 1) := by decide +kernel
theorem dX0_grants_69 : decode cX0_grants 69 = .ok (.goto 4, 3) := by decide +kernel
theorem dX0_grants_72 : decode cX0_grants 72 = .ok (.iconst 0, 1) := by decide +kernel
theorem dX0_grants_73 : decode cX0_grants 73 = .ok (.ireturn, 1) := by decide +kernel
theorem dX0_grants_74 : decode cX0_grants 74 = .ok (.lload_n 1, 1) := by decide +kernel
theorem dX0_grants_75 : decode cX0_grants 75 = .ok (.ldc2_w 156, 3) := by decide +kernel
theorem dX0_grants_78 : decode cX0_grants 78 = .ok (.land, 1) := by decide +kernel
theorem dX0_grants_79 : decode cX0_grants 79 = .ok (.lconst 0, 1) := by decide +kernel
theorem dX0_grants_80 : decode cX0_grants 80 = .ok (.lcmp, 1) := by decide +kernel
theorem dX0_grants_81 : decode cX0_grants 81 = .ok (.ifCond .eq 7, 3) := by decide +kernel
theorem dX0_grants_84 : decode cX0_grants 84 = .ok (.iconst 1, 1) := by decide +kernel
theorem dX0_grants_85 : decode cX0_grants 85 = .ok (.goto 4, 3) := by decide +kernel
theorem dX0_grants_88 : decode cX0_grants 88 = .ok (.iconst 0, 1) := by decide +kernel
theorem dX0_grants_89 : decode cX0_grants 89 = .ok (.ireturn, 1) := by decide +kernel
theorem dX0_result_0 : decode cX0_result 0 = .ok (.iload_n 2, 1) := by decide +kernel
theorem dX0_result_1 : decode cX0_result 1 = .ok (.ifCond .eq 9, 3) := by decide +kernel
theorem dX0_result_4 : decode cX0_result 4 = .ok (.ldc2_w 158, 3) := by decide +kernel
theorem dX0_result_7 : decode cX0_result 7 = .ok (.goto 6, 3) := by decide +kernel
theorem dX0_result_10 : decode cX0_result 10 = .ok (.ldc2_w 160, 3) := by decide +kernel
theorem dX0_result_13 : decode cX0_result 13 = .ok (.lstore 5, 2) := by decide +kernel
theorem dX0_result_15 : decode cX0_result 15 = .ok (.lload_n 0, 1) := by decide +kernel
theorem dX0_result_16 : decode cX0_result 16 = .ok (.bipush 10, 2) := by decide +kernel
theorem dX0_result_18 : decode cX0_result 18 = .ok (.lushr, 1) := by decide +kernel
theorem dX0_result_19 : decode cX0_result 19 = .ok (.ldc2_w 69, 3) := by decide +kernel
theorem dX0_result_22 : decode cX0_result 22 = .ok (.lmul, 1) := by decide +kernel
theorem dX0_result_23 : decode cX0_result 23 = .ok (.lload 5, 2) := by decide +kernel
theorem dX0_result_25 : decode cX0_result 25 = .ok (.ldc2_w 162, 3) := by decide +kernel
theorem dX0_result_28 : decode cX0_result 28 = .ok (.lxor, 1) := by decide +kernel
theorem dX0_result_29 : decode cX0_result 29 = .ok (.land, 1) := by decide +kernel
theorem dX0_result_30 : decode cX0_result 30 = .ok (.lload_n 3, 1) := by decide +kernel
theorem dX0_result_31 : decode cX0_result 31 = .ok (.lload 5, 2) := by decide +kernel
theorem dX0_result_33 : decode cX0_result 33 = .ok (.land, 1) := by decide +kernel
theorem dX0_result_34 : decode cX0_result 34 = .ok (.lor, 1) := by decide +kernel
theorem dX0_result_35 : decode cX0_result 35 = .ok (.lreturn, 1) := by decide +kernel
theorem dX0_noMemory_0 : decode cX0_noMemory 0 = .ok (.iload_n 0, 1) := by decide +kernel
theorem dX0_noMemory_1 : decode cX0_noMemory 1 = .ok (.ifCond .ne 9, 3) := by decide +kernel
theorem dX0_noMemory_4 : decode cX0_noMemory 4 = .ok (.ldc2_w 162, 3) := by decide +kernel
theorem dX0_noMemory_7 : decode cX0_noMemory 7 = .ok (.goto 17, 3) := by decide +kernel
theorem dX0_noMemory_10 : decode cX0_noMemory 10 = .ok (.iload_n 0, 1) := by decide +kernel
theorem dX0_noMemory_11 : decode cX0_noMemory 11 = .ok (.iconst 2, 1) := by decide +kernel
theorem dX0_noMemory_12 : decode cX0_noMemory 12 = .ok (.if_icmp .ne 9, 3) := by decide +kernel
theorem dX0_noMemory_15 : decode cX0_noMemory 15 = .ok (.ldc2_w 164, 3) := by decide +kernel
theorem dX0_noMemory_18 : decode cX0_noMemory 18 = .ok (.goto 6, 3) := by decide +kernel
theorem dX0_noMemory_21 : decode cX0_noMemory 21 = .ok (.ldc2_w 166, 3) := by decide +kernel
theorem dX0_noMemory_24 : decode cX0_noMemory 24 = .ok (.lreturn, 1) := by decide +kernel
theorem dX0_firstFault_0 : decode cX0_firstFault 0 = .ok (.iload_n 0, 1) := by decide +kernel
theorem dX0_firstFault_1 : decode cX0_firstFault 1 = .ok (.ifCond .ne 9, 3) := by decide +kernel
theorem dX0_firstFault_4 : decode cX0_firstFault 4 = .ok (.ldc2_w 168, 3) := by decide +kernel
theorem dX0_firstFault_7 : decode cX0_firstFault 7 = .ok (.goto 17, 3) := by decide +kernel
theorem dX0_firstFault_10 : decode cX0_firstFault 10 = .ok (.iload_n 0, 1) := by decide +kernel
theorem dX0_firstFault_11 : decode cX0_firstFault 11 = .ok (.iconst 2, 1) := by decide +kernel
theorem dX0_firstFault_12 : decode cX0_firstFault 12 = .ok (.if_icmp .ne 9, 3) := by decide +kernel
theorem dX0_firstFault_15 : decode cX0_firstFault 15 = .ok (.ldc2_w 170, 3) := by decide +kernel
theorem dX0_firstFault_18 : decode cX0_firstFault 18 = .ok (.goto 6, 3) := by decide +kernel
theorem dX0_firstFault_21 : decode cX0_firstFault 21 = .ok (.ldc2_w 172, 3) := by decide +kernel
theorem dX0_firstFault_24 : decode cX0_firstFault 24 = .ok (.lreturn, 1) := by decide +kernel
theorem dX0_secondFault_0 : decode cX0_secondFault 0 = .ok (.iload_n 0, 1) := by decide +kernel
theorem dX0_secondFault_1 : decode cX0_secondFault 1 = .ok (.ifCond .ne 9, 3) := by decide +kernel
theorem dX0_secondFault_4 : decode cX0_secondFault 4 = .ok (.ldc2_w 174, 3) := by decide +kernel
theorem dX0_secondFault_7 : decode cX0_secondFault 7 = .ok (.goto 17, 3) := by decide +kernel
theorem dX0_secondFault_10 : decode cX0_secondFault 10 = .ok (.iload_n 0, 1) := by decide +kernel
theorem dX0_secondFault_11 : decode cX0_secondFault 11 = .ok (.iconst 2, 1) := by decide +kernel
theorem dX0_secondFault_12 : decode cX0_secondFault 12 = .ok (.if_icmp .ne 9, 3) := by decide +kernel
theorem dX0_secondFault_15 : decode cX0_secondFault 15 = .ok (.ldc2_w 176, 3) := by decide +kernel
theorem dX0_secondFault_18 : decode cX0_secondFault 18 = .ok (.goto 6, 3) := by decide +kernel
theorem dX0_secondFault_21 : decode cX0_secondFault 21 = .ok (.ldc2_w 178, 3) := by decide +kernel
theorem dX0_secondFault_24 : decode cX0_secondFault 24 = .ok (.lreturn, 1) := by decide +kernel
theorem dX1_init_0 : decode cX1_init 0 = .ok (.aload_n 0, 1) := by decide +kernel
theorem dX1_init_1 : decode cX1_init 1 = .ok (.invokespecial 1, 3) := by decide +kernel
theorem dX1_init_4 : decode cX1_init 4 = .ok (.aload_n 0, 1) := by decide +kernel
theorem dX1_init_5 : decode cX1_init 5 = .ok (.ldc 7, 2) := by decide +kernel
theorem dX1_init_7 : decode cX1_init 7 = .ok (.newarray .int, 2) := by decide +kernel
theorem dX1_init_9 : decode cX1_init 9 = .ok (.putfield 8, 3) := by decide +kernel
theorem dX1_init_12 : decode cX1_init 12 = .ok (.aload_n 0, 1) := by decide +kernel
theorem dX1_init_13 : decode cX1_init 13 = .ok (.iconst (-1), 1) := by decide +kernel
theorem dX1_init_14 : decode cX1_init 14 = .ok (.putfield 14, 3) := by decide +kernel
theorem dX1_init_17 : decode cX1_init 17 = .ok (.return_, 1) := by decide +kernel
theorem dX1_begin_0 : decode cX1_begin 0 = .ok (.iconst 0, 1) := by decide +kernel
theorem dX1_begin_1 : decode cX1_begin 1 = .ok (.istore_n 1, 1) := by decide +kernel
theorem dX1_begin_2 : decode cX1_begin 2 = .ok (.iload_n 1, 1) := by decide +kernel
theorem dX1_begin_3 : decode cX1_begin 3 = .ok (.ldc 7, 2) := by decide +kernel
theorem dX1_begin_5 : decode cX1_begin 5 = .ok (.if_icmp .ge 16, 3) := by decide +kernel
theorem dX1_begin_8 : decode cX1_begin 8 = .ok (.aload_n 0, 1) := by decide +kernel
theorem dX1_begin_9 : decode cX1_begin 9 = .ok (.getfield 8, 3) := by decide +kernel
theorem dX1_begin_12 : decode cX1_begin 12 = .ok (.iload_n 1, 1) := by decide +kernel
theorem dX1_begin_13 : decode cX1_begin 13 = .ok (.iconst 0, 1) := by decide +kernel
theorem dX1_begin_14 : decode cX1_begin 14 = .ok (.iastore, 1) := by decide +kernel
theorem dX1_begin_15 : decode cX1_begin 15 = .ok (.iinc 1 1, 3) := by decide +kernel
theorem dX1_begin_18 : decode cX1_begin 18 = .ok (.goto (-16), 3) := by decide +kernel
theorem dX1_begin_21 : decode cX1_begin 21 = .ok (.aload_n 0, 1) := by decide +kernel
theorem dX1_begin_22 : decode cX1_begin 22 = .ok (.iconst 0, 1) := by decide +kernel
theorem dX1_begin_23 : decode cX1_begin 23 = .ok (.putfield 18, 3) := by decide +kernel
theorem dX1_begin_26 : decode cX1_begin 26 = .ok (.aload_n 0, 1) := by decide +kernel
theorem dX1_begin_27 : decode cX1_begin 27 = .ok (.iconst 0, 1) := by decide +kernel
theorem dX1_begin_28 : decode cX1_begin 28 = .ok (.putfield 21, 3) := by decide +kernel
theorem dX1_begin_31 : decode cX1_begin 31 = .ok (.aload_n 0, 1) := by decide +kernel
theorem dX1_begin_32 : decode cX1_begin 32 = .ok (.iconst 0, 1) := by decide +kernel
theorem dX1_begin_33 : decode cX1_begin 33 = .ok (.putfield 24, 3) := by decide +kernel
theorem dX1_begin_36 : decode cX1_begin 36 = .ok (.aload_n 0, 1) := by decide +kernel
theorem dX1_begin_37 : decode cX1_begin 37 = .ok (.iconst 0, 1) := by decide +kernel
theorem dX1_begin_38 : decode cX1_begin 38 = .ok (.putfield 27, 3) := by decide +kernel
theorem dX1_begin_41 : decode cX1_begin 41 = .ok (.aload_n 0, 1) := by decide +kernel
theorem dX1_begin_42 : decode cX1_begin 42 = .ok (.iconst (-1), 1) := by decide +kernel
theorem dX1_begin_43 : decode cX1_begin 43 = .ok (.putfield 14, 3) := by decide +kernel
theorem dX1_begin_46 : decode cX1_begin 46 = .ok (.return_, 1) := by decide +kernel
theorem dX1_poke_0 : decode cX1_poke 0 = .ok (.iload_n 1, 1) := by decide +kernel
theorem dX1_poke_1 : decode cX1_poke 1 = .ok (.ifCond .lt 15, 3) := by decide +kernel
theorem dX1_poke_4 : decode cX1_poke 4 = .ok (.iload_n 1, 1) := by decide +kernel
theorem dX1_poke_5 : decode cX1_poke 5 = .ok (.iconst 4, 1) := by decide +kernel
theorem dX1_poke_6 : decode cX1_poke 6 = .ok (.irem, 1) := by decide +kernel
theorem dX1_poke_7 : decode cX1_poke 7 = .ok (.ifCond .ne 9, 3) := by decide +kernel
theorem dX1_poke_10 : decode cX1_poke 10 = .ok (.iload_n 1, 1) := by decide +kernel
theorem dX1_poke_11 : decode cX1_poke 11 = .ok (.ldc 30, 2) := by decide +kernel
theorem dX1_poke_13 : decode cX1_poke 13 = .ok (.if_icmp .le 5, 3) := by decide +kernel
theorem dX1_poke_16 : decode cX1_poke 16 = .ok (.iconst (-1), 1) := by decide +kernel
theorem dX1_poke_17 : decode cX1_poke 17 = .ok (.ireturn, 1) := by decide +kernel
theorem dX1_poke_18 : decode cX1_poke 18 = .ok (.iload_n 1, 1) := by decide +kernel
theorem dX1_poke_19 : decode cX1_poke 19 = .ok (.iconst 4, 1) := by decide +kernel
theorem dX1_poke_20 : decode cX1_poke 20 = .ok (.idiv, 1) := by decide +kernel
theorem dX1_poke_21 : decode cX1_poke 21 = .ok (.istore 7, 2) := by decide +kernel
theorem dX1_poke_23 : decode cX1_poke 23 = .ok (.aload_n 0, 1) := by decide +kernel
theorem dX1_poke_24 : decode cX1_poke 24 = .ok (.getfield 8, 3) := by decide +kernel
theorem dX1_poke_27 : decode cX1_poke 27 = .ok (.iload 7, 2) := by decide +kernel
theorem dX1_poke_29 : decode cX1_poke 29 = .ok (.iload_n 2, 1) := by decide +kernel
theorem dX1_poke_30 : decode cX1_poke 30 = .ok (.iastore, 1) := by decide +kernel
theorem dX1_poke_31 : decode cX1_poke 31 = .ok (.aload_n 0, 1) := by decide +kernel
theorem dX1_poke_32 : decode cX1_poke 32 = .ok (.getfield 8, 3) := by decide +kernel
theorem dX1_poke_35 : decode cX1_poke 35 = .ok (.iload 7, 2) := by decide +kernel
theorem dX1_poke_37 : decode cX1_poke 37 = .ok (.iconst 1, 1) := by decide +kernel
theorem dX1_poke_38 : decode cX1_poke 38 = .ok (.iadd, 1) := by decide +kernel
theorem dX1_poke_39 : decode cX1_poke 39 = .ok (.iload_n 3, 1) := by decide +kernel
theorem dX1_poke_40 : decode cX1_poke 40 = .ok (.iastore, 1) := by decide +kernel
theorem dX1_poke_41 : decode cX1_poke 41 = .ok (.aload_n 0, 1) := by decide +kernel
theorem dX1_poke_42 : decode cX1_poke 42 = .ok (.getfield 8, 3) := by decide +kernel
theorem dX1_poke_45 : decode cX1_poke 45 = .ok (.iload 7, 2) := by decide +kernel
theorem dX1_poke_47 : decode cX1_poke 47 = .ok (.iconst 2, 1) := by decide +kernel
theorem dX1_poke_48 : decode cX1_poke 48 = .ok (.iadd, 1) := by decide +kernel
theorem dX1_poke_49 : decode cX1_poke 49 = .ok (.iload 4, 2) := by decide +kernel
theorem dX1_poke_51 : decode cX1_poke 51 = .ok (.iastore, 1) := by decide +kernel
theorem dX1_poke_52 : decode cX1_poke 52 = .ok (.aload_n 0, 1) := by decide +kernel
theorem dX1_poke_53 : decode cX1_poke 53 = .ok (.getfield 8, 3) := by decide +kernel
theorem dX1_poke_56 : decode cX1_poke 56 = .ok (.iload 7, 2) := by decide +kernel
theorem dX1_poke_58 : decode cX1_poke 58 = .ok (.iconst 3, 1) := by decide +kernel
theorem dX1_poke_59 : decode cX1_poke 59 = .ok (.iadd, 1) := by decide +kernel
theorem dX1_poke_60 : decode cX1_poke 60 = .ok (.iload 5, 2) := by decide +kernel
theorem dX1_poke_62 : decode cX1_poke 62 = .ok (.iastore, 1) := by decide +kernel
theorem dX1_poke_63 : decode cX1_poke 63 = .ok (.aload_n 0, 1) := by decide +kernel
theorem dX1_poke_64 : decode cX1_poke 64 = .ok (.getfield 8, 3) := by decide +kernel
theorem dX1_poke_67 : decode cX1_poke 67 = .ok (.iload 7, 2) := by decide +kernel
theorem dX1_poke_69 : decode cX1_poke 69 = .ok (.iconst 4, 1) := by decide +kernel
theorem dX1_poke_70 : decode cX1_poke 70 = .ok (.iadd, 1) := by decide +kernel
theorem dX1_poke_71 : decode cX1_poke 71 = .ok (.iload 6, 2) := by decide +kernel
theorem dX1_poke_73 : decode cX1_poke 73 = .ok (.iastore, 1) := by decide +kernel
theorem dX1_poke_74 : decode cX1_poke 74 = .ok (.iload_n 1, 1) := by decide +kernel
theorem dX1_poke_75 : decode cX1_poke 75 = .ok (.bipush 20, 2) := by decide +kernel
theorem dX1_poke_77 : decode cX1_poke 77 = .ok (.iadd, 1) := by decide +kernel
theorem dX1_poke_78 : decode cX1_poke 78 = .ok (.ireturn, 1) := by decide +kernel
theorem dX1_word_0 : decode cX1_word 0 = .ok (.iload_n 1, 1) := by decide +kernel
theorem dX1_word_1 : decode cX1_word 1 = .ok (.ifCond .lt 26, 3) := by decide +kernel
theorem dX1_word_4 : decode cX1_word 4 = .ok (.iload_n 1, 1) := by decide +kernel
theorem dX1_word_5 : decode cX1_word 5 = .ok (.ldc 31, 2) := by decide +kernel
theorem dX1_word_7 : decode cX1_word 7 = .ok (.if_icmp .ge 20, 3) := by decide +kernel
theorem dX1_word_10 : decode cX1_word 10 = .ok (.iload_n 1, 1) := by decide +kernel
theorem dX1_word_11 : decode cX1_word 11 = .ok (.iconst 4, 1) := by decide +kernel
theorem dX1_word_12 : decode cX1_word 12 = .ok (.irem, 1) := by decide +kernel
theorem dX1_word_13 : decode cX1_word 13 = .ok (.ifCond .ne 14, 3) := by decide +kernel
theorem dX1_word_16 : decode cX1_word 16 = .ok (.aload_n 0, 1) := by decide +kernel
theorem dX1_word_17 : decode cX1_word 17 = .ok (.getfield 8, 3) := by decide +kernel
theorem dX1_word_20 : decode cX1_word 20 = .ok (.iload_n 1, 1) := by decide +kernel
theorem dX1_word_21 : decode cX1_word 21 = .ok (.iconst 4, 1) := by decide +kernel
theorem dX1_word_22 : decode cX1_word 22 = .ok (.idiv, 1) := by decide +kernel
theorem dX1_word_23 : decode cX1_word 23 = .ok (.iaload, 1) := by decide +kernel
theorem dX1_word_24 : decode cX1_word 24 = .ok (.goto 4, 3) := by decide +kernel
theorem dX1_word_27 : decode cX1_word 27 = .ok (.iconst 0, 1) := by decide +kernel
theorem dX1_word_28 : decode cX1_word 28 = .ok (.ireturn, 1) := by decide +kernel
theorem dX1_roots_0 : decode cX1_roots 0 = .ok (.aload_n 0, 1) := by decide +kernel
theorem dX1_roots_1 : decode cX1_roots 1 = .ok (.iload_n 1, 1) := by decide +kernel
theorem dX1_roots_2 : decode cX1_roots 2 = .ok (.putfield 18, 3) := by decide +kernel
theorem dX1_roots_5 : decode cX1_roots 5 = .ok (.aload_n 0, 1) := by decide +kernel
theorem dX1_roots_6 : decode cX1_roots 6 = .ok (.iload_n 2, 1) := by decide +kernel
theorem dX1_roots_7 : decode cX1_roots 7 = .ok (.putfield 21, 3) := by decide +kernel
theorem dX1_roots_10 : decode cX1_roots 10 = .ok (.aload_n 0, 1) := by decide +kernel
theorem dX1_roots_11 : decode cX1_roots 11 = .ok (.iload_n 3, 1) := by decide +kernel
theorem dX1_roots_12 : decode cX1_roots 12 = .ok (.putfield 24, 3) := by decide +kernel
theorem dX1_roots_15 : decode cX1_roots 15 = .ok (.return_, 1) := by decide +kernel
theorem dJ7_fill_53178_0 : decode cJ7_fill_53178 0 = .ok (.iconst 0, 1) := by decide +kernel
theorem dJ7_fill_53178_1 : decode cJ7_fill_53178 1 = .ok (.istore_n 2, 1) := by decide +kernel
theorem dJ7_fill_53178_2 : decode cJ7_fill_53178 2 = .ok (.aload_n 0, 1) := by decide +kernel
theorem dJ7_fill_53178_3 : decode cJ7_fill_53178 3 = .ok (.arraylength, 1) := by decide +kernel
theorem dJ7_fill_53178_4 : decode cJ7_fill_53178 4 = .ok (.istore_n 3, 1) := by decide +kernel
theorem dJ7_fill_53178_5 : decode cJ7_fill_53178 5 = .ok (.iload_n 2, 1) := by decide +kernel
theorem dJ7_fill_53178_6 : decode cJ7_fill_53178 6 = .ok (.iload_n 3, 1) := by decide +kernel
theorem dJ7_fill_53178_7 : decode cJ7_fill_53178 7 = .ok (.if_icmp .ge 13, 3) := by decide +kernel
theorem dJ7_fill_53178_10 : decode cJ7_fill_53178 10 = .ok (.aload_n 0, 1) := by decide +kernel
theorem dJ7_fill_53178_11 : decode cJ7_fill_53178 11 = .ok (.iload_n 2, 1) := by decide +kernel
theorem dJ7_fill_53178_12 : decode cJ7_fill_53178 12 = .ok (.iload_n 1, 1) := by decide +kernel
theorem dJ7_fill_53178_13 : decode cJ7_fill_53178 13 = .ok (.iastore, 1) := by decide +kernel
theorem dJ7_fill_53178_14 : decode cJ7_fill_53178 14 = .ok (.iinc 2 1, 3) := by decide +kernel
theorem dJ7_fill_53178_17 : decode cJ7_fill_53178 17 = .ok (.goto (-12), 3) := by decide +kernel
theorem dJ7_fill_53178_20 : decode cJ7_fill_53178 20 = .ok (.return_, 1) := by decide +kernel
set_option maxRecDepth 20000 in
theorem ggL_law_X0_init : GoodIn wsL_law wsX0_init := goodIn_r _ [8, 9, 10, 11, 12, 13, 14, 15, 195, 196, 197, 198, 199, 200, 201, 202, 203, 204] (by decide +kernel) (by decide +kernel)
set_option maxRecDepth 20000 in
theorem gL_law_X0_init : GoodIn wsL_law (wsX0_init) := ggL_law_X0_init
set_option maxRecDepth 20000 in
theorem ggL_law_X1_init : GoodIn wsL_law wsX1_init := goodIn_r _ [18, 19, 10, 11, 20, 13, 21, 22, 205, 206, 207, 208, 209, 210, 211, 212, 213] (by decide +kernel) (by decide +kernel)
set_option maxRecDepth 20000 in
theorem gL_law_X1_init : GoodIn wsL_law (wsX1_init) := ggL_law_X1_init
set_option maxRecDepth 20000 in
theorem ggL_law_X0_begin : GoodIn wsL_law wsX0_begin := goodIn_r _ [26, 14, 27, 28, 29, 30, 15, 31, 32, 33, 34, 35, 36, 195, 196, 197, 198, 199, 200, 201, 202, 203, 204] (by decide +kernel) (by decide +kernel)
set_option maxRecDepth 20000 in
theorem gL_law_X0_begin : GoodIn wsL_law (wsV RL 13 RX0 yX0_begin wsX0_begin) := goodIn_app (goodIn_of _ (by decide +kernel)) ggL_law_X0_begin
set_option maxRecDepth 20000 in
theorem ggL_law_X1_begin : GoodIn wsL_law wsX1_begin := goodIn_r _ [40, 20, 21, 41, 42, 43, 44, 22, 205, 206, 207, 208, 209, 210, 211, 212, 213] (by decide +kernel) (by decide +kernel)
set_option maxRecDepth 20000 in
theorem gL_law_X1_begin : GoodIn wsL_law (wsV RL 16 RX1 yX1_begin wsX1_begin) := goodIn_app (goodIn_of _ (by decide +kernel)) ggL_law_X1_begin
set_option maxRecDepth 20000 in
theorem ggL_law_X0_poke : GoodIn wsL_law wsX0_poke := goodIn_r _ [48, 49, 14, 50, 51, 2, 52, 53, 195, 196, 197, 198, 199, 200, 201, 202, 203, 204] (by decide +kernel) (by decide +kernel)
set_option maxRecDepth 20000 in
theorem gL_law_X0_poke : GoodIn wsL_law (wsV RL 17 RX0 yX0_poke wsX0_poke) := goodIn_app (goodIn_of _ (by decide +kernel)) ggL_law_X0_poke
set_option maxRecDepth 20000 in
theorem ggL_law_X1_poke : GoodIn wsL_law wsX1_poke := goodIn_r _ [57, 58, 21, 205, 206, 207, 208, 209, 210, 211, 212, 213] (by decide +kernel) (by decide +kernel)
set_option maxRecDepth 20000 in
theorem gL_law_X1_poke : GoodIn wsL_law (wsV RL 21 RX1 yX1_poke wsX1_poke) := goodIn_app (goodIn_of _ (by decide +kernel)) ggL_law_X1_poke
set_option maxRecDepth 20000 in
theorem ggL_law_X0_word : GoodIn wsL_law wsX0_word := goodIn_r _ [62, 14, 50, 51, 2, 52, 53, 195, 196, 197, 198, 199, 200, 201, 202, 203, 204] (by decide +kernel) (by decide +kernel)
set_option maxRecDepth 20000 in
theorem gL_law_X0_word : GoodIn wsL_law (wsV RL 22 RX0 yX0_word wsX0_word) := goodIn_app (goodIn_of _ (by decide +kernel)) ggL_law_X0_word
set_option maxRecDepth 20000 in
theorem ggL_law_X1_word : GoodIn wsL_law wsX1_word := goodIn_r _ [66, 67, 21, 205, 206, 207, 208, 209, 210, 211, 212, 213] (by decide +kernel) (by decide +kernel)
set_option maxRecDepth 20000 in
theorem gL_law_X1_word : GoodIn wsL_law (wsV RL 26 RX1 yX1_word wsX1_word) := goodIn_app (goodIn_of _ (by decide +kernel)) ggL_law_X1_word
set_option maxRecDepth 20000 in
theorem ggL_law_X0_roots : GoodIn wsL_law wsX0_roots := goodIn_r _ [71, 27, 28, 29, 195, 196, 197, 198, 199, 200, 201, 202, 203, 204] (by decide +kernel) (by decide +kernel)
set_option maxRecDepth 20000 in
theorem gL_law_X0_roots : GoodIn wsL_law (wsV RL 27 RX0 yX0_roots wsX0_roots) := goodIn_app (goodIn_of _ (by decide +kernel)) ggL_law_X0_roots
set_option maxRecDepth 20000 in
theorem ggL_law_X1_roots : GoodIn wsL_law wsX1_roots := goodIn_r _ [75, 41, 42, 43, 205, 206, 207, 208, 209, 210, 211, 212, 213] (by decide +kernel) (by decide +kernel)
set_option maxRecDepth 20000 in
theorem gL_law_X1_roots : GoodIn wsL_law (wsV RL 31 RX1 yX1_roots wsX1_roots) := goodIn_app (goodIn_of _ (by decide +kernel)) ggL_law_X1_roots
set_option maxRecDepth 20000 in
theorem ggL_law_X0_rights : GoodIn wsL_law wsX0_rights := goodIn_r _ [79, 30, 195, 196, 197, 198, 199, 200, 201, 202, 203, 204] (by decide +kernel) (by decide +kernel)
set_option maxRecDepth 20000 in
theorem gL_law_X0_rights : GoodIn wsL_law (wsV RL 32 RX0 yX0_rights wsX0_rights) := goodIn_app (goodIn_of _ (by decide +kernel)) ggL_law_X0_rights
set_option maxRecDepth 20000 in
theorem ggL_law_X0_translate : GoodIn wsL_law wsX0_translate := goodIn_r _ [83, 84, 15, 85, 31, 86, 32, 87, 88, 2, 89, 90, 91, 92, 93, 94, 95, 96, 28, 27, 97, 98, 99, 100, 101, 102, 103, 104, 105, 106, 107, 108, 109, 110, 111, 29, 112, 113, 114, 115, 116, 117, 118, 119, 120, 14, 121, 122, 123, 124, 125, 126, 127, 128, 129, 130, 131, 132, 133, 134, 135, 136, 137, 138, 139, 140, 141, 142, 143, 144, 30, 145, 146, 147, 148, 149, 150, 151, 152, 153, 154, 155, 156, 157, 158, 159, 160, 161, 162, 163, 164, 165, 166, 167, 168, 169, 170, 171, 172, 173, 174, 175, 176, 177, 178, 195, 196, 197, 198, 199, 200, 201, 202, 203, 204] (by decide +kernel) (by decide +kernel)
set_option maxRecDepth 20000 in
theorem gL_law_X0_translate : GoodIn wsL_law (wsV RL 36 RX0 yX0_translate wsX0_translate) := goodIn_app (goodIn_of _ (by decide +kernel)) ggL_law_X0_translate
set_option maxRecDepth 20000 in
theorem ggL_law_X0_place : GoodIn wsL_law wsX0_place := goodIn_r _ [182, 15, 195, 196, 197, 198, 199, 200, 201, 202, 203, 204] (by decide +kernel) (by decide +kernel)
set_option maxRecDepth 20000 in
theorem gL_law_X0_place : GoodIn wsL_law (wsV RL 41 RX0 yX0_place wsX0_place) := goodIn_app (goodIn_of _ (by decide +kernel)) ggL_law_X0_place
set_option maxRecDepth 20000 in
theorem ggL_law_X0_second : GoodIn wsL_law wsX0_second := goodIn_r _ [186, 31, 195, 196, 197, 198, 199, 200, 201, 202, 203, 204] (by decide +kernel) (by decide +kernel)
set_option maxRecDepth 20000 in
theorem gL_law_X0_second : GoodIn wsL_law (wsV RL 46 RX0 yX0_second wsX0_second) := goodIn_app (goodIn_of _ (by decide +kernel)) ggL_law_X0_second
set_option maxRecDepth 20000 in
theorem ggL_law_X0_entry : GoodIn wsL_law wsX0_entry := goodIn_r _ [190, 32, 195, 196, 197, 198, 199, 200, 201, 202, 203, 204] (by decide +kernel) (by decide +kernel)
set_option maxRecDepth 20000 in
theorem gL_law_X0_entry : GoodIn wsL_law (wsV RL 50 RX0 yX0_entry wsX0_entry) := goodIn_app (goodIn_of _ (by decide +kernel)) ggL_law_X0_entry
set_option maxRecDepth 20000 in
theorem ggL_law_X0_pages : GoodIn wsL_law wsX0_pages := goodIn_r _ [194, 84, 106, 87, 88, 2, 89, 90, 91, 92, 93, 94, 95, 96, 28, 27, 97, 98, 99, 100, 101, 102, 103, 104, 105, 107, 108, 109, 110, 111, 29, 112, 113, 114, 115, 116, 85, 86, 117, 118, 119, 120, 14, 121, 122, 123, 124, 125, 126, 127, 128, 129, 130, 131, 132, 133, 134, 135, 136, 137, 138, 139, 140, 141, 142, 143, 144, 30, 145, 146, 147, 148, 149, 150, 151, 152, 153, 154, 155, 156, 157, 158, 159, 160, 161, 162, 163, 164, 165, 166, 167, 168, 169, 170, 171, 172, 173, 174, 175, 176, 177, 178, 195, 196, 197, 198, 199, 200, 201, 202, 203, 204] (by decide +kernel) (by decide +kernel)
set_option maxRecDepth 20000 in
theorem gL_law_X0_pages : GoodIn wsL_law (wsV RL 55 RX0 yX0_pages wsX0_pages) := goodIn_app (goodIn_of _ (by decide +kernel)) ggL_law_X0_pages
theorem dL_law_0 : decode cL_law 0 = .ok (.new 7, 3) := by decide +kernel
theorem dL_law_3 : decode cL_law 3 = .ok (.dup, 1) := by decide +kernel
theorem dL_law_4 : decode cL_law 4 = .ok (.invokespecial 9, 3) := by decide +kernel
theorem dL_law_7 : decode cL_law 7 = .ok (.astore_n 1, 1) := by decide +kernel
theorem dL_law_8 : decode cL_law 8 = .ok (.new 10, 3) := by decide +kernel
theorem dL_law_11 : decode cL_law 11 = .ok (.dup, 1) := by decide +kernel
theorem dL_law_12 : decode cL_law 12 = .ok (.invokespecial 12, 3) := by decide +kernel
theorem dL_law_15 : decode cL_law 15 = .ok (.astore_n 2, 1) := by decide +kernel
theorem dL_law_16 : decode cL_law 16 = .ok (.iconst 0, 1) := by decide +kernel
theorem dL_law_17 : decode cL_law 17 = .ok (.istore_n 3, 1) := by decide +kernel
theorem dL_law_18 : decode cL_law 18 = .ok (.iload_n 3, 1) := by decide +kernel
theorem dL_law_19 : decode cL_law 19 = .ok (.aload_n 0, 1) := by decide +kernel
theorem dL_law_20 : decode cL_law 20 = .ok (.arraylength, 1) := by decide +kernel
theorem dL_law_21 : decode cL_law 21 = .ok (.bipush 7, 2) := by decide +kernel
theorem dL_law_23 : decode cL_law 23 = .ok (.isub, 1) := by decide +kernel
theorem dL_law_24 : decode cL_law 24 = .ok (.if_icmp .gt 378, 3) := by decide +kernel
theorem dL_law_27 : decode cL_law 27 = .ok (.aload_n 0, 1) := by decide +kernel
theorem dL_law_28 : decode cL_law 28 = .ok (.iload_n 3, 1) := by decide +kernel
theorem dL_law_29 : decode cL_law 29 = .ok (.iaload, 1) := by decide +kernel
theorem dL_law_30 : decode cL_law 30 = .ok (.bipush 15, 2) := by decide +kernel
theorem dL_law_32 : decode cL_law 32 = .ok (.iand, 1) := by decide +kernel
theorem dL_law_33 : decode cL_law 33 = .ok (.tableswitch 363 0 9 #[55, 66, 141, 164, 205, 228, 271, 284, 297, 310], 55) := by decide +kernel
theorem dL_law_88 : decode cL_law 88 = .ok (.aload_n 1, 1) := by decide +kernel
theorem dL_law_89 : decode cL_law 89 = .ok (.invokevirtual 13, 3) := by decide +kernel
theorem dL_law_92 : decode cL_law 92 = .ok (.aload_n 2, 1) := by decide +kernel
theorem dL_law_93 : decode cL_law 93 = .ok (.invokevirtual 16, 3) := by decide +kernel
theorem dL_law_96 : decode cL_law 96 = .ok (.goto 300, 3) := by decide +kernel
theorem dL_law_99 : decode cL_law 99 = .ok (.aload_n 1, 1) := by decide +kernel
theorem dL_law_100 : decode cL_law 100 = .ok (.aload_n 0, 1) := by decide +kernel
theorem dL_law_101 : decode cL_law 101 = .ok (.iload_n 3, 1) := by decide +kernel
theorem dL_law_102 : decode cL_law 102 = .ok (.iconst 1, 1) := by decide +kernel
theorem dL_law_103 : decode cL_law 103 = .ok (.iadd, 1) := by decide +kernel
theorem dL_law_104 : decode cL_law 104 = .ok (.iaload, 1) := by decide +kernel
theorem dL_law_105 : decode cL_law 105 = .ok (.aload_n 0, 1) := by decide +kernel
theorem dL_law_106 : decode cL_law 106 = .ok (.iload_n 3, 1) := by decide +kernel
theorem dL_law_107 : decode cL_law 107 = .ok (.iconst 2, 1) := by decide +kernel
theorem dL_law_108 : decode cL_law 108 = .ok (.iadd, 1) := by decide +kernel
theorem dL_law_109 : decode cL_law 109 = .ok (.iaload, 1) := by decide +kernel
theorem dL_law_110 : decode cL_law 110 = .ok (.aload_n 0, 1) := by decide +kernel
theorem dL_law_111 : decode cL_law 111 = .ok (.iload_n 3, 1) := by decide +kernel
theorem dL_law_112 : decode cL_law 112 = .ok (.iconst 3, 1) := by decide +kernel
theorem dL_law_113 : decode cL_law 113 = .ok (.iadd, 1) := by decide +kernel
theorem dL_law_114 : decode cL_law 114 = .ok (.iaload, 1) := by decide +kernel
theorem dL_law_115 : decode cL_law 115 = .ok (.aload_n 0, 1) := by decide +kernel
theorem dL_law_116 : decode cL_law 116 = .ok (.iload_n 3, 1) := by decide +kernel
theorem dL_law_117 : decode cL_law 117 = .ok (.iconst 4, 1) := by decide +kernel
theorem dL_law_118 : decode cL_law 118 = .ok (.iadd, 1) := by decide +kernel
theorem dL_law_119 : decode cL_law 119 = .ok (.iaload, 1) := by decide +kernel
theorem dL_law_120 : decode cL_law 120 = .ok (.aload_n 0, 1) := by decide +kernel
theorem dL_law_121 : decode cL_law 121 = .ok (.iload_n 3, 1) := by decide +kernel
theorem dL_law_122 : decode cL_law 122 = .ok (.iconst 5, 1) := by decide +kernel
theorem dL_law_123 : decode cL_law 123 = .ok (.iadd, 1) := by decide +kernel
theorem dL_law_124 : decode cL_law 124 = .ok (.iaload, 1) := by decide +kernel
theorem dL_law_125 : decode cL_law 125 = .ok (.aload_n 0, 1) := by decide +kernel
theorem dL_law_126 : decode cL_law 126 = .ok (.iload_n 3, 1) := by decide +kernel
theorem dL_law_127 : decode cL_law 127 = .ok (.bipush 6, 2) := by decide +kernel
theorem dL_law_129 : decode cL_law 129 = .ok (.iadd, 1) := by decide +kernel
theorem dL_law_130 : decode cL_law 130 = .ok (.iaload, 1) := by decide +kernel
theorem dL_law_131 : decode cL_law 131 = .ok (.invokevirtual 17, 3) := by decide +kernel
theorem dL_law_134 : decode cL_law 134 = .ok (.aload_n 2, 1) := by decide +kernel
theorem dL_law_135 : decode cL_law 135 = .ok (.aload_n 0, 1) := by decide +kernel
theorem dL_law_136 : decode cL_law 136 = .ok (.iload_n 3, 1) := by decide +kernel
theorem dL_law_137 : decode cL_law 137 = .ok (.iconst 1, 1) := by decide +kernel
theorem dL_law_138 : decode cL_law 138 = .ok (.iadd, 1) := by decide +kernel
theorem dL_law_139 : decode cL_law 139 = .ok (.iaload, 1) := by decide +kernel
theorem dL_law_140 : decode cL_law 140 = .ok (.aload_n 0, 1) := by decide +kernel
theorem dL_law_141 : decode cL_law 141 = .ok (.iload_n 3, 1) := by decide +kernel
theorem dL_law_142 : decode cL_law 142 = .ok (.iconst 2, 1) := by decide +kernel
theorem dL_law_143 : decode cL_law 143 = .ok (.iadd, 1) := by decide +kernel
theorem dL_law_144 : decode cL_law 144 = .ok (.iaload, 1) := by decide +kernel
theorem dL_law_145 : decode cL_law 145 = .ok (.aload_n 0, 1) := by decide +kernel
theorem dL_law_146 : decode cL_law 146 = .ok (.iload_n 3, 1) := by decide +kernel
theorem dL_law_147 : decode cL_law 147 = .ok (.iconst 3, 1) := by decide +kernel
theorem dL_law_148 : decode cL_law 148 = .ok (.iadd, 1) := by decide +kernel
theorem dL_law_149 : decode cL_law 149 = .ok (.iaload, 1) := by decide +kernel
theorem dL_law_150 : decode cL_law 150 = .ok (.aload_n 0, 1) := by decide +kernel
theorem dL_law_151 : decode cL_law 151 = .ok (.iload_n 3, 1) := by decide +kernel
theorem dL_law_152 : decode cL_law 152 = .ok (.iconst 4, 1) := by decide +kernel
theorem dL_law_153 : decode cL_law 153 = .ok (.iadd, 1) := by decide +kernel
theorem dL_law_154 : decode cL_law 154 = .ok (.iaload, 1) := by decide +kernel
theorem dL_law_155 : decode cL_law 155 = .ok (.aload_n 0, 1) := by decide +kernel
theorem dL_law_156 : decode cL_law 156 = .ok (.iload_n 3, 1) := by decide +kernel
theorem dL_law_157 : decode cL_law 157 = .ok (.iconst 5, 1) := by decide +kernel
theorem dL_law_158 : decode cL_law 158 = .ok (.iadd, 1) := by decide +kernel
theorem dL_law_159 : decode cL_law 159 = .ok (.iaload, 1) := by decide +kernel
theorem dL_law_160 : decode cL_law 160 = .ok (.aload_n 0, 1) := by decide +kernel
theorem dL_law_161 : decode cL_law 161 = .ok (.iload_n 3, 1) := by decide +kernel
theorem dL_law_162 : decode cL_law 162 = .ok (.bipush 6, 2) := by decide +kernel
theorem dL_law_164 : decode cL_law 164 = .ok (.iadd, 1) := by decide +kernel
theorem dL_law_165 : decode cL_law 165 = .ok (.iaload, 1) := by decide +kernel
theorem dL_law_166 : decode cL_law 166 = .ok (.invokevirtual 21, 3) := by decide +kernel
theorem dL_law_169 : decode cL_law 169 = .ok (.if_icmp .eq 227, 3) := by decide +kernel
theorem dL_law_172 : decode cL_law 172 = .ok (.iconst 0, 1) := by decide +kernel
theorem dL_law_173 : decode cL_law 173 = .ok (.ireturn, 1) := by decide +kernel
theorem dL_law_174 : decode cL_law 174 = .ok (.aload_n 1, 1) := by decide +kernel
theorem dL_law_175 : decode cL_law 175 = .ok (.aload_n 0, 1) := by decide +kernel
theorem dL_law_176 : decode cL_law 176 = .ok (.iload_n 3, 1) := by decide +kernel
theorem dL_law_177 : decode cL_law 177 = .ok (.iconst 1, 1) := by decide +kernel
theorem dL_law_178 : decode cL_law 178 = .ok (.iadd, 1) := by decide +kernel
theorem dL_law_179 : decode cL_law 179 = .ok (.iaload, 1) := by decide +kernel
theorem dL_law_180 : decode cL_law 180 = .ok (.invokevirtual 22, 3) := by decide +kernel
theorem dL_law_183 : decode cL_law 183 = .ok (.aload_n 2, 1) := by decide +kernel
theorem dL_law_184 : decode cL_law 184 = .ok (.aload_n 0, 1) := by decide +kernel
theorem dL_law_185 : decode cL_law 185 = .ok (.iload_n 3, 1) := by decide +kernel
theorem dL_law_186 : decode cL_law 186 = .ok (.iconst 1, 1) := by decide +kernel
theorem dL_law_187 : decode cL_law 187 = .ok (.iadd, 1) := by decide +kernel
theorem dL_law_188 : decode cL_law 188 = .ok (.iaload, 1) := by decide +kernel
theorem dL_law_189 : decode cL_law 189 = .ok (.invokevirtual 26, 3) := by decide +kernel
theorem dL_law_192 : decode cL_law 192 = .ok (.if_icmp .eq 204, 3) := by decide +kernel
theorem dL_law_195 : decode cL_law 195 = .ok (.iconst 0, 1) := by decide +kernel
theorem dL_law_196 : decode cL_law 196 = .ok (.ireturn, 1) := by decide +kernel
theorem dL_law_197 : decode cL_law 197 = .ok (.aload_n 1, 1) := by decide +kernel
theorem dL_law_198 : decode cL_law 198 = .ok (.aload_n 0, 1) := by decide +kernel
theorem dL_law_199 : decode cL_law 199 = .ok (.iload_n 3, 1) := by decide +kernel
theorem dL_law_200 : decode cL_law 200 = .ok (.iconst 1, 1) := by decide +kernel
theorem dL_law_201 : decode cL_law 201 = .ok (.iadd, 1) := by decide +kernel
theorem dL_law_202 : decode cL_law 202 = .ok (.iaload, 1) := by decide +kernel
theorem dL_law_203 : decode cL_law 203 = .ok (.aload_n 0, 1) := by decide +kernel
theorem dL_law_204 : decode cL_law 204 = .ok (.iload_n 3, 1) := by decide +kernel
theorem dL_law_205 : decode cL_law 205 = .ok (.iconst 2, 1) := by decide +kernel
theorem dL_law_206 : decode cL_law 206 = .ok (.iadd, 1) := by decide +kernel
theorem dL_law_207 : decode cL_law 207 = .ok (.iaload, 1) := by decide +kernel
theorem dL_law_208 : decode cL_law 208 = .ok (.aload_n 0, 1) := by decide +kernel
theorem dL_law_209 : decode cL_law 209 = .ok (.iload_n 3, 1) := by decide +kernel
theorem dL_law_210 : decode cL_law 210 = .ok (.iconst 3, 1) := by decide +kernel
theorem dL_law_211 : decode cL_law 211 = .ok (.iadd, 1) := by decide +kernel
theorem dL_law_212 : decode cL_law 212 = .ok (.iaload, 1) := by decide +kernel
theorem dL_law_213 : decode cL_law 213 = .ok (.invokevirtual 27, 3) := by decide +kernel
theorem dL_law_216 : decode cL_law 216 = .ok (.aload_n 2, 1) := by decide +kernel
theorem dL_law_217 : decode cL_law 217 = .ok (.aload_n 0, 1) := by decide +kernel
theorem dL_law_218 : decode cL_law 218 = .ok (.iload_n 3, 1) := by decide +kernel
theorem dL_law_219 : decode cL_law 219 = .ok (.iconst 1, 1) := by decide +kernel
theorem dL_law_220 : decode cL_law 220 = .ok (.iadd, 1) := by decide +kernel
theorem dL_law_221 : decode cL_law 221 = .ok (.iaload, 1) := by decide +kernel
theorem dL_law_222 : decode cL_law 222 = .ok (.aload_n 0, 1) := by decide +kernel
theorem dL_law_223 : decode cL_law 223 = .ok (.iload_n 3, 1) := by decide +kernel
theorem dL_law_224 : decode cL_law 224 = .ok (.iconst 2, 1) := by decide +kernel
theorem dL_law_225 : decode cL_law 225 = .ok (.iadd, 1) := by decide +kernel
theorem dL_law_226 : decode cL_law 226 = .ok (.iaload, 1) := by decide +kernel
theorem dL_law_227 : decode cL_law 227 = .ok (.aload_n 0, 1) := by decide +kernel
theorem dL_law_228 : decode cL_law 228 = .ok (.iload_n 3, 1) := by decide +kernel
theorem dL_law_229 : decode cL_law 229 = .ok (.iconst 3, 1) := by decide +kernel
theorem dL_law_230 : decode cL_law 230 = .ok (.iadd, 1) := by decide +kernel
theorem dL_law_231 : decode cL_law 231 = .ok (.iaload, 1) := by decide +kernel
theorem dL_law_232 : decode cL_law 232 = .ok (.invokevirtual 31, 3) := by decide +kernel
theorem dL_law_235 : decode cL_law 235 = .ok (.goto 161, 3) := by decide +kernel
theorem dL_law_238 : decode cL_law 238 = .ok (.aload_n 1, 1) := by decide +kernel
theorem dL_law_239 : decode cL_law 239 = .ok (.aload_n 0, 1) := by decide +kernel
theorem dL_law_240 : decode cL_law 240 = .ok (.iload_n 3, 1) := by decide +kernel
theorem dL_law_241 : decode cL_law 241 = .ok (.iconst 1, 1) := by decide +kernel
theorem dL_law_242 : decode cL_law 242 = .ok (.iadd, 1) := by decide +kernel
theorem dL_law_243 : decode cL_law 243 = .ok (.iaload, 1) := by decide +kernel
theorem dL_law_244 : decode cL_law 244 = .ok (.invokevirtual 32, 3) := by decide +kernel
theorem dL_law_247 : decode cL_law 247 = .ok (.aload_n 2, 1) := by decide +kernel
theorem dL_law_248 : decode cL_law 248 = .ok (.aload_n 0, 1) := by decide +kernel
theorem dL_law_249 : decode cL_law 249 = .ok (.iload_n 3, 1) := by decide +kernel
theorem dL_law_250 : decode cL_law 250 = .ok (.iconst 1, 1) := by decide +kernel
theorem dL_law_251 : decode cL_law 251 = .ok (.iadd, 1) := by decide +kernel
theorem dL_law_252 : decode cL_law 252 = .ok (.iaload, 1) := by decide +kernel
theorem dL_law_253 : decode cL_law 253 = .ok (.invokevirtual 35, 3) := by decide +kernel
theorem dL_law_256 : decode cL_law 256 = .ok (.if_icmp .eq 140, 3) := by decide +kernel
theorem dL_law_259 : decode cL_law 259 = .ok (.iconst 0, 1) := by decide +kernel
theorem dL_law_260 : decode cL_law 260 = .ok (.ireturn, 1) := by decide +kernel
theorem dL_law_261 : decode cL_law 261 = .ok (.aload_n 1, 1) := by decide +kernel
theorem dL_law_262 : decode cL_law 262 = .ok (.aload_n 0, 1) := by decide +kernel
theorem dL_law_263 : decode cL_law 263 = .ok (.iload_n 3, 1) := by decide +kernel
theorem dL_law_264 : decode cL_law 264 = .ok (.iconst 1, 1) := by decide +kernel
theorem dL_law_265 : decode cL_law 265 = .ok (.iadd, 1) := by decide +kernel
theorem dL_law_266 : decode cL_law 266 = .ok (.iaload, 1) := by decide +kernel
theorem dL_law_267 : decode cL_law 267 = .ok (.aload_n 0, 1) := by decide +kernel
theorem dL_law_268 : decode cL_law 268 = .ok (.iload_n 3, 1) := by decide +kernel
theorem dL_law_269 : decode cL_law 269 = .ok (.iconst 2, 1) := by decide +kernel
theorem dL_law_270 : decode cL_law 270 = .ok (.iadd, 1) := by decide +kernel
theorem dL_law_271 : decode cL_law 271 = .ok (.iaload, 1) := by decide +kernel
theorem dL_law_272 : decode cL_law 272 = .ok (.aload_n 0, 1) := by decide +kernel
theorem dL_law_273 : decode cL_law 273 = .ok (.iload_n 3, 1) := by decide +kernel
theorem dL_law_274 : decode cL_law 274 = .ok (.iconst 3, 1) := by decide +kernel
theorem dL_law_275 : decode cL_law 275 = .ok (.iadd, 1) := by decide +kernel
theorem dL_law_276 : decode cL_law 276 = .ok (.iaload, 1) := by decide +kernel
theorem dL_law_277 : decode cL_law 277 = .ok (.invokevirtual 36, 3) := by decide +kernel
theorem dL_law_280 : decode cL_law 280 = .ok (.aload_n 2, 1) := by decide +kernel
theorem dL_law_281 : decode cL_law 281 = .ok (.aload_n 0, 1) := by decide +kernel
theorem dL_law_282 : decode cL_law 282 = .ok (.iload_n 3, 1) := by decide +kernel
theorem dL_law_283 : decode cL_law 283 = .ok (.iconst 1, 1) := by decide +kernel
theorem dL_law_284 : decode cL_law 284 = .ok (.iadd, 1) := by decide +kernel
theorem dL_law_285 : decode cL_law 285 = .ok (.iaload, 1) := by decide +kernel
theorem dL_law_286 : decode cL_law 286 = .ok (.aload_n 0, 1) := by decide +kernel
theorem dL_law_287 : decode cL_law 287 = .ok (.iload_n 3, 1) := by decide +kernel
theorem dL_law_288 : decode cL_law 288 = .ok (.iconst 2, 1) := by decide +kernel
theorem dL_law_289 : decode cL_law 289 = .ok (.iadd, 1) := by decide +kernel
theorem dL_law_290 : decode cL_law 290 = .ok (.iaload, 1) := by decide +kernel
theorem dL_law_291 : decode cL_law 291 = .ok (.aload_n 0, 1) := by decide +kernel
theorem dL_law_292 : decode cL_law 292 = .ok (.iload_n 3, 1) := by decide +kernel
theorem dL_law_293 : decode cL_law 293 = .ok (.iconst 3, 1) := by decide +kernel
theorem dL_law_294 : decode cL_law 294 = .ok (.iadd, 1) := by decide +kernel
theorem dL_law_295 : decode cL_law 295 = .ok (.iaload, 1) := by decide +kernel
theorem dL_law_296 : decode cL_law 296 = .ok (.invokevirtual 40, 3) := by decide +kernel
theorem dL_law_299 : decode cL_law 299 = .ok (.if_icmp .eq 97, 3) := by decide +kernel
theorem dL_law_302 : decode cL_law 302 = .ok (.iconst 0, 1) := by decide +kernel
theorem dL_law_303 : decode cL_law 303 = .ok (.ireturn, 1) := by decide +kernel
theorem dL_law_304 : decode cL_law 304 = .ok (.aload_n 1, 1) := by decide +kernel
theorem dL_law_305 : decode cL_law 305 = .ok (.invokevirtual 41, 3) := by decide +kernel
theorem dL_law_308 : decode cL_law 308 = .ok (.aload_n 2, 1) := by decide +kernel
theorem dL_law_309 : decode cL_law 309 = .ok (.invokevirtual 45, 3) := by decide +kernel
theorem dL_law_312 : decode cL_law 312 = .ok (.if_icmp .eq 84, 3) := by decide +kernel
theorem dL_law_315 : decode cL_law 315 = .ok (.iconst 0, 1) := by decide +kernel
theorem dL_law_316 : decode cL_law 316 = .ok (.ireturn, 1) := by decide +kernel
theorem dL_law_317 : decode cL_law 317 = .ok (.aload_n 1, 1) := by decide +kernel
theorem dL_law_318 : decode cL_law 318 = .ok (.invokevirtual 46, 3) := by decide +kernel
theorem dL_law_321 : decode cL_law 321 = .ok (.aload_n 2, 1) := by decide +kernel
theorem dL_law_322 : decode cL_law 322 = .ok (.invokevirtual 49, 3) := by decide +kernel
theorem dL_law_325 : decode cL_law 325 = .ok (.if_icmp .eq 71, 3) := by decide +kernel
theorem dL_law_328 : decode cL_law 328 = .ok (.iconst 0, 1) := by decide +kernel
theorem dL_law_329 : decode cL_law 329 = .ok (.ireturn, 1) := by decide +kernel
theorem dL_law_330 : decode cL_law 330 = .ok (.aload_n 1, 1) := by decide +kernel
theorem dL_law_331 : decode cL_law 331 = .ok (.invokevirtual 50, 3) := by decide +kernel
theorem dL_law_334 : decode cL_law 334 = .ok (.aload_n 2, 1) := by decide +kernel
theorem dL_law_335 : decode cL_law 335 = .ok (.invokevirtual 54, 3) := by decide +kernel
theorem dL_law_338 : decode cL_law 338 = .ok (.if_icmp .eq 58, 3) := by decide +kernel
theorem dL_law_341 : decode cL_law 341 = .ok (.iconst 0, 1) := by decide +kernel
theorem dL_law_342 : decode cL_law 342 = .ok (.ireturn, 1) := by decide +kernel
theorem dL_law_343 : decode cL_law 343 = .ok (.aload_n 1, 1) := by decide +kernel
theorem dL_law_344 : decode cL_law 344 = .ok (.aload_n 0, 1) := by decide +kernel
theorem dL_law_345 : decode cL_law 345 = .ok (.iload_n 3, 1) := by decide +kernel
theorem dL_law_346 : decode cL_law 346 = .ok (.iconst 1, 1) := by decide +kernel
theorem dL_law_347 : decode cL_law 347 = .ok (.iadd, 1) := by decide +kernel
theorem dL_law_348 : decode cL_law 348 = .ok (.iaload, 1) := by decide +kernel
theorem dL_law_349 : decode cL_law 349 = .ok (.aload_n 0, 1) := by decide +kernel
theorem dL_law_350 : decode cL_law 350 = .ok (.iload_n 3, 1) := by decide +kernel
theorem dL_law_351 : decode cL_law 351 = .ok (.iconst 2, 1) := by decide +kernel
theorem dL_law_352 : decode cL_law 352 = .ok (.iadd, 1) := by decide +kernel
theorem dL_law_353 : decode cL_law 353 = .ok (.iaload, 1) := by decide +kernel
theorem dL_law_354 : decode cL_law 354 = .ok (.aload_n 0, 1) := by decide +kernel
theorem dL_law_355 : decode cL_law 355 = .ok (.iload_n 3, 1) := by decide +kernel
theorem dL_law_356 : decode cL_law 356 = .ok (.iconst 3, 1) := by decide +kernel
theorem dL_law_357 : decode cL_law 357 = .ok (.iadd, 1) := by decide +kernel
theorem dL_law_358 : decode cL_law 358 = .ok (.iaload, 1) := by decide +kernel
theorem dL_law_359 : decode cL_law 359 = .ok (.aload_n 0, 1) := by decide +kernel
theorem dL_law_360 : decode cL_law 360 = .ok (.iload_n 3, 1) := by decide +kernel
theorem dL_law_361 : decode cL_law 361 = .ok (.iconst 4, 1) := by decide +kernel
theorem dL_law_362 : decode cL_law 362 = .ok (.iadd, 1) := by decide +kernel
theorem dL_law_363 : decode cL_law 363 = .ok (.iaload, 1) := by decide +kernel
theorem dL_law_364 : decode cL_law 364 = .ok (.invokevirtual 55, 3) := by decide +kernel
theorem dL_law_367 : decode cL_law 367 = .ok (.aload_n 2, 1) := by decide +kernel
theorem dL_law_368 : decode cL_law 368 = .ok (.aload_n 0, 1) := by decide +kernel
theorem dL_law_369 : decode cL_law 369 = .ok (.iload_n 3, 1) := by decide +kernel
theorem dL_law_370 : decode cL_law 370 = .ok (.iconst 1, 1) := by decide +kernel
theorem dL_law_371 : decode cL_law 371 = .ok (.iadd, 1) := by decide +kernel
theorem dL_law_372 : decode cL_law 372 = .ok (.iaload, 1) := by decide +kernel
theorem dL_law_373 : decode cL_law 373 = .ok (.aload_n 0, 1) := by decide +kernel
theorem dL_law_374 : decode cL_law 374 = .ok (.iload_n 3, 1) := by decide +kernel
theorem dL_law_375 : decode cL_law 375 = .ok (.iconst 2, 1) := by decide +kernel
theorem dL_law_376 : decode cL_law 376 = .ok (.iadd, 1) := by decide +kernel
theorem dL_law_377 : decode cL_law 377 = .ok (.iaload, 1) := by decide +kernel
theorem dL_law_378 : decode cL_law 378 = .ok (.aload_n 0, 1) := by decide +kernel
theorem dL_law_379 : decode cL_law 379 = .ok (.iload_n 3, 1) := by decide +kernel
theorem dL_law_380 : decode cL_law 380 = .ok (.iconst 3, 1) := by decide +kernel
theorem dL_law_381 : decode cL_law 381 = .ok (.iadd, 1) := by decide +kernel
theorem dL_law_382 : decode cL_law 382 = .ok (.iaload, 1) := by decide +kernel
theorem dL_law_383 : decode cL_law 383 = .ok (.aload_n 0, 1) := by decide +kernel
theorem dL_law_384 : decode cL_law 384 = .ok (.iload_n 3, 1) := by decide +kernel
theorem dL_law_385 : decode cL_law 385 = .ok (.iconst 4, 1) := by decide +kernel
theorem dL_law_386 : decode cL_law 386 = .ok (.iadd, 1) := by decide +kernel
theorem dL_law_387 : decode cL_law 387 = .ok (.iaload, 1) := by decide +kernel
theorem dL_law_388 : decode cL_law 388 = .ok (.invokevirtual 59, 3) := by decide +kernel
theorem dL_law_391 : decode cL_law 391 = .ok (.if_icmp .eq 5, 3) := by decide +kernel
theorem dL_law_394 : decode cL_law 394 = .ok (.iconst 0, 1) := by decide +kernel
theorem dL_law_395 : decode cL_law 395 = .ok (.ireturn, 1) := by decide +kernel
theorem dL_law_396 : decode cL_law 396 = .ok (.iinc 3 7, 3) := by decide +kernel
theorem dL_law_399 : decode cL_law 399 = .ok (.goto (-381), 3) := by decide +kernel
theorem dL_law_402 : decode cL_law 402 = .ok (.iconst 1, 1) := by decide +kernel
theorem dL_law_403 : decode cL_law 403 = .ok (.ireturn, 1) := by decide +kernel
abbrev vwCl : List vw_C := [(RX0, TX0, 10), (RX1, TX1, 9)]
end
section
/-! Rows of ours over the kit: a long compare with its branch in one row, joins of a diamond, calls by contract shapes. -/
theorem l3_cmp (x y : Int64) : (y < x ∧ lg_cmp x y = 1 ∧ ¬ x < y ∧ ¬ x = y) ∨ (x = y ∧ lg_cmp x y = 0 ∧ ¬ x < y ∧ ¬ y < x) ∨ (x < y ∧ lg_cmp x y = -1 ∧ ¬ y < x ∧ ¬ x = y) := by
  have e1 : x < y ↔ x.toInt < y.toInt := Int64.lt_iff_toInt_lt
  have e2 : y < x ↔ y.toInt < x.toInt := Int64.lt_iff_toInt_lt
  rcases Int.lt_trichotomy x.toInt y.toInt with h | h | h
  · have a1 : x < y := e1.mpr h
    have a2 : ¬ y < x := fun q => by have := e2.mp q; omega
    have a3 : ¬ x = y := fun q => by rw [q] at h; omega
    refine Or.inr (Or.inr ⟨a1, ?_, a2, a3⟩)
    unfold lg_cmp
    rw [if_neg a2, if_neg a3]
  · have a1 : x = y := Int64.toInt_inj.mp h
    have a2 : ¬ y < x := fun q => by have := e2.mp q; omega
    have a3 : ¬ x < y := fun q => by have := e1.mp q; omega
    refine Or.inr (Or.inl ⟨a1, ?_, a3, a2⟩)
    unfold lg_cmp
    rw [if_neg a2, if_pos a1]
  · have a1 : y < x := e2.mpr h
    have a2 : ¬ x < y := fun q => by have := e1.mp q; omega
    have a3 : ¬ x = y := fun q => by rw [q] at h; omega
    refine Or.inl ⟨a1, ?_, a2, a3⟩
    unfold lg_cmp
    rw [if_pos a1]
theorem lc_lt {x y : Int64} : lg_cmp x y < 0 ↔ x < y := by
  rcases l3_cmp x y with ⟨h1, h2, h3, h4⟩ | ⟨h1, h2, h3, h4⟩ | ⟨h1, h2, h3, h4⟩ <;> rw [h2]
  · exact ⟨fun h => absurd h (by decide), fun h => absurd h h3⟩
  · exact ⟨fun h => absurd h (by decide), fun h => absurd h h3⟩
  · exact ⟨fun _ => h1, fun _ => by decide⟩
theorem lc_ge {x y : Int64} : 0 ≤ lg_cmp x y ↔ ¬ x < y := by
  rcases l3_cmp x y with ⟨h1, h2, h3, h4⟩ | ⟨h1, h2, h3, h4⟩ | ⟨h1, h2, h3, h4⟩ <;> rw [h2]
  · exact ⟨fun _ => h3, fun _ => by decide⟩
  · exact ⟨fun _ => h3, fun _ => by decide⟩
  · exact ⟨fun h => absurd h (by decide), fun h => absurd h1 h⟩
theorem lc_gt {x y : Int64} : 0 < lg_cmp x y ↔ y < x := by
  rcases l3_cmp x y with ⟨h1, h2, h3, h4⟩ | ⟨h1, h2, h3, h4⟩ | ⟨h1, h2, h3, h4⟩ <;> rw [h2]
  · exact ⟨fun _ => h1, fun _ => by decide⟩
  · exact ⟨fun h => absurd h (by decide), fun h => absurd h h4⟩
  · exact ⟨fun h => absurd h (by decide), fun h => absurd h h3⟩
theorem lc_le {x y : Int64} : lg_cmp x y ≤ 0 ↔ ¬ y < x := by
  rcases l3_cmp x y with ⟨h1, h2, h3, h4⟩ | ⟨h1, h2, h3, h4⟩ | ⟨h1, h2, h3, h4⟩ <;> rw [h2]
  · exact ⟨fun h => absurd h (by decide), fun h => absurd h1 h⟩
  · exact ⟨fun _ => h4, fun _ => by decide⟩
  · exact ⟨fun _ => h3, fun _ => by decide⟩
theorem lc_eq {x y : Int64} : lg_cmp x y = 0 ↔ x = y := by
  rcases l3_cmp x y with ⟨h1, h2, h3, h4⟩ | ⟨h1, h2, h3, h4⟩ | ⟨h1, h2, h3, h4⟩ <;> rw [h2]
  · exact ⟨fun h => absurd h (by decide), fun h => absurd h h4⟩
  · exact ⟨fun _ => h1, fun _ => rfl⟩
  · exact ⟨fun h => absurd h (by decide), fun h => absurd h h4⟩
theorem ite01 {q : Prop} [Decidable q] {a b : Int32} (ha : a = 0 ∨ a = 1) (hb : b = 0 ∨ b = 1) : (if q then a else b) = 0 ∨ (if q then a else b) = 1 := by
  split
  · exact ha
  · exact hb
theorem nb_0 : narrow .boolean (.int 0) = .int 0 := rfl
theorem nb_1 : narrow .boolean (.int 1) = .int 1 := rfl
theorem nb_z {z : Int32} (h : z = 0 ∨ z = 1) : narrow .boolean (.int z) = .int z := by rcases h with rfl | rfl <;> rfl
theorem fb_z {z : Int32} (h : z = 0 ∨ z = 1) : fits .boolean (.int z) = true := by rcases h with rfl | rfl <;> rfl
def jlushr (x : Int64) (y : Int32) : Int64 := (x.toUInt64 >>> (y.toInt64.toUInt64 &&& Int64.toUInt64 63)).toInt64
def jlshl (x : Int64) (y : Int32) : Int64 := x <<< (y.toInt64 &&& 63)
def jlshr (x : Int64) (y : Int32) : Int64 := x >>> (y.toInt64 &&& 63)
def jiushr (x y : Int32) : Int32 := (x.toUInt32 >>> (y.toUInt32 &&& Int32.toUInt32 31)).toInt32
def jishl (x y : Int32) : Int32 := x <<< (y &&& 31)
def jishr (x y : Int32) : Int32 := x >>> (y &&& 31)
-- contract shapes: a pure static method (P), one that reads the world (R), one that changes it (W)
abbrev MPi (l : Launch) (y : MethodName) (ws : List Cond) (rm : Room) (av : List Value) (sz : Nat) (v : Int32) : Prop := Met l y ws rm (va_Pc av (fun U => U.heap.size = sz)) (va_Qi (fun r (_ : Unit) => r = v) (fun _ _ => True) (va_A [] sz)) 0 0 (va_A [] sz)
abbrev MPl (l : Launch) (y : MethodName) (ws : List Cond) (rm : Room) (av : List Value) (sz : Nat) (v : Int64) : Prop := Met l y ws rm (va_Pc av (fun U => U.heap.size = sz)) (va_Ql (fun r (_ : Unit) => r = v) (fun _ _ => True) (va_A [] sz)) 0 0 (va_A [] sz)
abbrev MRi (l : Launch) (y : MethodName) (ws : List Cond) (rm : Room) (D : va_G) (cl : List vw_C) (tys : List (ClassId × FieldType)) (av : List Value) (sz : Nat) (w0 : va_W) (v : Int32) : Prop := Met l y ws rm (va_Pc av (fun U => U.heap.size = sz ∧ va_P D cl w0 U.heap ∧ va_K D cl tys U ∧ va_D (fun _ => True) w0)) (va_Qi (fun r (_ : Unit) => r = v) (fun _ t => va_P D cl w0 t.heap ∧ va_K D cl tys t ∧ va_D (va_A w0 sz) w0) (va_A w0 sz)) 0 0 (va_A w0 sz)
abbrev MRl (l : Launch) (y : MethodName) (ws : List Cond) (rm : Room) (D : va_G) (cl : List vw_C) (tys : List (ClassId × FieldType)) (av : List Value) (sz : Nat) (w0 : va_W) (v : Int64) : Prop := Met l y ws rm (va_Pc av (fun U => U.heap.size = sz ∧ va_P D cl w0 U.heap ∧ va_K D cl tys U ∧ va_D (fun _ => True) w0)) (va_Ql (fun r (_ : Unit) => r = v) (fun _ t => va_P D cl w0 t.heap ∧ va_K D cl tys t ∧ va_D (va_A w0 sz) w0) (va_A w0 sz)) 0 0 (va_A w0 sz)
abbrev MWi {U : Type} (l : Launch) (y : MethodName) (ws : List Cond) (rm : Room) (D : va_G) (cl : List vw_C) (tys : List (ClassId × FieldType)) (av : List Value) (sz : Nat) (w0 : va_W) (w : U → va_W) (pr : U → Int32) (F : U) : Prop := Met l y ws rm (va_Pc av (fun U => U.heap.size = sz ∧ va_P D cl w0 U.heap ∧ va_K D cl tys U ∧ va_D (fun _ => True) w0)) (va_Qi (fun r (u : U) => r = pr u ∧ u = F) (fun u t => va_P D cl (w u) t.heap ∧ va_K D cl tys t ∧ va_D (va_A w0 sz) (w u)) (va_A w0 sz)) 0 0 (va_A w0 sz)
abbrev MWl {U : Type} (l : Launch) (y : MethodName) (ws : List Cond) (rm : Room) (D : va_G) (cl : List vw_C) (tys : List (ClassId × FieldType)) (av : List Value) (sz : Nat) (w0 : va_W) (w : U → va_W) (pr : U → Int64) (F : U) : Prop := Met l y ws rm (va_Pc av (fun U => U.heap.size = sz ∧ va_P D cl w0 U.heap ∧ va_K D cl tys U ∧ va_D (fun _ => True) w0)) (va_Ql (fun r (u : U) => r = pr u ∧ u = F) (fun u t => va_P D cl (w u) t.heap ∧ va_K D cl tys t ∧ va_D (va_A w0 sz) (w u)) (va_A w0 sz)) 0 0 (va_A w0 sz)
abbrev MWv {U : Type} (l : Launch) (y : MethodName) (ws : List Cond) (rm : Room) (D : va_G) (cl : List vw_C) (tys : List (ClassId × FieldType)) (av : List Value) (sz : Nat) (w0 : va_W) (w : U → va_W) (F : U) : Prop := Met l y ws rm (va_Pc av (fun U => U.heap.size = sz ∧ va_P D cl w0 U.heap ∧ va_K D cl tys U ∧ va_D (fun _ => True) w0)) (va_Qv (fun (u : U) => u = F) (fun u t => va_P D cl (w u) t.heap ∧ va_K D cl tys t ∧ va_D (va_A w0 sz) (w u)) (va_A w0 sz)) 0 0 (va_A w0 sz)
section
variable {p : Program} {l : Launch} {e : Env} {R : Room} {s : State} {m : MethodId} {args : Array Value} {below : List Frame} {meth : Method} {c : Code} {H : Heap} {locs : List Loc} {cells slots : Nat} {Q : State → Prop} {cc : ByteArray} {pc : Nat} {ls : Array Slot} {st rest : List Value} {D : va_G} {cl : List vw_C} {ws w0 : va_W} {A : Nat → Prop} {H0 : Heap} {tys : List (ClassId × FieldType)} {a : Array Value}
theorem lq_lt (hexec : p.tables.exec = Jvm.exec) (hb : c.code = cc) {x y : Int64} {off : Int} {tgt : Nat} (hd1 : decode cc pc = .ok (.lcmp, 1)) (hdg : decode cc (pc + 1) = .ok (.ifCond .lt off, 3)) (ht : ((pc + 1 : Nat) : Int) + off = (tgt : Int)) (kt : x < y → W p l e R s m args below meth c H locs cells slots Q (F0 m tgt ls rest)) (kf : ¬ x < y → W p l e R s m args below meth c H locs cells slots Q (F0 m (pc + 1 + 3) ls rest)) : W p l e R s m args below meth c H locs cells slots Q (F0 m pc ls (.long y :: .long x :: rest)) := W.lcmp hexec hb hd1 (lv_if_lt hexec hb hdg ht (fun h => kt (lc_lt.mp h)) (fun h => kf (fun h' => h (lc_lt.mpr h'))))
theorem lq_ge (hexec : p.tables.exec = Jvm.exec) (hb : c.code = cc) {x y : Int64} {off : Int} {tgt : Nat} (hd1 : decode cc pc = .ok (.lcmp, 1)) (hdg : decode cc (pc + 1) = .ok (.ifCond .ge off, 3)) (ht : ((pc + 1 : Nat) : Int) + off = (tgt : Int)) (kt : ¬ x < y → W p l e R s m args below meth c H locs cells slots Q (F0 m tgt ls rest)) (kf : x < y → W p l e R s m args below meth c H locs cells slots Q (F0 m (pc + 1 + 3) ls rest)) : W p l e R s m args below meth c H locs cells slots Q (F0 m pc ls (.long y :: .long x :: rest)) := W.lcmp hexec hb hd1 (lv_if_ge hexec hb hdg ht (fun h => kt (lc_ge.mp h)) (fun h => kf (Decidable.of_not_not (fun h' => h (lc_ge.mpr h')))))
theorem lq_gt (hexec : p.tables.exec = Jvm.exec) (hb : c.code = cc) {x y : Int64} {off : Int} {tgt : Nat} (hd1 : decode cc pc = .ok (.lcmp, 1)) (hdg : decode cc (pc + 1) = .ok (.ifCond .gt off, 3)) (ht : ((pc + 1 : Nat) : Int) + off = (tgt : Int)) (kt : y < x → W p l e R s m args below meth c H locs cells slots Q (F0 m tgt ls rest)) (kf : ¬ y < x → W p l e R s m args below meth c H locs cells slots Q (F0 m (pc + 1 + 3) ls rest)) : W p l e R s m args below meth c H locs cells slots Q (F0 m pc ls (.long y :: .long x :: rest)) := W.lcmp hexec hb hd1 (lv_if_gt hexec hb hdg ht (fun h => kt (lc_gt.mp h)) (fun h => kf (fun h' => h (lc_gt.mpr h'))))
theorem lq_le (hexec : p.tables.exec = Jvm.exec) (hb : c.code = cc) {x y : Int64} {off : Int} {tgt : Nat} (hd1 : decode cc pc = .ok (.lcmp, 1)) (hdg : decode cc (pc + 1) = .ok (.ifCond .le off, 3)) (ht : ((pc + 1 : Nat) : Int) + off = (tgt : Int)) (kt : ¬ y < x → W p l e R s m args below meth c H locs cells slots Q (F0 m tgt ls rest)) (kf : y < x → W p l e R s m args below meth c H locs cells slots Q (F0 m (pc + 1 + 3) ls rest)) : W p l e R s m args below meth c H locs cells slots Q (F0 m pc ls (.long y :: .long x :: rest)) := W.lcmp hexec hb hd1 (lv_if_le hexec hb hdg ht (fun h => kt (lc_le.mp h)) (fun h => kf (Decidable.of_not_not (fun h' => h (lc_le.mpr h')))))
theorem lq_eq (hexec : p.tables.exec = Jvm.exec) (hb : c.code = cc) {x y : Int64} {off : Int} {tgt : Nat} (hd1 : decode cc pc = .ok (.lcmp, 1)) (hdg : decode cc (pc + 1) = .ok (.ifCond .eq off, 3)) (ht : ((pc + 1 : Nat) : Int) + off = (tgt : Int)) (kt : x = y → W p l e R s m args below meth c H locs cells slots Q (F0 m tgt ls rest)) (kf : ¬ x = y → W p l e R s m args below meth c H locs cells slots Q (F0 m (pc + 1 + 3) ls rest)) : W p l e R s m args below meth c H locs cells slots Q (F0 m pc ls (.long y :: .long x :: rest)) := W.lcmp hexec hb hd1 (lv_if_eq hexec hb hdg ht (fun h => kt (lc_eq.mp h)) (fun h => kf (fun h' => h (lc_eq.mpr h'))))
theorem lq_ne (hexec : p.tables.exec = Jvm.exec) (hb : c.code = cc) {x y : Int64} {off : Int} {tgt : Nat} (hd1 : decode cc pc = .ok (.lcmp, 1)) (hdg : decode cc (pc + 1) = .ok (.ifCond .ne off, 3)) (ht : ((pc + 1 : Nat) : Int) + off = (tgt : Int)) (kt : ¬ x = y → W p l e R s m args below meth c H locs cells slots Q (F0 m tgt ls rest)) (kf : x = y → W p l e R s m args below meth c H locs cells slots Q (F0 m (pc + 1 + 3) ls rest)) : W p l e R s m args below meth c H locs cells slots Q (F0 m pc ls (.long y :: .long x :: rest)) := W.lcmp hexec hb hd1 (lv_if_ne hexec hb hdg ht (fun h => kt (fun h' => h (lc_eq.mpr h'))) (fun h => kf (lc_eq.mp h)))
/-- the end of a diamond: what comes behind it is proved once, for a named value -/
theorem lj_i {j : Nat} {z0 : Int32} (hP : va_P D cl ws H) (hS : va_S A H0 H locs) (tail : ∀ (H : Heap) (locs : List Loc), va_P D cl ws H → va_S A H0 H locs → ∀ z : Int32, z = z0 → W p l e R s m args below meth c H locs cells slots Q (F0 m j ls (.int z :: rest))) (arms : (∀ (H : Heap) (locs : List Loc), va_P D cl ws H → va_S A H0 H locs → W p l e R s m args below meth c H locs cells slots Q (F0 m j ls (.int z0 :: rest))) → W p l e R s m args below meth c H locs cells slots Q (F0 m pc ls st)) : W p l e R s m args below meth c H locs cells slots Q (F0 m pc ls st) := arms (fun H locs hP hS => tail H locs hP hS z0 rfl)
theorem lj_l {j : Nat} {z0 : Int64} (hP : va_P D cl ws H) (hS : va_S A H0 H locs) (tail : ∀ (H : Heap) (locs : List Loc), va_P D cl ws H → va_S A H0 H locs → ∀ z : Int64, z = z0 → W p l e R s m args below meth c H locs cells slots Q (F0 m j ls (.long z :: rest))) (arms : (∀ (H : Heap) (locs : List Loc), va_P D cl ws H → va_S A H0 H locs → W p l e R s m args below meth c H locs cells slots Q (F0 m j ls (.long z0 :: rest))) → W p l e R s m args below meth c H locs cells slots Q (F0 m pc ls st)) : W p l e R s m args below meth c H locs cells slots Q (F0 m pc ls st) := arms (fun H locs hP hS => tail H locs hP hS z0 rfl)
theorem fr_A {w : va_W} (hD : va_D A w) (hS : va_S A s.heap H locs) (hA : ∀ q : Nat, s.heap.size ≤ q → A q) : ∀ q, va_A w H.size q → A q := fun q h => h.elim (fun ⟨k, e, hk⟩ => hD.2 k (q, e) hk) (fun h => hA q (Nat.le_trans hS.1 h))
theorem fr_D : va_D A [] := ⟨fun i j p q h => by simp at h, fun k q h => by simp at h⟩
theorem cs_i {v : Int32} (hr : va_Run p l e R s m args below meth c H locs cells slots 0 0 (F0 m pc ls st) rest (va_Qi (fun r (_ : Unit) => r = v) (fun _ _ => True) (va_A [] H.size) a) (va_A [] H.size)) (hA : ∀ q : Nat, s.heap.size ≤ q → A q) (hP : va_P D cl ws H) (hS : va_S A s.heap H locs) (kk : ∀ (H1 : Heap) (locs1 : List Loc), va_P D cl ws H1 → va_S A s.heap H1 locs1 → W p l e R s m args below meth c H1 locs1 cells slots Q (F0 m (pc + 3) ls (.int v :: rest))) : W p l e R s m args below meth c H locs cells slots Q (F0 m pc ls st) := by
  have hF := fr_A (A := A) (w := []) fr_D hS hA
  refine va_calli hr hS (fun q _ h => hF q h) hF (fun r u t H1 locs1 ht hvm hw hB hz hk hS1 => ?_)
  have hw : r = v := hw
  rw [hw]
  exact kk H1 locs1 (hP.kept (fun k q hq => hk q.1 (hP k q hq).lt (fun h => h.elim (fun ⟨k, e, hk⟩ => by simp at hk) (fun h9 => absurd (hP k q hq).lt (Nat.not_lt.mpr h9))))) hS1
theorem cs_l {v : Int64} (hr : va_Run p l e R s m args below meth c H locs cells slots 0 0 (F0 m pc ls st) rest (va_Ql (fun r (_ : Unit) => r = v) (fun _ _ => True) (va_A [] H.size) a) (va_A [] H.size)) (hA : ∀ q : Nat, s.heap.size ≤ q → A q) (hP : va_P D cl ws H) (hS : va_S A s.heap H locs) (kk : ∀ (H1 : Heap) (locs1 : List Loc), va_P D cl ws H1 → va_S A s.heap H1 locs1 → W p l e R s m args below meth c H1 locs1 cells slots Q (F0 m (pc + 3) ls (.long v :: rest))) : W p l e R s m args below meth c H locs cells slots Q (F0 m pc ls st) := by
  have hF := fr_A (A := A) (w := []) fr_D hS hA
  refine va_calll hr hS (fun q _ h => hF q h) hF (fun r u t H1 locs1 ht hvm hw hB hz hk hS1 => ?_)
  have hw : r = v := hw
  rw [hw]
  exact kk H1 locs1 (hP.kept (fun k q hq => hk q.1 (hP k q hq).lt (fun h => h.elim (fun ⟨k, e, hk⟩ => by simp at hk) (fun h9 => absurd (hP k q hq).lt (Nat.not_lt.mpr h9))))) hS1
theorem cr_i {v : Int32} (hr : va_Run p l e R s m args below meth c H locs cells slots 0 0 (F0 m pc ls st) rest (va_Qi (fun r (_ : Unit) => r = v) (fun _ t => va_P D cl w0 t.heap ∧ va_K D cl tys t ∧ va_D (va_A w0 H.size) w0) (va_A w0 H.size) a) (va_A w0 H.size)) (hA : ∀ q : Nat, s.heap.size ≤ q → A q) (hD : va_D A w0) (_hP : va_P D cl w0 H) (hS : va_S A s.heap H locs) (kk : ∀ (H1 : Heap) (locs1 : List Loc), va_P D cl w0 H1 → va_S A s.heap H1 locs1 → W p l e R s m args below meth c H1 locs1 cells slots Q (F0 m (pc + 3) ls (.int v :: rest))) : W p l e R s m args below meth c H locs cells slots Q (F0 m pc ls st) := by
  have hF := fr_A hD hS hA
  refine va_calli hr hS (fun q _ h => hF q h) hF (fun r u t H1 locs1 ht hvm hw hB hz hk hS1 => ?_)
  have hw : r = v := hw
  rw [hw]
  obtain ⟨hP1, -, -⟩ := hB
  rw [ht] at hP1
  exact kk H1 locs1 hP1 hS1
theorem cr_l {v : Int64} (hr : va_Run p l e R s m args below meth c H locs cells slots 0 0 (F0 m pc ls st) rest (va_Ql (fun r (_ : Unit) => r = v) (fun _ t => va_P D cl w0 t.heap ∧ va_K D cl tys t ∧ va_D (va_A w0 H.size) w0) (va_A w0 H.size) a) (va_A w0 H.size)) (hA : ∀ q : Nat, s.heap.size ≤ q → A q) (hD : va_D A w0) (_hP : va_P D cl w0 H) (hS : va_S A s.heap H locs) (kk : ∀ (H1 : Heap) (locs1 : List Loc), va_P D cl w0 H1 → va_S A s.heap H1 locs1 → W p l e R s m args below meth c H1 locs1 cells slots Q (F0 m (pc + 3) ls (.long v :: rest))) : W p l e R s m args below meth c H locs cells slots Q (F0 m pc ls st) := by
  have hF := fr_A hD hS hA
  refine va_calll hr hS (fun q _ h => hF q h) hF (fun r u t H1 locs1 ht hvm hw hB hz hk hS1 => ?_)
  have hw : r = v := hw
  rw [hw]
  obtain ⟨hP1, -, -⟩ := hB
  rw [ht] at hP1
  exact kk H1 locs1 hP1 hS1
theorem cw_i {U : Type} {w : U → va_W} {pr : U → Int32} {F : U} (hr : va_Run p l e R s m args below meth c H locs cells slots 0 0 (F0 m pc ls st) rest (va_Qi (fun r (u : U) => r = pr u ∧ u = F) (fun u t => va_P D cl (w u) t.heap ∧ va_K D cl tys t ∧ va_D (va_A w0 H.size) (w u)) (va_A w0 H.size) a) (va_A w0 H.size)) (hA : ∀ q : Nat, s.heap.size ≤ q → A q) (hD : va_D A w0) (_hP : va_P D cl w0 H) (hS : va_S A s.heap H locs) (kk : ∀ (o : U) (H1 : Heap) (locs1 : List Loc), o = F → va_P D cl (w o) H1 → va_D A (w o) → va_S A s.heap H1 locs1 → W p l e R s m args below meth c H1 locs1 cells slots Q (F0 m (pc + 3) ls (.int (pr o) :: rest))) : W p l e R s m args below meth c H locs cells slots Q (F0 m pc ls st) := by
  have hF := fr_A hD hS hA
  refine va_calli hr hS (fun q _ h => hF q h) hF (fun r u t H1 locs1 ht hvm hw hB hz hk hS1 => ?_)
  have hw : r = pr u ∧ u = F := hw
  rw [hw.1]
  obtain ⟨hP1, -, hD1⟩ := hB
  rw [ht] at hP1
  exact kk u H1 locs1 hw.2 hP1 (hD1.weaken (fun k q hk h => hF q.1 h)) hS1
theorem cw_l {U : Type} {w : U → va_W} {pr : U → Int64} {F : U} (hr : va_Run p l e R s m args below meth c H locs cells slots 0 0 (F0 m pc ls st) rest (va_Ql (fun r (u : U) => r = pr u ∧ u = F) (fun u t => va_P D cl (w u) t.heap ∧ va_K D cl tys t ∧ va_D (va_A w0 H.size) (w u)) (va_A w0 H.size) a) (va_A w0 H.size)) (hA : ∀ q : Nat, s.heap.size ≤ q → A q) (hD : va_D A w0) (_hP : va_P D cl w0 H) (hS : va_S A s.heap H locs) (kk : ∀ (o : U) (H1 : Heap) (locs1 : List Loc), o = F → va_P D cl (w o) H1 → va_D A (w o) → va_S A s.heap H1 locs1 → W p l e R s m args below meth c H1 locs1 cells slots Q (F0 m (pc + 3) ls (.long (pr o) :: rest))) : W p l e R s m args below meth c H locs cells slots Q (F0 m pc ls st) := by
  have hF := fr_A hD hS hA
  refine va_calll hr hS (fun q _ h => hF q h) hF (fun r u t H1 locs1 ht hvm hw hB hz hk hS1 => ?_)
  have hw : r = pr u ∧ u = F := hw
  rw [hw.1]
  obtain ⟨hP1, -, hD1⟩ := hB
  rw [ht] at hP1
  exact kk u H1 locs1 hw.2 hP1 (hD1.weaken (fun k q hk h => hF q.1 h)) hS1
theorem cw_v {U : Type} {w : U → va_W} {F : U} (hr : va_Run p l e R s m args below meth c H locs cells slots 0 0 (F0 m pc ls st) rest (va_Qv (fun (u : U) => u = F) (fun u t => va_P D cl (w u) t.heap ∧ va_K D cl tys t ∧ va_D (va_A w0 H.size) (w u)) (va_A w0 H.size) a) (va_A w0 H.size)) (hA : ∀ q : Nat, s.heap.size ≤ q → A q) (hD : va_D A w0) (_hP : va_P D cl w0 H) (hS : va_S A s.heap H locs) (kk : ∀ (o : U) (H1 : Heap) (locs1 : List Loc), o = F → va_P D cl (w o) H1 → va_D A (w o) → va_S A s.heap H1 locs1 → W p l e R s m args below meth c H1 locs1 cells slots Q (F0 m (pc + 3) ls (rest))) : W p l e R s m args below meth c H locs cells slots Q (F0 m pc ls st) := by
  have hF := fr_A hD hS hA
  refine va_callv hr hS (fun q _ h => hF q h) hF (fun u t H1 locs1 ht hvm hw hB hz hk hS1 => ?_)
  have hw : u = F := hw
  obtain ⟨hP1, -, hD1⟩ := hB
  rw [ht] at hP1
  exact kk u H1 locs1 hw hP1 (hD1.weaken (fun k q hk h => hF q.1 h)) hS1
end
/-- an array's cell knows its contents below its length only -/
theorem vc_congr {cA : ClassId} {N : Nat} {f g : Nat → Int32} (h : ∀ j, j < N → f j = g j) : vp_cell cA (N, .inl f) = vp_cell cA (N, .inl g) := by
  show arrV cA N (fun j => .int (f j)) = arrV cA N (fun j => .int (g j))
  unfold arrV
  congr 1
  apply Array.ext
  · simp
  · intro i h1 h2
    simp only [Array.size_ofFn] at h1
    simp [h i h1]
/-- a loop at pc j, by a measure that falls -/
theorem lw_loop {p : Program} {l : Launch} {e : Env} {R : Room} {s : State} {m : MethodId} {args : Array Value} {below : List Frame} {meth : Method} {c : Code} {cells slots : Nat} {Q : State → Prop} {j : Nat} {st : List Value} {σ : Type} (Hp : σ → Heap) (Lc : σ → List Loc) (Ls : σ → Array Slot) (Inv : Nat → σ → Prop) (step : ∀ (n : Nat) (x : σ), Inv n x → (∀ (n' : Nat) (x' : σ), n' < n → Inv n' x' → W p l e R s m args below meth c (Hp x') (Lc x') cells slots Q (F0 m j (Ls x') st)) → W p l e R s m args below meth c (Hp x) (Lc x) cells slots Q (F0 m j (Ls x) st)) : ∀ (n : Nat) (x : σ), Inv n x → W p l e R s m args below meth c (Hp x) (Lc x) cells slots Q (F0 m j (Ls x) st) := by
  intro n
  induction n using Nat.strongRecOn with
  | _ n ih => exact fun x hx => step n x hx (fun n' x' hn hx' => ih n' hn x' hx')
end
section
/-! Numbers: where an index lies -/
theorem i4 : (4 : Int32) = nI 4 := rfl
theorem ii_of {x M : Int32} {n : Nat} (hM : M = nI n) (hn : n < 2 ^ 31) (h : ¬ x < 0) (h5 : ¬ M ≤ x) : ∃ j : Nat, j < n ∧ x = nI j := by
  obtain ⟨j, hj, rfl⟩ := nI_of h
  refine ⟨j, ?_, rfl⟩
  rcases Nat.lt_or_ge j n with q | q
  · exact q
  · exact absurd (by rw [hM]; exact nI_le q hj) h5
theorem ll_of {x M : Int64} {n : Nat} (hM : M = lN n) (hn : n < 2 ^ 63) (h : ¬ x < 0) (h5 : x < M) : ∃ j : Nat, j < n ∧ x = lN j := by
  obtain ⟨j, hj, rfl⟩ := pk_lOf h
  refine ⟨j, ?_, rfl⟩
  rw [hM] at h5
  exact (pk_lLT hj hn).mp h5
theorem vi_place {x : Int64} (h : ¬ x < 0) (h5 : x < 262144) : vp_in (x.toInt32 / 4) 65536 := by
  obtain ⟨j, hj, rfl⟩ := ll_of (n := 262144) rfl (by decide) h h5
  rw [lN_i, i4, pk_div (by omega) (by decide) (by decide)]
  exact vp_in_nI (by omega) (by decide)
theorem pg_N {x : Int32} (h1 : ¬ x < 1) (h2 : ¬ 1024 < x) : ∃ N : Nat, 1 ≤ N ∧ N ≤ 1024 ∧ x = nI N := by
  have h0 : ¬ x < 0 := fun h => h1 (Int32.lt_trans h (by decide))
  obtain ⟨j, hj, rfl⟩ := nI_of h0
  refine ⟨j, ?_, ?_, rfl⟩
  · rcases Nat.lt_or_ge j 1 with q | q
    · exact absurd (show nI j < nI 1 from nI_lt q (by decide)) h1
    · exact q
  · rcases Nat.lt_or_ge 1024 j with q | q
    · exact absurd (show nI 1024 < nI j from nI_lt q hj) h2
    · exact q
end
section
/-! StageWalker: the world of an object (its cell, its array), and the methods that look at no object -/
abbrev wx (h0 : Nat) (q_words : Nat) (k_words : ClassId) (v_atp : Int32) (v_vsAtp : Int32) (v_hgatp : Int32) (v_rights : Int32) (v_latestPlace : Int32) (v_latestSecond : Int32) (v_latestEntry : Int32) (v_refusedAddress : Int64) (v_refusedEntry : Int32) (m_words : Nat → Int32) : va_W := [(h0, .inr (0, [.ref q_words, .int v_atp, .int v_vsAtp, .int v_hgatp, .int v_rights, .int v_latestPlace, .int v_latestSecond, .int v_latestEntry, .long v_refusedAddress, .int v_refusedEntry])), (q_words, .inl (k_words, 65536, .inl m_words))]
def fx_isWordOfMemory (a0 : Int32) : Int32 := if a0 < 0 then 0 else if 262144 ≤ a0 then 0 else if (a0 - a0 / 4 * 4) = 0 then 1 else 0
set_option maxHeartbeats 4000000 in
set_option maxRecDepth 100000 in
theorem ctx_isWordOfMemory (l : Launch) (sz : Nat) (a0 : Int32) : MPi l yX0_isWordOfMemory wsX0_isWordOfMemory ({ frames := 0, cells := 0, slots := 0, locals := 0 }) [.int a0] sz (fx_isWordOfMemory a0) := by
  refine Met.ofW (cc := cX0_isWordOfMemory) (maxL := 1) (ret := (some .boolean)) (by decide) rfl ?_
  intro p e s m args below meth c s₁ B hml hv
  obtain ⟨rfl, hsz⟩ := hv
  have hx := B.exec
  have hb := B.bytes
  have hr := B.returns
  have hts := atoms_spec (ws := wsX0_isWordOfMemory) B.pre
  have hown : s.vm.findClass RX0 = some m.cls := findClass_of_methodNamed B.named
  have hlocks := B.notSynchronized
  subst hsz
  generalize hAe : va_A [] s.heap.size = A
  have hA : ∀ q : Nat, s.heap.size ≤ q → A q := fun q h => by rw [← hAe]; exact Or.inr h
  have hS : va_S A s.heap s.heap [] := va_S.rf
  have hP : va_P (fun _ => m.cls, fun _ _ => 0) vwCl [] s.heap := fun k q h => by simp at h
  have hl := lv_entry ([.int a0]) (n := 1) (Nat.le_of_ble_eq_true rfl)
  rw [lg_entry_eq]
  generalize (lg_sl ([.int a0]) ++ List.replicate (1 - (lg_sl ([.int a0])).length) Slot.unset).toArray = ls at hl ⊢
  have hl : lv_has ls 1 [(0, .int a0)] := hl
  refine lv_iload_n hx hb dX0_isWordOfMemory_0 rfl (lv_at hl 0 rfl) ?_
  refine lv_if_lt (tgt := 20) hx hb dX0_isWordOfMemory_1 (by decide) (fun c_1 => ?_) (fun c_1 => ?_)
  · skip
    refine lv_iconst (v := 0) hx hb dX0_isWordOfMemory_20 (by decide) ?_
    exact W.zret (v := 0) (ty := .boolean) hx hb hr nb_0 (fun t ht hW => ⟨⟨_, (), rfl, by rw [fx_isWordOfMemory, if_pos c_1] <;> rfl, trivial⟩, hS.F ht⟩) hS.2.2 dX0_isWordOfMemory_21
  · skip
    refine lv_iload_n hx hb dX0_isWordOfMemory_4 rfl (lv_at hl 0 rfl) ?_
    refine lv_ldc hx hb hown (hts (.constant RX0 71 262144) (by decide +kernel)) dX0_isWordOfMemory_5 ?_
    refine lv_icmp_ge (tgt := 20) hx hb dX0_isWordOfMemory_7 (by decide) (fun c_7 => ?_) (fun c_7 => ?_)
    · skip
      refine lv_iconst (v := 0) hx hb dX0_isWordOfMemory_20 (by decide) ?_
      exact W.zret (v := 0) (ty := .boolean) hx hb hr nb_0 (fun t ht hW => ⟨⟨_, (), rfl, by rw [fx_isWordOfMemory, if_neg c_1, if_pos c_7] <;> rfl, trivial⟩, hS.F ht⟩) hS.2.2 dX0_isWordOfMemory_21
    · skip
      refine lv_iload_n hx hb dX0_isWordOfMemory_10 rfl (lv_at hl 0 rfl) ?_
      refine lv_iconst (v := 4) hx hb dX0_isWordOfMemory_11 (by decide) ?_
      refine lv_irem hx hb dX0_isWordOfMemory_12 (by decide) ?_
      refine lv_if_ne (tgt := 20) hx hb dX0_isWordOfMemory_13 (by decide) (fun c_13 => ?_) (fun c_13 => ?_)
      · skip
        refine lv_iconst (v := 0) hx hb dX0_isWordOfMemory_20 (by decide) ?_
        exact W.zret (v := 0) (ty := .boolean) hx hb hr nb_0 (fun t ht hW => ⟨⟨_, (), rfl, by rw [fx_isWordOfMemory, if_neg c_1, if_neg c_7, if_neg c_13] <;> rfl, trivial⟩, hS.F ht⟩) hS.2.2 dX0_isWordOfMemory_21
      · skip
        refine lv_iconst (v := 1) hx hb dX0_isWordOfMemory_16 (by decide) ?_
        refine lv_goto (tgt := 21) hx hb dX0_isWordOfMemory_17 (by decide) ?_
        exact W.zret (v := 1) (ty := .boolean) hx hb hr nb_1 (fun t ht hW => ⟨⟨_, (), rfl, by rw [fx_isWordOfMemory, if_neg c_1, if_neg c_7, if_pos c_13] <;> rfl, trivial⟩, hS.F ht⟩) hS.2.2 dX0_isWordOfMemory_21
def fx_isVirtual (a0 : Int32) : Int32 := if a0 < 2 then 0 else 1
set_option maxHeartbeats 4000000 in
set_option maxRecDepth 100000 in
theorem ctx_isVirtual (l : Launch) (sz : Nat) (a0 : Int32) : MPi l yX0_isVirtual wsX0_isVirtual ({ frames := 0, cells := 0, slots := 0, locals := 0 }) [.int a0] sz (fx_isVirtual a0) := by
  refine Met.ofW (cc := cX0_isVirtual) (maxL := 1) (ret := (some .boolean)) (by decide) rfl ?_
  intro p e s m args below meth c s₁ B hml hv
  obtain ⟨rfl, hsz⟩ := hv
  have hx := B.exec
  have hb := B.bytes
  have hr := B.returns
  have hts := atoms_spec (ws := wsX0_isVirtual) B.pre
  have hown : s.vm.findClass RX0 = some m.cls := findClass_of_methodNamed B.named
  have hlocks := B.notSynchronized
  subst hsz
  generalize hAe : va_A [] s.heap.size = A
  have hA : ∀ q : Nat, s.heap.size ≤ q → A q := fun q h => by rw [← hAe]; exact Or.inr h
  have hS : va_S A s.heap s.heap [] := va_S.rf
  have hP : va_P (fun _ => m.cls, fun _ _ => 0) vwCl [] s.heap := fun k q h => by simp at h
  have hl := lv_entry ([.int a0]) (n := 1) (Nat.le_of_ble_eq_true rfl)
  rw [lg_entry_eq]
  generalize (lg_sl ([.int a0]) ++ List.replicate (1 - (lg_sl ([.int a0])).length) Slot.unset).toArray = ls at hl ⊢
  have hl : lv_has ls 1 [(0, .int a0)] := hl
  refine lv_iload_n hx hb dX0_isVirtual_0 rfl (lv_at hl 0 rfl) ?_
  refine lv_iconst (v := 2) hx hb dX0_isVirtual_1 (by decide) ?_
  refine lv_icmp_lt (tgt := 9) hx hb dX0_isVirtual_2 (by decide) (fun c_2 => ?_) (fun c_2 => ?_)
  · skip
    refine lv_iconst (v := 0) hx hb dX0_isVirtual_9 (by decide) ?_
    exact W.zret (v := 0) (ty := .boolean) hx hb hr nb_0 (fun t ht hW => ⟨⟨_, (), rfl, by rw [fx_isVirtual, if_pos c_2] <;> rfl, trivial⟩, hS.F ht⟩) hS.2.2 dX0_isVirtual_10
  · skip
    refine lv_iconst (v := 1) hx hb dX0_isVirtual_5 (by decide) ?_
    refine lv_goto (tgt := 10) hx hb dX0_isVirtual_6 (by decide) ?_
    exact W.zret (v := 1) (ty := .boolean) hx hb hr nb_1 (fun t ht hW => ⟨⟨_, (), rfl, by rw [fx_isVirtual, if_neg c_2] <;> rfl, trivial⟩, hS.F ht⟩) hS.2.2 dX0_isVirtual_10
def fx_isKnown (a0 : Int32) (a1 : Int32) : Int32 := if a0 < 0 then 0 else if 3 < a0 then 0 else if a1 < 0 then 0 else if ((if ((fx_isVirtual a0)) = 0 then 2 else 3 : Int32)) < a1 then 0 else 1
set_option maxHeartbeats 4000000 in
set_option maxRecDepth 100000 in
theorem ctx_isKnown (l : Launch) (sz : Nat) (a0 : Int32) (a1 : Int32) : MPi l yX0_isKnown wsX0_isKnown ({ frames := 1, cells := 0, slots := 0, locals := 20 }) [.int a0, .int a1] sz (fx_isKnown a0 a1) := by
  refine Met.ofW (cc := cX0_isKnown) (maxL := 3) (ret := (some .boolean)) (by decide) rfl ?_
  intro p e s m args below meth c s₁ B hml hv
  obtain ⟨rfl, hsz⟩ := hv
  have hx := B.exec
  have hb := B.bytes
  have hr := B.returns
  have hts := atoms_spec (ws := wsX0_isKnown) B.pre
  have hown : s.vm.findClass RX0 = some m.cls := findClass_of_methodNamed B.named
  have hlocks := B.notSynchronized
  subst hsz
  generalize hAe : va_A [] s.heap.size = A
  have hA : ∀ q : Nat, s.heap.size ≤ q → A q := fun q h => by rw [← hAe]; exact Or.inr h
  have hS : va_S A s.heap s.heap [] := va_S.rf
  have hP : va_P (fun _ => m.cls, fun _ _ => 0) vwCl [] s.heap := fun k q h => by simp at h
  have hl := lv_entry ([.int a0, .int a1]) (n := 3) (Nat.le_of_ble_eq_true rfl)
  rw [lg_entry_eq]
  generalize (lg_sl ([.int a0, .int a1]) ++ List.replicate (3 - (lg_sl ([.int a0, .int a1])).length) Slot.unset).toArray = ls at hl ⊢
  have hl : lv_has ls 3 [(0, .int a0), (1, .int a1)] := hl
  refine lv_iload_n hx hb dX0_isKnown_0 rfl (lv_at hl 0 rfl) ?_
  refine cs_i (va_runS (As := [.int a0]) (rest := []) ⟨hx, hb, hml, hown, hts⟩ (ctx_isVirtual l s.heap.size a0) (va_cwS 1 hts gX0_isKnown_X0_isVirtual rfl rfl rfl (by decide +kernel) ⟨Nat.le_of_ble_eq_true rfl, Nat.le_of_ble_eq_true rfl⟩) ⟨fun a U g mk q => q, fun U hU hW => ⟨rfl, congrArg Array.size hU⟩⟩ rfl rfl hl.1 rfl (lv_room (Nat.le_of_ble_eq_true rfl)) dX0_isKnown_1 ⟨Nat.zero_le _, Nat.zero_le _⟩) hA hP hS (fun H locs hP hS => ?_)
  refine lj_i (j := 12) (z0 := if ((fx_isVirtual a0)) = 0 then 2 else 3) (rest := []) hP hS (fun H locs hP hS z_1 ez_1 => ?_) (fun J12_4 => ?_)
  · skip
    refine lv_istore_n (lv' := [(2, .int z_1), (0, .int a0), (1, .int a1)]) hx hb dX0_isKnown_12 rfl hl (by decide) rfl (fun ls hl => ?_)
    refine lv_iload_n hx hb dX0_isKnown_13 rfl (lv_at hl 1 rfl) ?_
    refine lv_if_lt (tgt := 35) hx hb dX0_isKnown_14 (by decide) (fun c_14 => ?_) (fun c_14 => ?_)
    · skip
      refine lv_iconst (v := 0) hx hb dX0_isKnown_35 (by decide) ?_
      exact W.zret (v := 0) (ty := .boolean) hx hb hr nb_0 (fun t ht hW => ⟨⟨_, (), rfl, by subst ez_1; rw [fx_isKnown, if_pos c_14] <;> rfl, trivial⟩, hS.F ht⟩) hS.2.2 dX0_isKnown_36
    · skip
      refine lv_iload_n hx hb dX0_isKnown_17 rfl (lv_at hl 1 rfl) ?_
      refine lv_iconst (v := 3) hx hb dX0_isKnown_18 (by decide) ?_
      refine lv_icmp_gt (tgt := 35) hx hb dX0_isKnown_19 (by decide) (fun c_19 => ?_) (fun c_19 => ?_)
      · skip
        refine lv_iconst (v := 0) hx hb dX0_isKnown_35 (by decide) ?_
        exact W.zret (v := 0) (ty := .boolean) hx hb hr nb_0 (fun t ht hW => ⟨⟨_, (), rfl, by subst ez_1; rw [fx_isKnown, if_neg c_14, if_pos c_19] <;> rfl, trivial⟩, hS.F ht⟩) hS.2.2 dX0_isKnown_36
      · skip
        refine lv_iload_n hx hb dX0_isKnown_22 rfl (lv_at hl 2 rfl) ?_
        refine lv_if_lt (tgt := 35) hx hb dX0_isKnown_23 (by decide) (fun c_23 => ?_) (fun c_23 => ?_)
        · skip
          refine lv_iconst (v := 0) hx hb dX0_isKnown_35 (by decide) ?_
          exact W.zret (v := 0) (ty := .boolean) hx hb hr nb_0 (fun t ht hW => ⟨⟨_, (), rfl, by subst ez_1; rw [fx_isKnown, if_neg c_14, if_neg c_19, if_pos c_23] <;> rfl, trivial⟩, hS.F ht⟩) hS.2.2 dX0_isKnown_36
        · skip
          refine lv_iload_n hx hb dX0_isKnown_26 rfl (lv_at hl 2 rfl) ?_
          refine lv_iload_n hx hb dX0_isKnown_27 rfl (lv_at hl 0 rfl) ?_
          refine lv_icmp_gt (tgt := 35) hx hb dX0_isKnown_28 (by decide) (fun c_28 => ?_) (fun c_28 => ?_)
          · skip
            refine lv_iconst (v := 0) hx hb dX0_isKnown_35 (by decide) ?_
            exact W.zret (v := 0) (ty := .boolean) hx hb hr nb_0 (fun t ht hW => ⟨⟨_, (), rfl, by subst ez_1; rw [fx_isKnown, if_neg c_14, if_neg c_19, if_neg c_23, if_pos c_28] <;> rfl, trivial⟩, hS.F ht⟩) hS.2.2 dX0_isKnown_36
          · skip
            refine lv_iconst (v := 1) hx hb dX0_isKnown_31 (by decide) ?_
            refine lv_goto (tgt := 36) hx hb dX0_isKnown_32 (by decide) ?_
            exact W.zret (v := 1) (ty := .boolean) hx hb hr nb_1 (fun t ht hW => ⟨⟨_, (), rfl, by subst ez_1; rw [fx_isKnown, if_neg c_14, if_neg c_19, if_neg c_23, if_neg c_28] <;> rfl, trivial⟩, hS.F ht⟩) hS.2.2 dX0_isKnown_36
  · skip
    refine lv_if_eq (tgt := 11) hx hb dX0_isKnown_4 (by decide) (fun c_4 => ?_) (fun c_4 => ?_)
    · skip
      refine lv_iconst (v := 2) hx hb dX0_isKnown_11 (by decide) ?_
      exact W.eq (by rw [if_pos c_4] <;> rfl) (J12_4 _ _ hP hS)
    · skip
      refine lv_iconst (v := 3) hx hb dX0_isKnown_7 (by decide) ?_
      refine lv_goto (tgt := 12) hx hb dX0_isKnown_8 (by decide) ?_
      exact W.eq (by rw [if_neg c_4] <;> rfl) (J12_4 _ _ hP hS)
def fx_upperEntry (a0 : Int32) (a1 : Int64) : Int64 := (a0.toInt64 * 4096) + (4 * (jlushr a1 22))
set_option maxHeartbeats 4000000 in
set_option maxRecDepth 100000 in
theorem ctx_upperEntry (l : Launch) (sz : Nat) (a0 : Int32) (a1 : Int64) : MPl l yX0_upperEntry wsX0_upperEntry ({ frames := 0, cells := 0, slots := 0, locals := 0 }) [.int a0, .long a1] sz (fx_upperEntry a0 a1) := by
  refine Met.ofW (cc := cX0_upperEntry) (maxL := 3) (ret := (some .long)) (by decide) rfl ?_
  intro p e s m args below meth c s₁ B hml hv
  obtain ⟨rfl, hsz⟩ := hv
  have hx := B.exec
  have hb := B.bytes
  have hr := B.returns
  have hts := atoms_spec (ws := wsX0_upperEntry) B.pre
  have hown : s.vm.findClass RX0 = some m.cls := findClass_of_methodNamed B.named
  have hlocks := B.notSynchronized
  subst hsz
  generalize hAe : va_A [] s.heap.size = A
  have hA : ∀ q : Nat, s.heap.size ≤ q → A q := fun q h => by rw [← hAe]; exact Or.inr h
  have hS : va_S A s.heap s.heap [] := va_S.rf
  have hP : va_P (fun _ => m.cls, fun _ _ => 0) vwCl [] s.heap := fun k q h => by simp at h
  have hl := lv_entry ([.int a0, .long a1]) (n := 3) (Nat.le_of_ble_eq_true rfl)
  rw [lg_entry_eq]
  generalize (lg_sl ([.int a0, .long a1]) ++ List.replicate (3 - (lg_sl ([.int a0, .long a1])).length) Slot.unset).toArray = ls at hl ⊢
  have hl : lv_has ls 3 [(0, .int a0), (1, .long a1)] := hl
  refine lv_iload_n hx hb dX0_upperEntry_0 rfl (lv_at hl 0 rfl) ?_
  refine lv_i2l (v := a0.toInt64) hx hb dX0_upperEntry_1 rfl ?_
  refine lv_ldc2 hx hb hown (hts (.constantLong RX0 69 4096) (by decide +kernel)) dX0_upperEntry_2 ?_
  refine lv_lmul hx hb dX0_upperEntry_5 ?_
  refine lv_ldc2 hx hb hown (hts (.constantLong RX0 128 4) (by decide +kernel)) dX0_upperEntry_6 ?_
  refine lv_lload_n hx hb dX0_upperEntry_9 rfl (lv_at hl 1 rfl) ?_
  refine lv_bipush (v := 22) hx hb dX0_upperEntry_10 (by decide) ?_
  refine lv_lushr (v := jlushr a1 22) hx hb dX0_upperEntry_12 rfl ?_
  refine lv_lmul hx hb dX0_upperEntry_13 ?_
  refine lv_ladd hx hb dX0_upperEntry_14 ?_
  exact W.lret (v := (a0.toInt64 * 4096) + (4 * (jlushr a1 22))) hx hb hr (fun t ht hW => ⟨⟨_, (), rfl, by rfl, trivial⟩, hS.F ht⟩) hS.2.2 dX0_upperEntry_15
def fx_lowerEntry (a0 : Int64) (a1 : Int64) : Int64 := ((jlushr a0 10) * 4096) + (4 * ((jlushr a1 12) &&& 1023))
set_option maxHeartbeats 4000000 in
set_option maxRecDepth 100000 in
theorem ctx_lowerEntry (l : Launch) (sz : Nat) (a0 : Int64) (a1 : Int64) : MPl l yX0_lowerEntry wsX0_lowerEntry ({ frames := 0, cells := 0, slots := 0, locals := 0 }) [.long a0, .long a1] sz (fx_lowerEntry a0 a1) := by
  refine Met.ofW (cc := cX0_lowerEntry) (maxL := 4) (ret := (some .long)) (by decide) rfl ?_
  intro p e s m args below meth c s₁ B hml hv
  obtain ⟨rfl, hsz⟩ := hv
  have hx := B.exec
  have hb := B.bytes
  have hr := B.returns
  have hts := atoms_spec (ws := wsX0_lowerEntry) B.pre
  have hown : s.vm.findClass RX0 = some m.cls := findClass_of_methodNamed B.named
  have hlocks := B.notSynchronized
  subst hsz
  generalize hAe : va_A [] s.heap.size = A
  have hA : ∀ q : Nat, s.heap.size ≤ q → A q := fun q h => by rw [← hAe]; exact Or.inr h
  have hS : va_S A s.heap s.heap [] := va_S.rf
  have hP : va_P (fun _ => m.cls, fun _ _ => 0) vwCl [] s.heap := fun k q h => by simp at h
  have hl := lv_entry ([.long a0, .long a1]) (n := 4) (Nat.le_of_ble_eq_true rfl)
  rw [lg_entry_eq]
  generalize (lg_sl ([.long a0, .long a1]) ++ List.replicate (4 - (lg_sl ([.long a0, .long a1])).length) Slot.unset).toArray = ls at hl ⊢
  have hl : lv_has ls 4 [(0, .long a0), (2, .long a1)] := hl
  refine lv_lload_n hx hb dX0_lowerEntry_0 rfl (lv_at hl 0 rfl) ?_
  refine lv_bipush (v := 10) hx hb dX0_lowerEntry_1 (by decide) ?_
  refine lv_lushr (v := jlushr a0 10) hx hb dX0_lowerEntry_3 rfl ?_
  refine lv_ldc2 hx hb hown (hts (.constantLong RX0 69 4096) (by decide +kernel)) dX0_lowerEntry_4 ?_
  refine lv_lmul hx hb dX0_lowerEntry_7 ?_
  refine lv_ldc2 hx hb hown (hts (.constantLong RX0 128 4) (by decide +kernel)) dX0_lowerEntry_8 ?_
  refine lv_lload_n hx hb dX0_lowerEntry_11 rfl (lv_at hl 1 rfl) ?_
  refine lv_bipush (v := 12) hx hb dX0_lowerEntry_12 (by decide) ?_
  refine lv_lushr (v := jlushr a1 12) hx hb dX0_lowerEntry_14 rfl ?_
  refine lv_ldc2 hx hb hown (hts (.constantLong RX0 130 1023) (by decide +kernel)) dX0_lowerEntry_15 ?_
  refine lv_land hx hb dX0_lowerEntry_18 ?_
  refine lv_lmul hx hb dX0_lowerEntry_19 ?_
  refine lv_ladd hx hb dX0_lowerEntry_20 ?_
  exact W.lret (v := ((jlushr a0 10) * 4096) + (4 * ((jlushr a1 12) &&& 1023))) hx hb hr (fun t ht hW => ⟨⟨_, (), rfl, by rfl, trivial⟩, hS.F ht⟩) hS.2.2 dX0_lowerEntry_21
def fx_isTable (a0 : Int64) : Int32 := if (a0 &&& 223) = 1 then 1 else 0
set_option maxHeartbeats 4000000 in
set_option maxRecDepth 100000 in
theorem ctx_isTable (l : Launch) (sz : Nat) (a0 : Int64) : MPi l yX0_isTable wsX0_isTable ({ frames := 0, cells := 0, slots := 0, locals := 0 }) [.long a0] sz (fx_isTable a0) := by
  refine Met.ofW (cc := cX0_isTable) (maxL := 2) (ret := (some .boolean)) (by decide) rfl ?_
  intro p e s m args below meth c s₁ B hml hv
  obtain ⟨rfl, hsz⟩ := hv
  have hx := B.exec
  have hb := B.bytes
  have hr := B.returns
  have hts := atoms_spec (ws := wsX0_isTable) B.pre
  have hown : s.vm.findClass RX0 = some m.cls := findClass_of_methodNamed B.named
  have hlocks := B.notSynchronized
  subst hsz
  generalize hAe : va_A [] s.heap.size = A
  have hA : ∀ q : Nat, s.heap.size ≤ q → A q := fun q h => by rw [← hAe]; exact Or.inr h
  have hS : va_S A s.heap s.heap [] := va_S.rf
  have hP : va_P (fun _ => m.cls, fun _ _ => 0) vwCl [] s.heap := fun k q h => by simp at h
  have hl := lv_entry ([.long a0]) (n := 2) (Nat.le_of_ble_eq_true rfl)
  rw [lg_entry_eq]
  generalize (lg_sl ([.long a0]) ++ List.replicate (2 - (lg_sl ([.long a0])).length) Slot.unset).toArray = ls at hl ⊢
  have hl : lv_has ls 2 [(0, .long a0)] := hl
  refine lv_lload_n hx hb dX0_isTable_0 rfl (lv_at hl 0 rfl) ?_
  refine lv_ldc2 hx hb hown (hts (.constantLong RX0 132 223) (by decide +kernel)) dX0_isTable_1 ?_
  refine lv_land hx hb dX0_isTable_4 ?_
  refine lv_lconst (v := 1) hx hb dX0_isTable_5 (by decide) ?_
  refine lq_ne (tgt := 14) hx hb dX0_isTable_6 dX0_isTable_7 (by decide) (fun c_7 => ?_) (fun c_7 => ?_)
  · skip
    refine lv_iconst (v := 0) hx hb dX0_isTable_14 (by decide) ?_
    exact W.zret (v := 0) (ty := .boolean) hx hb hr nb_0 (fun t ht hW => ⟨⟨_, (), rfl, by rw [fx_isTable, if_neg c_7] <;> rfl, trivial⟩, hS.F ht⟩) hS.2.2 dX0_isTable_15
  · skip
    refine lv_iconst (v := 1) hx hb dX0_isTable_10 (by decide) ?_
    refine lv_goto (tgt := 15) hx hb dX0_isTable_11 (by decide) ?_
    exact W.zret (v := 1) (ty := .boolean) hx hb hr nb_1 (fun t ht hW => ⟨⟨_, (), rfl, by rw [fx_isTable, if_pos c_7] <;> rfl, trivial⟩, hS.F ht⟩) hS.2.2 dX0_isTable_15
def fx_isGoodLeaf (a0 : Int64) (a1 : Int32) : Int32 := if ((if (a0 &&& 1) = 0 then 0 else if (a0 &&& 14) = 0 then 0 else 1 : Int32)) = 0 then 0 else if ((if (a0 &&& 6) = 4 then 1 else 0 : Int32)) = 0 then if ((if a1 = 0 then 0 else if (a0 &&& 1047552) = 0 then 0 else 1 : Int32)) = 0 then 1 else 0 else 0
set_option maxHeartbeats 4000000 in
set_option maxRecDepth 100000 in
theorem ctx_isGoodLeaf (l : Launch) (sz : Nat) (a0 : Int64) (a1 : Int32) : MPi l yX0_isGoodLeaf wsX0_isGoodLeaf ({ frames := 0, cells := 0, slots := 0, locals := 0 }) [.long a0, .int a1] sz (fx_isGoodLeaf a0 a1) := by
  refine Met.ofW (cc := cX0_isGoodLeaf) (maxL := 6) (ret := (some .boolean)) (by decide) rfl ?_
  intro p e s m args below meth c s₁ B hml hv
  obtain ⟨rfl, hsz⟩ := hv
  have hx := B.exec
  have hb := B.bytes
  have hr := B.returns
  have hts := atoms_spec (ws := wsX0_isGoodLeaf) B.pre
  have hown : s.vm.findClass RX0 = some m.cls := findClass_of_methodNamed B.named
  have hlocks := B.notSynchronized
  subst hsz
  generalize hAe : va_A [] s.heap.size = A
  have hA : ∀ q : Nat, s.heap.size ≤ q → A q := fun q h => by rw [← hAe]; exact Or.inr h
  have hS : va_S A s.heap s.heap [] := va_S.rf
  have hP : va_P (fun _ => m.cls, fun _ _ => 0) vwCl [] s.heap := fun k q h => by simp at h
  have hl := lv_entry ([.long a0, .int a1]) (n := 6) (Nat.le_of_ble_eq_true rfl)
  rw [lg_entry_eq]
  generalize (lg_sl ([.long a0, .int a1]) ++ List.replicate (6 - (lg_sl ([.long a0, .int a1])).length) Slot.unset).toArray = ls at hl ⊢
  have hl : lv_has ls 6 [(0, .long a0), (2, .int a1)] := hl
  refine lv_lload_n hx hb dX0_isGoodLeaf_0 rfl (lv_at hl 0 rfl) ?_
  refine lv_lconst (v := 1) hx hb dX0_isGoodLeaf_1 (by decide) ?_
  refine lv_land hx hb dX0_isGoodLeaf_2 ?_
  refine lv_lconst (v := 0) hx hb dX0_isGoodLeaf_3 (by decide) ?_
  refine lj_i (j := 23) (z0 := if (a0 &&& 1) = 0 then 0 else if (a0 &&& 14) = 0 then 0 else 1) (rest := []) hP hS (fun H locs hP hS z_1 ez_1 => ?_) (fun J23_5 => ?_)
  · skip
    have oz_1 : z_1 = 0 ∨ z_1 = 1 := by rw [ez_1]; exact ite01 (Or.inl rfl) (ite01 (Or.inl rfl) (Or.inr rfl))
    refine lv_istore_n (lv' := [(3, .int z_1), (0, .long a0), (2, .int a1)]) hx hb dX0_isGoodLeaf_23 rfl hl (by decide) rfl (fun ls hl => ?_)
    refine lv_lload_n hx hb dX0_isGoodLeaf_24 rfl (lv_at hl 1 rfl) ?_
    refine lv_ldc2 hx hb hown (hts (.constantLong RX0 136 6) (by decide +kernel)) dX0_isGoodLeaf_25 ?_
    refine lv_land hx hb dX0_isGoodLeaf_28 ?_
    refine lv_ldc2 hx hb hown (hts (.constantLong RX0 128 4) (by decide +kernel)) dX0_isGoodLeaf_29 ?_
    refine lj_i (j := 41) (z0 := if (a0 &&& 6) = 4 then 1 else 0) (rest := []) hP hS (fun H locs hP hS z_2 ez_2 => ?_) (fun J41_33 => ?_)
    · skip
      have oz_2 : z_2 = 0 ∨ z_2 = 1 := by rw [ez_2]; exact ite01 (Or.inr rfl) (Or.inl rfl)
      refine lv_istore (lv' := [(4, .int z_2), (3, .int z_1), (0, .long a0), (2, .int a1)]) hx hb dX0_isGoodLeaf_41 hl (by decide) rfl (fun ls hl => ?_)
      refine lv_iload_n hx hb dX0_isGoodLeaf_43 rfl (lv_at hl 3 rfl) ?_
      refine lj_i (j := 62) (z0 := if a1 = 0 then 0 else if (a0 &&& 1047552) = 0 then 0 else 1) (rest := []) hP hS (fun H locs hP hS z_3 ez_3 => ?_) (fun J62_44 => ?_)
      · skip
        have oz_3 : z_3 = 0 ∨ z_3 = 1 := by rw [ez_3]; exact ite01 (Or.inl rfl) (ite01 (Or.inl rfl) (Or.inr rfl))
        refine lv_istore (lv' := [(5, .int z_3), (4, .int z_2), (3, .int z_1), (0, .long a0), (2, .int a1)]) hx hb dX0_isGoodLeaf_62 hl (by decide) rfl (fun ls hl => ?_)
        refine lv_iload_n hx hb dX0_isGoodLeaf_64 rfl (lv_at hl 2 rfl) ?_
        refine lv_if_eq (tgt := 82) hx hb dX0_isGoodLeaf_65 (by decide) (fun c_65 => ?_) (fun c_65 => ?_)
        · skip
          refine lv_iconst (v := 0) hx hb dX0_isGoodLeaf_82 (by decide) ?_
          exact W.zret (v := 0) (ty := .boolean) hx hb hr nb_0 (fun t ht hW => ⟨⟨_, (), rfl, by subst ez_3; subst ez_2; subst ez_1; rw [fx_isGoodLeaf, if_pos c_65] <;> rfl, trivial⟩, hS.F ht⟩) hS.2.2 dX0_isGoodLeaf_83
        · skip
          refine lv_iload hx hb dX0_isGoodLeaf_68 (lv_at hl 1 rfl) ?_
          refine lv_if_ne (tgt := 82) hx hb dX0_isGoodLeaf_70 (by decide) (fun c_70 => ?_) (fun c_70 => ?_)
          · skip
            refine lv_iconst (v := 0) hx hb dX0_isGoodLeaf_82 (by decide) ?_
            exact W.zret (v := 0) (ty := .boolean) hx hb hr nb_0 (fun t ht hW => ⟨⟨_, (), rfl, by subst ez_3; subst ez_2; subst ez_1; rw [fx_isGoodLeaf, if_neg c_65, if_neg c_70] <;> rfl, trivial⟩, hS.F ht⟩) hS.2.2 dX0_isGoodLeaf_83
          · skip
            refine lv_iload hx hb dX0_isGoodLeaf_73 (lv_at hl 0 rfl) ?_
            refine lv_if_ne (tgt := 82) hx hb dX0_isGoodLeaf_75 (by decide) (fun c_75 => ?_) (fun c_75 => ?_)
            · skip
              refine lv_iconst (v := 0) hx hb dX0_isGoodLeaf_82 (by decide) ?_
              exact W.zret (v := 0) (ty := .boolean) hx hb hr nb_0 (fun t ht hW => ⟨⟨_, (), rfl, by subst ez_3; subst ez_2; subst ez_1; rw [fx_isGoodLeaf, if_neg c_65, if_pos c_70, if_neg c_75] <;> rfl, trivial⟩, hS.F ht⟩) hS.2.2 dX0_isGoodLeaf_83
            · skip
              refine lv_iconst (v := 1) hx hb dX0_isGoodLeaf_78 (by decide) ?_
              refine lv_goto (tgt := 83) hx hb dX0_isGoodLeaf_79 (by decide) ?_
              exact W.zret (v := 1) (ty := .boolean) hx hb hr nb_1 (fun t ht hW => ⟨⟨_, (), rfl, by subst ez_3; subst ez_2; subst ez_1; rw [fx_isGoodLeaf, if_neg c_65, if_pos c_70, if_pos c_75] <;> rfl, trivial⟩, hS.F ht⟩) hS.2.2 dX0_isGoodLeaf_83
      · skip
        refine lv_if_eq (tgt := 61) hx hb dX0_isGoodLeaf_44 (by decide) (fun c_44 => ?_) (fun c_44 => ?_)
        · skip
          refine lv_iconst (v := 0) hx hb dX0_isGoodLeaf_61 (by decide) ?_
          exact W.eq (by rw [if_pos c_44] <;> rfl) (J62_44 _ _ hP hS)
        · skip
          refine lv_lload_n hx hb dX0_isGoodLeaf_47 rfl (lv_at hl 2 rfl) ?_
          refine lv_ldc2 hx hb hown (hts (.constantLong RX0 138 1047552) (by decide +kernel)) dX0_isGoodLeaf_48 ?_
          refine lv_land hx hb dX0_isGoodLeaf_51 ?_
          refine lv_lconst (v := 0) hx hb dX0_isGoodLeaf_52 (by decide) ?_
          refine lq_eq (tgt := 61) hx hb dX0_isGoodLeaf_53 dX0_isGoodLeaf_54 (by decide) (fun c_54 => ?_) (fun c_54 => ?_)
          · skip
            refine lv_iconst (v := 0) hx hb dX0_isGoodLeaf_61 (by decide) ?_
            exact W.eq (by rw [if_neg c_44, if_pos c_54] <;> rfl) (J62_44 _ _ hP hS)
          · skip
            refine lv_iconst (v := 1) hx hb dX0_isGoodLeaf_57 (by decide) ?_
            refine lv_goto (tgt := 62) hx hb dX0_isGoodLeaf_58 (by decide) ?_
            exact W.eq (by rw [if_neg c_44, if_neg c_54] <;> rfl) (J62_44 _ _ hP hS)
    · skip
      refine lq_ne (tgt := 40) hx hb dX0_isGoodLeaf_32 dX0_isGoodLeaf_33 (by decide) (fun c_33 => ?_) (fun c_33 => ?_)
      · skip
        refine lv_iconst (v := 0) hx hb dX0_isGoodLeaf_40 (by decide) ?_
        exact W.eq (by rw [if_neg c_33] <;> rfl) (J41_33 _ _ hP hS)
      · skip
        refine lv_iconst (v := 1) hx hb dX0_isGoodLeaf_36 (by decide) ?_
        refine lv_goto (tgt := 41) hx hb dX0_isGoodLeaf_37 (by decide) ?_
        exact W.eq (by rw [if_pos c_33] <;> rfl) (J41_33 _ _ hP hS)
  · skip
    refine lq_eq (tgt := 22) hx hb dX0_isGoodLeaf_4 dX0_isGoodLeaf_5 (by decide) (fun c_5 => ?_) (fun c_5 => ?_)
    · skip
      refine lv_iconst (v := 0) hx hb dX0_isGoodLeaf_22 (by decide) ?_
      exact W.eq (by rw [if_pos c_5] <;> rfl) (J23_5 _ _ hP hS)
    · skip
      refine lv_lload_n hx hb dX0_isGoodLeaf_8 rfl (lv_at hl 0 rfl) ?_
      refine lv_ldc2 hx hb hown (hts (.constantLong RX0 134 14) (by decide +kernel)) dX0_isGoodLeaf_9 ?_
      refine lv_land hx hb dX0_isGoodLeaf_12 ?_
      refine lv_lconst (v := 0) hx hb dX0_isGoodLeaf_13 (by decide) ?_
      refine lq_eq (tgt := 22) hx hb dX0_isGoodLeaf_14 dX0_isGoodLeaf_15 (by decide) (fun c_15 => ?_) (fun c_15 => ?_)
      · skip
        refine lv_iconst (v := 0) hx hb dX0_isGoodLeaf_22 (by decide) ?_
        exact W.eq (by rw [if_neg c_5, if_pos c_15] <;> rfl) (J23_5 _ _ hP hS)
      · skip
        refine lv_iconst (v := 1) hx hb dX0_isGoodLeaf_18 (by decide) ?_
        refine lv_goto (tgt := 23) hx hb dX0_isGoodLeaf_19 (by decide) ?_
        exact W.eq (by rw [if_neg c_5, if_neg c_15] <;> rfl) (J23_5 _ _ hP hS)
def fx_grants (a0 : Int32) (a1 : Int64) (a2 : Int32) : Int32 := if (a1 &&& 64) = 0 then 0 else if a0 = 2 then if (a1 &&& 4) = 0 then 0 else if (a1 &&& 128) = 0 then 0 else 1 else if a0 = 1 then if (a1 &&& ((if a2 = 0 then 2 else 10 : Int64))) = 0 then 0 else 1 else if (a1 &&& 8) = 0 then 0 else 1
set_option maxHeartbeats 4000000 in
set_option maxRecDepth 100000 in
theorem ctx_grants (l : Launch) (sz : Nat) (a0 : Int32) (a1 : Int64) (a2 : Int32) : MPi l yX0_grants wsX0_grants ({ frames := 0, cells := 0, slots := 0, locals := 0 }) [.int a0, .long a1, .int a2] sz (fx_grants a0 a1 a2) := by
  refine Met.ofW (cc := cX0_grants) (maxL := 4) (ret := (some .boolean)) (by decide) rfl ?_
  intro p e s m args below meth c s₁ B hml hv
  obtain ⟨rfl, hsz⟩ := hv
  have hx := B.exec
  have hb := B.bytes
  have hr := B.returns
  have hts := atoms_spec (ws := wsX0_grants) B.pre
  have hown : s.vm.findClass RX0 = some m.cls := findClass_of_methodNamed B.named
  have hlocks := B.notSynchronized
  subst hsz
  generalize hAe : va_A [] s.heap.size = A
  have hA : ∀ q : Nat, s.heap.size ≤ q → A q := fun q h => by rw [← hAe]; exact Or.inr h
  have hS : va_S A s.heap s.heap [] := va_S.rf
  have hP : va_P (fun _ => m.cls, fun _ _ => 0) vwCl [] s.heap := fun k q h => by simp at h
  have hl := lv_entry ([.int a0, .long a1, .int a2]) (n := 4) (Nat.le_of_ble_eq_true rfl)
  rw [lg_entry_eq]
  generalize (lg_sl ([.int a0, .long a1, .int a2]) ++ List.replicate (4 - (lg_sl ([.int a0, .long a1, .int a2])).length) Slot.unset).toArray = ls at hl ⊢
  have hl : lv_has ls 4 [(0, .int a0), (1, .long a1), (3, .int a2)] := hl
  refine lv_lload_n hx hb dX0_grants_0 rfl (lv_at hl 1 rfl) ?_
  refine lv_ldc2 hx hb hown (hts (.constantLong RX0 148 64) (by decide +kernel)) dX0_grants_1 ?_
  refine lv_land hx hb dX0_grants_4 ?_
  refine lv_lconst (v := 0) hx hb dX0_grants_5 (by decide) ?_
  refine lq_ne (tgt := 12) hx hb dX0_grants_6 dX0_grants_7 (by decide) (fun c_7 => ?_) (fun c_7 => ?_)
  · skip
    refine lv_iload_n hx hb dX0_grants_12 rfl (lv_at hl 0 rfl) ?_
    refine lv_iconst (v := 2) hx hb dX0_grants_13 (by decide) ?_
    refine lv_icmp_ne (tgt := 43) hx hb dX0_grants_14 (by decide) (fun c_14 => ?_) (fun c_14 => ?_)
    · skip
      refine lv_iload_n hx hb dX0_grants_43 rfl (lv_at hl 0 rfl) ?_
      refine lv_iconst (v := 1) hx hb dX0_grants_44 (by decide) ?_
      refine lv_icmp_ne (tgt := 74) hx hb dX0_grants_45 (by decide) (fun c_45 => ?_) (fun c_45 => ?_)
      · skip
        refine lv_lload_n hx hb dX0_grants_74 rfl (lv_at hl 1 rfl) ?_
        refine lv_ldc2 hx hb hown (hts (.constantLong RX0 156 8) (by decide +kernel)) dX0_grants_75 ?_
        refine lv_land hx hb dX0_grants_78 ?_
        refine lv_lconst (v := 0) hx hb dX0_grants_79 (by decide) ?_
        refine lq_eq (tgt := 88) hx hb dX0_grants_80 dX0_grants_81 (by decide) (fun c_81 => ?_) (fun c_81 => ?_)
        · skip
          refine lv_iconst (v := 0) hx hb dX0_grants_88 (by decide) ?_
          exact W.zret (v := 0) (ty := .boolean) hx hb hr nb_0 (fun t ht hW => ⟨⟨_, (), rfl, by rw [fx_grants, if_neg c_7, if_neg c_14, if_neg c_45, if_pos c_81] <;> rfl, trivial⟩, hS.F ht⟩) hS.2.2 dX0_grants_89
        · skip
          refine lv_iconst (v := 1) hx hb dX0_grants_84 (by decide) ?_
          refine lv_goto (tgt := 89) hx hb dX0_grants_85 (by decide) ?_
          exact W.zret (v := 1) (ty := .boolean) hx hb hr nb_1 (fun t ht hW => ⟨⟨_, (), rfl, by rw [fx_grants, if_neg c_7, if_neg c_14, if_neg c_45, if_neg c_81] <;> rfl, trivial⟩, hS.F ht⟩) hS.2.2 dX0_grants_89
      · skip
        refine lv_lload_n hx hb dX0_grants_48 rfl (lv_at hl 1 rfl) ?_
        refine lv_iload_n hx hb dX0_grants_49 rfl (lv_at hl 2 rfl) ?_
        refine lj_l (j := 62) (z0 := if a2 = 0 then 2 else 10) (rest := [.long a1]) hP hS (fun H locs hP hS z_1 ez_1 => ?_) (fun J62_50 => ?_)
        · skip
          refine lv_land hx hb dX0_grants_62 ?_
          refine lv_lconst (v := 0) hx hb dX0_grants_63 (by decide) ?_
          refine lq_eq (tgt := 72) hx hb dX0_grants_64 dX0_grants_65 (by decide) (fun c_65 => ?_) (fun c_65 => ?_)
          · skip
            refine lv_iconst (v := 0) hx hb dX0_grants_72 (by decide) ?_
            exact W.zret (v := 0) (ty := .boolean) hx hb hr nb_0 (fun t ht hW => ⟨⟨_, (), rfl, by subst ez_1; rw [fx_grants, if_neg c_7, if_neg c_14, if_pos c_45, if_pos c_65] <;> rfl, trivial⟩, hS.F ht⟩) hS.2.2 dX0_grants_73
          · skip
            refine lv_iconst (v := 1) hx hb dX0_grants_68 (by decide) ?_
            refine lv_goto (tgt := 73) hx hb dX0_grants_69 (by decide) ?_
            exact W.zret (v := 1) (ty := .boolean) hx hb hr nb_1 (fun t ht hW => ⟨⟨_, (), rfl, by subst ez_1; rw [fx_grants, if_neg c_7, if_neg c_14, if_pos c_45, if_neg c_65] <;> rfl, trivial⟩, hS.F ht⟩) hS.2.2 dX0_grants_73
        · skip
          refine lv_if_eq (tgt := 59) hx hb dX0_grants_50 (by decide) (fun c_50 => ?_) (fun c_50 => ?_)
          · skip
            refine lv_ldc2 hx hb hown (hts (.constantLong RX0 154 2) (by decide +kernel)) dX0_grants_59 ?_
            exact W.eq (by rw [if_pos c_50] <;> rfl) (J62_50 _ _ hP hS)
          · skip
            refine lv_ldc2 hx hb hown (hts (.constantLong RX0 152 10) (by decide +kernel)) dX0_grants_53 ?_
            refine lv_goto (tgt := 62) hx hb dX0_grants_56 (by decide) ?_
            exact W.eq (by rw [if_neg c_50] <;> rfl) (J62_50 _ _ hP hS)
    · skip
      refine lv_lload_n hx hb dX0_grants_17 rfl (lv_at hl 1 rfl) ?_
      refine lv_ldc2 hx hb hown (hts (.constantLong RX0 128 4) (by decide +kernel)) dX0_grants_18 ?_
      refine lv_land hx hb dX0_grants_21 ?_
      refine lv_lconst (v := 0) hx hb dX0_grants_22 (by decide) ?_
      refine lq_eq (tgt := 41) hx hb dX0_grants_23 dX0_grants_24 (by decide) (fun c_24 => ?_) (fun c_24 => ?_)
      · skip
        refine lv_iconst (v := 0) hx hb dX0_grants_41 (by decide) ?_
        exact W.zret (v := 0) (ty := .boolean) hx hb hr nb_0 (fun t ht hW => ⟨⟨_, (), rfl, by rw [fx_grants, if_neg c_7, if_pos c_14, if_pos c_24] <;> rfl, trivial⟩, hS.F ht⟩) hS.2.2 dX0_grants_42
      · skip
        refine lv_lload_n hx hb dX0_grants_27 rfl (lv_at hl 1 rfl) ?_
        refine lv_ldc2 hx hb hown (hts (.constantLong RX0 150 128) (by decide +kernel)) dX0_grants_28 ?_
        refine lv_land hx hb dX0_grants_31 ?_
        refine lv_lconst (v := 0) hx hb dX0_grants_32 (by decide) ?_
        refine lq_eq (tgt := 41) hx hb dX0_grants_33 dX0_grants_34 (by decide) (fun c_34 => ?_) (fun c_34 => ?_)
        · skip
          refine lv_iconst (v := 0) hx hb dX0_grants_41 (by decide) ?_
          exact W.zret (v := 0) (ty := .boolean) hx hb hr nb_0 (fun t ht hW => ⟨⟨_, (), rfl, by rw [fx_grants, if_neg c_7, if_pos c_14, if_neg c_24, if_pos c_34] <;> rfl, trivial⟩, hS.F ht⟩) hS.2.2 dX0_grants_42
        · skip
          refine lv_iconst (v := 1) hx hb dX0_grants_37 (by decide) ?_
          refine lv_goto (tgt := 42) hx hb dX0_grants_38 (by decide) ?_
          exact W.zret (v := 1) (ty := .boolean) hx hb hr nb_1 (fun t ht hW => ⟨⟨_, (), rfl, by rw [fx_grants, if_neg c_7, if_pos c_14, if_neg c_24, if_neg c_34] <;> rfl, trivial⟩, hS.F ht⟩) hS.2.2 dX0_grants_42
  · skip
    refine lv_iconst (v := 0) hx hb dX0_grants_10 (by decide) ?_
    exact W.zret (v := 0) (ty := .boolean) hx hb hr nb_0 (fun t ht hW => ⟨⟨_, (), rfl, by rw [fx_grants, if_pos c_7] <;> rfl, trivial⟩, hS.F ht⟩) hS.2.2 dX0_grants_11
def fx_result (a0 : Int64) (a1 : Int32) (a2 : Int64) : Int64 := (((jlushr a0 10) * 4096) &&& (((if a1 = 0 then 4095 else 4194303 : Int64)) ^^^ ((-1)))) ||| (a2 &&& ((if a1 = 0 then 4095 else 4194303 : Int64)))
set_option maxHeartbeats 4000000 in
set_option maxRecDepth 100000 in
theorem ctx_result (l : Launch) (sz : Nat) (a0 : Int64) (a1 : Int32) (a2 : Int64) : MPl l yX0_result wsX0_result ({ frames := 0, cells := 0, slots := 0, locals := 0 }) [.long a0, .int a1, .long a2] sz (fx_result a0 a1 a2) := by
  refine Met.ofW (cc := cX0_result) (maxL := 7) (ret := (some .long)) (by decide) rfl ?_
  intro p e s m args below meth c s₁ B hml hv
  obtain ⟨rfl, hsz⟩ := hv
  have hx := B.exec
  have hb := B.bytes
  have hr := B.returns
  have hts := atoms_spec (ws := wsX0_result) B.pre
  have hown : s.vm.findClass RX0 = some m.cls := findClass_of_methodNamed B.named
  have hlocks := B.notSynchronized
  subst hsz
  generalize hAe : va_A [] s.heap.size = A
  have hA : ∀ q : Nat, s.heap.size ≤ q → A q := fun q h => by rw [← hAe]; exact Or.inr h
  have hS : va_S A s.heap s.heap [] := va_S.rf
  have hP : va_P (fun _ => m.cls, fun _ _ => 0) vwCl [] s.heap := fun k q h => by simp at h
  have hl := lv_entry ([.long a0, .int a1, .long a2]) (n := 7) (Nat.le_of_ble_eq_true rfl)
  rw [lg_entry_eq]
  generalize (lg_sl ([.long a0, .int a1, .long a2]) ++ List.replicate (7 - (lg_sl ([.long a0, .int a1, .long a2])).length) Slot.unset).toArray = ls at hl ⊢
  have hl : lv_has ls 7 [(0, .long a0), (2, .int a1), (3, .long a2)] := hl
  refine lv_iload_n hx hb dX0_result_0 rfl (lv_at hl 1 rfl) ?_
  refine lj_l (j := 13) (z0 := if a1 = 0 then 4095 else 4194303) (rest := []) hP hS (fun H locs hP hS z_1 ez_1 => ?_) (fun J13_1 => ?_)
  · skip
    refine lv_lstore (lv' := [(5, .long z_1), (0, .long a0), (2, .int a1), (3, .long a2)]) hx hb dX0_result_13 hl (by decide) rfl (fun ls hl => ?_)
    refine lv_lload_n hx hb dX0_result_15 rfl (lv_at hl 1 rfl) ?_
    refine lv_bipush (v := 10) hx hb dX0_result_16 (by decide) ?_
    refine lv_lushr (v := jlushr a0 10) hx hb dX0_result_18 rfl ?_
    refine lv_ldc2 hx hb hown (hts (.constantLong RX0 69 4096) (by decide +kernel)) dX0_result_19 ?_
    refine lv_lmul hx hb dX0_result_22 ?_
    refine lv_lload hx hb dX0_result_23 (lv_at hl 0 rfl) ?_
    refine lv_ldc2 hx hb hown (hts (.constantLong RX0 162 (-1)) (by decide +kernel)) dX0_result_25 ?_
    refine lv_lxor hx hb dX0_result_28 ?_
    refine lv_land hx hb dX0_result_29 ?_
    refine lv_lload_n hx hb dX0_result_30 rfl (lv_at hl 3 rfl) ?_
    refine lv_lload hx hb dX0_result_31 (lv_at hl 0 rfl) ?_
    refine lv_land hx hb dX0_result_33 ?_
    refine lv_lor hx hb dX0_result_34 ?_
    exact W.lret (v := (((jlushr a0 10) * 4096) &&& (z_1 ^^^ ((-1)))) ||| (a2 &&& z_1)) hx hb hr (fun t ht hW => ⟨⟨_, (), rfl, by subst ez_1; rfl, trivial⟩, hS.F ht⟩) hS.2.2 dX0_result_35
  · skip
    refine lv_if_eq (tgt := 10) hx hb dX0_result_1 (by decide) (fun c_1 => ?_) (fun c_1 => ?_)
    · skip
      refine lv_ldc2 hx hb hown (hts (.constantLong RX0 160 4095) (by decide +kernel)) dX0_result_10 ?_
      exact W.eq (by rw [if_pos c_1] <;> rfl) (J13_1 _ _ hP hS)
    · skip
      refine lv_ldc2 hx hb hown (hts (.constantLong RX0 158 4194303) (by decide +kernel)) dX0_result_4 ?_
      refine lv_goto (tgt := 13) hx hb dX0_result_7 (by decide) ?_
      exact W.eq (by rw [if_neg c_1] <;> rfl) (J13_1 _ _ hP hS)
def fx_noMemory (a0 : Int32) : Int64 := if a0 = 0 then (-1) else if a0 = 2 then (-7) else (-5)
set_option maxHeartbeats 4000000 in
set_option maxRecDepth 100000 in
theorem ctx_noMemory (l : Launch) (sz : Nat) (a0 : Int32) : MPl l yX0_noMemory wsX0_noMemory ({ frames := 0, cells := 0, slots := 0, locals := 0 }) [.int a0] sz (fx_noMemory a0) := by
  refine Met.ofW (cc := cX0_noMemory) (maxL := 1) (ret := (some .long)) (by decide) rfl ?_
  intro p e s m args below meth c s₁ B hml hv
  obtain ⟨rfl, hsz⟩ := hv
  have hx := B.exec
  have hb := B.bytes
  have hr := B.returns
  have hts := atoms_spec (ws := wsX0_noMemory) B.pre
  have hown : s.vm.findClass RX0 = some m.cls := findClass_of_methodNamed B.named
  have hlocks := B.notSynchronized
  subst hsz
  generalize hAe : va_A [] s.heap.size = A
  have hA : ∀ q : Nat, s.heap.size ≤ q → A q := fun q h => by rw [← hAe]; exact Or.inr h
  have hS : va_S A s.heap s.heap [] := va_S.rf
  have hP : va_P (fun _ => m.cls, fun _ _ => 0) vwCl [] s.heap := fun k q h => by simp at h
  have hl := lv_entry ([.int a0]) (n := 1) (Nat.le_of_ble_eq_true rfl)
  rw [lg_entry_eq]
  generalize (lg_sl ([.int a0]) ++ List.replicate (1 - (lg_sl ([.int a0])).length) Slot.unset).toArray = ls at hl ⊢
  have hl : lv_has ls 1 [(0, .int a0)] := hl
  refine lv_iload_n hx hb dX0_noMemory_0 rfl (lv_at hl 0 rfl) ?_
  refine lv_if_ne (tgt := 10) hx hb dX0_noMemory_1 (by decide) (fun c_1 => ?_) (fun c_1 => ?_)
  · skip
    refine lv_iload_n hx hb dX0_noMemory_10 rfl (lv_at hl 0 rfl) ?_
    refine lv_iconst (v := 2) hx hb dX0_noMemory_11 (by decide) ?_
    refine lv_icmp_ne (tgt := 21) hx hb dX0_noMemory_12 (by decide) (fun c_12 => ?_) (fun c_12 => ?_)
    · skip
      refine lv_ldc2 hx hb hown (hts (.constantLong RX0 166 (-5)) (by decide +kernel)) dX0_noMemory_21 ?_
      exact W.lret (v := (-5)) hx hb hr (fun t ht hW => ⟨⟨_, (), rfl, by rw [fx_noMemory, if_neg c_1, if_neg c_12] <;> rfl, trivial⟩, hS.F ht⟩) hS.2.2 dX0_noMemory_24
    · skip
      refine lv_ldc2 hx hb hown (hts (.constantLong RX0 164 (-7)) (by decide +kernel)) dX0_noMemory_15 ?_
      refine lv_goto (tgt := 24) hx hb dX0_noMemory_18 (by decide) ?_
      exact W.lret (v := (-7)) hx hb hr (fun t ht hW => ⟨⟨_, (), rfl, by rw [fx_noMemory, if_neg c_1, if_pos c_12] <;> rfl, trivial⟩, hS.F ht⟩) hS.2.2 dX0_noMemory_24
  · skip
    refine lv_ldc2 hx hb hown (hts (.constantLong RX0 162 (-1)) (by decide +kernel)) dX0_noMemory_4 ?_
    refine lv_goto (tgt := 24) hx hb dX0_noMemory_7 (by decide) ?_
    exact W.lret (v := (-1)) hx hb hr (fun t ht hW => ⟨⟨_, (), rfl, by rw [fx_noMemory, if_pos c_1] <;> rfl, trivial⟩, hS.F ht⟩) hS.2.2 dX0_noMemory_24
def fx_firstFault (a0 : Int32) : Int64 := if a0 = 0 then (-12) else if a0 = 2 then (-15) else (-13)
set_option maxHeartbeats 4000000 in
set_option maxRecDepth 100000 in
theorem ctx_firstFault (l : Launch) (sz : Nat) (a0 : Int32) : MPl l yX0_firstFault wsX0_firstFault ({ frames := 0, cells := 0, slots := 0, locals := 0 }) [.int a0] sz (fx_firstFault a0) := by
  refine Met.ofW (cc := cX0_firstFault) (maxL := 1) (ret := (some .long)) (by decide) rfl ?_
  intro p e s m args below meth c s₁ B hml hv
  obtain ⟨rfl, hsz⟩ := hv
  have hx := B.exec
  have hb := B.bytes
  have hr := B.returns
  have hts := atoms_spec (ws := wsX0_firstFault) B.pre
  have hown : s.vm.findClass RX0 = some m.cls := findClass_of_methodNamed B.named
  have hlocks := B.notSynchronized
  subst hsz
  generalize hAe : va_A [] s.heap.size = A
  have hA : ∀ q : Nat, s.heap.size ≤ q → A q := fun q h => by rw [← hAe]; exact Or.inr h
  have hS : va_S A s.heap s.heap [] := va_S.rf
  have hP : va_P (fun _ => m.cls, fun _ _ => 0) vwCl [] s.heap := fun k q h => by simp at h
  have hl := lv_entry ([.int a0]) (n := 1) (Nat.le_of_ble_eq_true rfl)
  rw [lg_entry_eq]
  generalize (lg_sl ([.int a0]) ++ List.replicate (1 - (lg_sl ([.int a0])).length) Slot.unset).toArray = ls at hl ⊢
  have hl : lv_has ls 1 [(0, .int a0)] := hl
  refine lv_iload_n hx hb dX0_firstFault_0 rfl (lv_at hl 0 rfl) ?_
  refine lv_if_ne (tgt := 10) hx hb dX0_firstFault_1 (by decide) (fun c_1 => ?_) (fun c_1 => ?_)
  · skip
    refine lv_iload_n hx hb dX0_firstFault_10 rfl (lv_at hl 0 rfl) ?_
    refine lv_iconst (v := 2) hx hb dX0_firstFault_11 (by decide) ?_
    refine lv_icmp_ne (tgt := 21) hx hb dX0_firstFault_12 (by decide) (fun c_12 => ?_) (fun c_12 => ?_)
    · skip
      refine lv_ldc2 hx hb hown (hts (.constantLong RX0 172 (-13)) (by decide +kernel)) dX0_firstFault_21 ?_
      exact W.lret (v := (-13)) hx hb hr (fun t ht hW => ⟨⟨_, (), rfl, by rw [fx_firstFault, if_neg c_1, if_neg c_12] <;> rfl, trivial⟩, hS.F ht⟩) hS.2.2 dX0_firstFault_24
    · skip
      refine lv_ldc2 hx hb hown (hts (.constantLong RX0 170 (-15)) (by decide +kernel)) dX0_firstFault_15 ?_
      refine lv_goto (tgt := 24) hx hb dX0_firstFault_18 (by decide) ?_
      exact W.lret (v := (-15)) hx hb hr (fun t ht hW => ⟨⟨_, (), rfl, by rw [fx_firstFault, if_neg c_1, if_pos c_12] <;> rfl, trivial⟩, hS.F ht⟩) hS.2.2 dX0_firstFault_24
  · skip
    refine lv_ldc2 hx hb hown (hts (.constantLong RX0 168 (-12)) (by decide +kernel)) dX0_firstFault_4 ?_
    refine lv_goto (tgt := 24) hx hb dX0_firstFault_7 (by decide) ?_
    exact W.lret (v := (-12)) hx hb hr (fun t ht hW => ⟨⟨_, (), rfl, by rw [fx_firstFault, if_pos c_1] <;> rfl, trivial⟩, hS.F ht⟩) hS.2.2 dX0_firstFault_24
def fx_secondFault (a0 : Int32) : Int64 := if a0 = 0 then (-20) else if a0 = 2 then (-23) else (-21)
set_option maxHeartbeats 4000000 in
set_option maxRecDepth 100000 in
theorem ctx_secondFault (l : Launch) (sz : Nat) (a0 : Int32) : MPl l yX0_secondFault wsX0_secondFault ({ frames := 0, cells := 0, slots := 0, locals := 0 }) [.int a0] sz (fx_secondFault a0) := by
  refine Met.ofW (cc := cX0_secondFault) (maxL := 1) (ret := (some .long)) (by decide) rfl ?_
  intro p e s m args below meth c s₁ B hml hv
  obtain ⟨rfl, hsz⟩ := hv
  have hx := B.exec
  have hb := B.bytes
  have hr := B.returns
  have hts := atoms_spec (ws := wsX0_secondFault) B.pre
  have hown : s.vm.findClass RX0 = some m.cls := findClass_of_methodNamed B.named
  have hlocks := B.notSynchronized
  subst hsz
  generalize hAe : va_A [] s.heap.size = A
  have hA : ∀ q : Nat, s.heap.size ≤ q → A q := fun q h => by rw [← hAe]; exact Or.inr h
  have hS : va_S A s.heap s.heap [] := va_S.rf
  have hP : va_P (fun _ => m.cls, fun _ _ => 0) vwCl [] s.heap := fun k q h => by simp at h
  have hl := lv_entry ([.int a0]) (n := 1) (Nat.le_of_ble_eq_true rfl)
  rw [lg_entry_eq]
  generalize (lg_sl ([.int a0]) ++ List.replicate (1 - (lg_sl ([.int a0])).length) Slot.unset).toArray = ls at hl ⊢
  have hl : lv_has ls 1 [(0, .int a0)] := hl
  refine lv_iload_n hx hb dX0_secondFault_0 rfl (lv_at hl 0 rfl) ?_
  refine lv_if_ne (tgt := 10) hx hb dX0_secondFault_1 (by decide) (fun c_1 => ?_) (fun c_1 => ?_)
  · skip
    refine lv_iload_n hx hb dX0_secondFault_10 rfl (lv_at hl 0 rfl) ?_
    refine lv_iconst (v := 2) hx hb dX0_secondFault_11 (by decide) ?_
    refine lv_icmp_ne (tgt := 21) hx hb dX0_secondFault_12 (by decide) (fun c_12 => ?_) (fun c_12 => ?_)
    · skip
      refine lv_ldc2 hx hb hown (hts (.constantLong RX0 178 (-21)) (by decide +kernel)) dX0_secondFault_21 ?_
      exact W.lret (v := (-21)) hx hb hr (fun t ht hW => ⟨⟨_, (), rfl, by rw [fx_secondFault, if_neg c_1, if_neg c_12] <;> rfl, trivial⟩, hS.F ht⟩) hS.2.2 dX0_secondFault_24
    · skip
      refine lv_ldc2 hx hb hown (hts (.constantLong RX0 176 (-23)) (by decide +kernel)) dX0_secondFault_15 ?_
      refine lv_goto (tgt := 24) hx hb dX0_secondFault_18 (by decide) ?_
      exact W.lret (v := (-23)) hx hb hr (fun t ht hW => ⟨⟨_, (), rfl, by rw [fx_secondFault, if_neg c_1, if_pos c_12] <;> rfl, trivial⟩, hS.F ht⟩) hS.2.2 dX0_secondFault_24
  · skip
    refine lv_ldc2 hx hb hown (hts (.constantLong RX0 174 (-20)) (by decide +kernel)) dX0_secondFault_4 ?_
    refine lv_goto (tgt := 24) hx hb dX0_secondFault_7 (by decide) ?_
    exact W.lret (v := (-20)) hx hb hr (fun t ht hW => ⟨⟨_, (), rfl, by rw [fx_secondFault, if_pos c_1] <;> rfl, trivial⟩, hS.F ht⟩) hS.2.2 dX0_secondFault_24
end
section
/-! StageWalker: methods that read, and the second stage -/
def fx_entryAt (m_words : Nat → Int32) (a0 : Int32) (a1 : Int64) : Int64 := if a1 < 0 then a1 else if a1 < 262144 then ((m_words (a1.toInt32 / 4).toNatClampNeg).toInt64) &&& 4294967295 else (fx_noMemory a0)
set_option maxHeartbeats 4000000 in
set_option maxRecDepth 100000 in
theorem ctx_entryAt (l : Launch) (dC : Nat → ClassId) (dI : Nat → Nat → Nat) (h0 : Nat) (q_words : Nat) (k_words : ClassId) (sz : Nat) (v_atp : Int32) (v_vsAtp : Int32) (v_hgatp : Int32) (v_rights : Int32) (v_latestPlace : Int32) (v_latestSecond : Int32) (v_latestEntry : Int32) (v_refusedAddress : Int64) (v_refusedEntry : Int32) (m_words : Nat → Int32) (a0 : Int32) (a1 : Int64) : MRl l yX0_entryAt wsX0_entryAt ({ frames := 1, cells := 0, slots := 0, locals := 20 }) (dC, dI) vwCl [(k_words, .int)] [.ref h0, .int a0, .long a1] sz (wx h0 q_words k_words v_atp v_vsAtp v_hgatp v_rights v_latestPlace v_latestSecond v_latestEntry v_refusedAddress v_refusedEntry m_words) (fx_entryAt m_words a0 a1) := by
  refine Met.ofW (cc := cX0_entryAt) (maxL := 4) (ret := (some .long)) (by decide) rfl ?_
  intro p e s m args below meth c s₁ B hml hv
  obtain ⟨rfl, hsz, hP, hK, hD0⟩ := hv
  have hx := B.exec
  have hb := B.bytes
  have hr := B.returns
  have hts := atoms_spec (ws := wsX0_entryAt) B.pre
  have hown : s.vm.findClass RX0 = some m.cls := findClass_of_methodNamed B.named
  have hlocks := B.notSynchronized
  subst hsz
  have hwX : ∀ w ∈ u_ws RX0 TX0 10, w ∈ wsX0_entryAt := by decide +kernel
  have hD := hD0.self (sz := s.heap.size)
  generalize hAe : va_A (wx h0 q_words k_words v_atp v_vsAtp v_hgatp v_rights v_latestPlace v_latestSecond v_latestEntry v_refusedAddress v_refusedEntry m_words) s.heap.size = A at hD ⊢
  have hA : ∀ q : Nat, s.heap.size ≤ q → A q := fun q h => by rw [← hAe]; exact Or.inr h
  have hS : va_S A s.heap s.heap [] := va_S.rf
  have hP : va_P (dC, dI) vwCl (wx h0 q_words k_words v_atp v_vsAtp v_hgatp v_rights v_latestPlace v_latestSecond v_latestEntry v_refusedAddress v_refusedEntry m_words) s.heap := hP
  have hl := lv_entry ([.ref h0, .int a0, .long a1]) (n := 4) (Nat.le_of_ble_eq_true rfl)
  rw [lg_entry_eq]
  generalize (lg_sl ([.ref h0, .int a0, .long a1]) ++ List.replicate (4 - (lg_sl ([.ref h0, .int a0, .long a1])).length) Slot.unset).toArray = ls at hl ⊢
  have hl : lv_has ls 4 [(0, .ref h0), (1, .int a0), (2, .long a1)] := hl
  refine lv_lload_n hx hb dX0_entryAt_0 rfl (lv_at hl 2 rfl) ?_
  refine lv_lconst (v := 0) hx hb dX0_entryAt_1 (by decide) ?_
  refine lq_ge (tgt := 8) hx hb dX0_entryAt_2 dX0_entryAt_3 (by decide) (fun c_3 => ?_) (fun c_3 => ?_)
  · skip
    refine lv_lload_n hx hb dX0_entryAt_8 rfl (lv_at hl 2 rfl) ?_
    refine lv_ldc2 hx hb hown (hts (.constantLong RX0 83 262144) (by decide +kernel)) dX0_entryAt_9 ?_
    refine lq_lt (tgt := 21) hx hb dX0_entryAt_12 dX0_entryAt_13 (by decide) (fun c_13 => ?_) (fun c_13 => ?_)
    · skip
      refine lv_aload_n hx hb dX0_entryAt_21 rfl (lv_at hl 0 rfl) ?_
      refine va_get (D := (dC, dI)) (ci := 0) (v := .ref q_words) (C := RX0) (T := TX0) (N := 10) hx hb hts hwX hown hK hP 0 rfl rfl 0 (by decide) (hts (.fieldLink RX0 10 "StageWalker" "words" "[I") (by decide +kernel)) (fun _ h9 => h9) rfl dX0_entryAt_22 ?_
      refine lv_lload_n hx hb dX0_entryAt_25 rfl (lv_at hl 2 rfl) ?_
      refine lv_l2i (v := a1.toInt32) hx hb dX0_entryAt_26 rfl ?_
      refine lv_iconst (v := 4) hx hb dX0_entryAt_27 (by decide) ?_
      refine lv_idiv hx hb dX0_entryAt_28 (by decide) ?_
      refine va_iald (cA := k_words) (f := m_words) hx hb hK hP 1 0 rfl rfl (i := a1.toInt32 / 4) (vi_place c_3 c_13) dX0_entryAt_29 ?_
      refine lv_i2l (v := (m_words (a1.toInt32 / 4).toNatClampNeg).toInt64) hx hb dX0_entryAt_30 rfl ?_
      refine lv_ldc2 hx hb hown (hts (.constantLong RX0 52 4294967295) (by decide +kernel)) dX0_entryAt_31 ?_
      refine lv_land hx hb dX0_entryAt_34 ?_
      exact W.lret (v := ((m_words (a1.toInt32 / 4).toNatClampNeg).toInt64) &&& 4294967295) hx hb hr (fun t ht hW => ⟨⟨_, (), rfl, by rw [fx_entryAt, if_neg c_3, if_pos c_13] <;> rfl, by rw [ht]; exact hP, va_K.moved hW.alike hK, hD⟩, hS.F ht⟩) hS.2.2 dX0_entryAt_35
    · skip
      refine lv_iload_n hx hb dX0_entryAt_16 rfl (lv_at hl 1 rfl) ?_
      refine cs_l (va_runS (As := [.int a0]) (rest := []) ⟨hx, hb, hml, hown, hts⟩ (ctx_noMemory l s.heap.size a0) (va_cwS 1 hts gX0_entryAt_X0_noMemory rfl rfl rfl (by decide +kernel) ⟨Nat.le_of_ble_eq_true rfl, Nat.le_of_ble_eq_true rfl⟩) ⟨fun a U g mk q => q, fun U hU hW => ⟨rfl, congrArg Array.size hU⟩⟩ rfl rfl hl.1 rfl (lv_room (Nat.le_of_ble_eq_true rfl)) dX0_entryAt_17 ⟨Nat.zero_le _, Nat.zero_le _⟩) hA hP hS (fun H locs hP hS => ?_)
      exact W.lret (v := (fx_noMemory a0)) hx hb hr (fun t ht hW => ⟨⟨_, (), rfl, by rw [fx_entryAt, if_neg c_3, if_neg c_13] <;> rfl, by rw [ht]; exact hP, va_K.moved hW.alike hK, hD⟩, hS.F ht⟩) hS.2.2 dX0_entryAt_20
  · skip
    refine lv_lload_n hx hb dX0_entryAt_6 rfl (lv_at hl 2 rfl) ?_
    exact W.lret (v := a1) hx hb hr (fun t ht hW => ⟨⟨_, (), rfl, by rw [fx_entryAt, if_pos c_3] <;> rfl, by rw [ht]; exact hP, va_K.moved hW.alike hK, hD⟩, hS.F ht⟩) hS.2.2 dX0_entryAt_7
def fx_userBitFits (v_rights : Int32) (a0 : Int32) (a1 : Int32) (a2 : Int64) : Int32 := if a0 = 0 then (if (a2 &&& 16) = 0 then 0 else 1 : Int32) else if a0 = 2 then (if (a2 &&& 16) = 0 then 0 else 1 : Int32) else if ((if (a2 &&& 16) = 0 then 0 else 1 : Int32)) = 0 then 1 else if a1 = 0 then 0 else if (v_rights &&& ((if ((fx_isVirtual a0)) = 0 then 1 else 4 : Int32))) = 0 then 0 else 1
set_option maxHeartbeats 4000000 in
set_option maxRecDepth 100000 in
theorem ctx_userBitFits (l : Launch) (dC : Nat → ClassId) (dI : Nat → Nat → Nat) (h0 : Nat) (q_words : Nat) (k_words : ClassId) (sz : Nat) (v_atp : Int32) (v_vsAtp : Int32) (v_hgatp : Int32) (v_rights : Int32) (v_latestPlace : Int32) (v_latestSecond : Int32) (v_latestEntry : Int32) (v_refusedAddress : Int64) (v_refusedEntry : Int32) (m_words : Nat → Int32) (a0 : Int32) (a1 : Int32) (a2 : Int64) : MRi l yX0_userBitFits wsX0_userBitFits ({ frames := 1, cells := 0, slots := 0, locals := 20 }) (dC, dI) vwCl [(k_words, .int)] [.ref h0, .int a0, .int a1, .long a2] sz (wx h0 q_words k_words v_atp v_vsAtp v_hgatp v_rights v_latestPlace v_latestSecond v_latestEntry v_refusedAddress v_refusedEntry m_words) (fx_userBitFits v_rights a0 a1 a2) := by
  refine Met.ofW (cc := cX0_userBitFits) (maxL := 7) (ret := (some .boolean)) (by decide) rfl ?_
  intro p e s m args below meth c s₁ B hml hv
  obtain ⟨rfl, hsz, hP, hK, hD0⟩ := hv
  have hx := B.exec
  have hb := B.bytes
  have hr := B.returns
  have hts := atoms_spec (ws := wsX0_userBitFits) B.pre
  have hown : s.vm.findClass RX0 = some m.cls := findClass_of_methodNamed B.named
  have hlocks := B.notSynchronized
  subst hsz
  have hwX : ∀ w ∈ u_ws RX0 TX0 10, w ∈ wsX0_userBitFits := by decide +kernel
  have hD := hD0.self (sz := s.heap.size)
  generalize hAe : va_A (wx h0 q_words k_words v_atp v_vsAtp v_hgatp v_rights v_latestPlace v_latestSecond v_latestEntry v_refusedAddress v_refusedEntry m_words) s.heap.size = A at hD ⊢
  have hA : ∀ q : Nat, s.heap.size ≤ q → A q := fun q h => by rw [← hAe]; exact Or.inr h
  have hS : va_S A s.heap s.heap [] := va_S.rf
  have hP : va_P (dC, dI) vwCl (wx h0 q_words k_words v_atp v_vsAtp v_hgatp v_rights v_latestPlace v_latestSecond v_latestEntry v_refusedAddress v_refusedEntry m_words) s.heap := hP
  have hl := lv_entry ([.ref h0, .int a0, .int a1, .long a2]) (n := 7) (Nat.le_of_ble_eq_true rfl)
  rw [lg_entry_eq]
  generalize (lg_sl ([.ref h0, .int a0, .int a1, .long a2]) ++ List.replicate (7 - (lg_sl ([.ref h0, .int a0, .int a1, .long a2])).length) Slot.unset).toArray = ls at hl ⊢
  have hl : lv_has ls 7 [(0, .ref h0), (1, .int a0), (2, .int a1), (3, .long a2)] := hl
  refine lv_lload_n hx hb dX0_userBitFits_0 rfl (lv_at hl 3 rfl) ?_
  refine lv_ldc2 hx hb hown (hts (.constantLong RX0 146 16) (by decide +kernel)) dX0_userBitFits_1 ?_
  refine lv_land hx hb dX0_userBitFits_4 ?_
  refine lv_lconst (v := 0) hx hb dX0_userBitFits_5 (by decide) ?_
  refine lj_i (j := 15) (z0 := if (a2 &&& 16) = 0 then 0 else 1) (rest := []) hP hS (fun H locs hP hS z_1 ez_1 => ?_) (fun J15_7 => ?_)
  · skip
    have oz_1 : z_1 = 0 ∨ z_1 = 1 := by rw [ez_1]; exact ite01 (Or.inl rfl) (Or.inr rfl)
    refine lv_istore (lv' := [(5, .int z_1), (0, .ref h0), (1, .int a0), (2, .int a1), (3, .long a2)]) hx hb dX0_userBitFits_15 hl (by decide) rfl (fun ls hl => ?_)
    refine lv_iload_n hx hb dX0_userBitFits_17 rfl (lv_at hl 2 rfl) ?_
    refine lv_if_eq (tgt := 26) hx hb dX0_userBitFits_18 (by decide) (fun c_18 => ?_) (fun c_18 => ?_)
    · skip
      refine lv_iload hx hb dX0_userBitFits_26 (lv_at hl 0 rfl) ?_
      exact W.zret (v := z_1) (ty := .boolean) hx hb hr (nb_z oz_1) (fun t ht hW => ⟨⟨_, (), rfl, by subst ez_1; rw [fx_userBitFits, if_pos c_18] <;> rfl, by rw [ht]; exact hP, va_K.moved hW.alike hK, hD⟩, hS.F ht⟩) hS.2.2 dX0_userBitFits_28
    · skip
      refine lv_iload_n hx hb dX0_userBitFits_21 rfl (lv_at hl 2 rfl) ?_
      refine lv_iconst (v := 2) hx hb dX0_userBitFits_22 (by decide) ?_
      refine lv_icmp_ne (tgt := 29) hx hb dX0_userBitFits_23 (by decide) (fun c_23 => ?_) (fun c_23 => ?_)
      · skip
        refine lv_iload_n hx hb dX0_userBitFits_29 rfl (lv_at hl 2 rfl) ?_
        refine cs_i (va_runS (As := [.int a0]) (rest := []) ⟨hx, hb, hml, hown, hts⟩ (ctx_isVirtual l H.size a0) (va_cwS 1 hts gX0_userBitFits_X0_isVirtual rfl rfl rfl (by decide +kernel) ⟨Nat.le_of_ble_eq_true rfl, Nat.le_of_ble_eq_true rfl⟩) ⟨fun a U g mk q => q, fun U hU hW => ⟨rfl, congrArg Array.size hU⟩⟩ rfl rfl hl.1 rfl (lv_room (Nat.le_of_ble_eq_true rfl)) dX0_userBitFits_30 ⟨Nat.zero_le _, Nat.zero_le _⟩) hA hP hS (fun H locs hP hS => ?_)
        refine lj_i (j := 41) (z0 := if ((fx_isVirtual a0)) = 0 then 1 else 4) (rest := []) hP hS (fun H locs hP hS z_2 ez_2 => ?_) (fun J41_33 => ?_)
        · skip
          refine lv_istore (lv' := [(6, .int z_2), (5, .int z_1), (0, .ref h0), (1, .int a0), (2, .int a1), (3, .long a2)]) hx hb dX0_userBitFits_41 hl (by decide) rfl (fun ls hl => ?_)
          refine lv_iload hx hb dX0_userBitFits_43 (lv_at hl 1 rfl) ?_
          refine lv_if_eq (tgt := 62) hx hb dX0_userBitFits_45 (by decide) (fun c_45 => ?_) (fun c_45 => ?_)
          · skip
            refine lv_iconst (v := 1) hx hb dX0_userBitFits_62 (by decide) ?_
            refine lv_goto (tgt := 67) hx hb dX0_userBitFits_63 (by decide) ?_
            exact W.zret (v := 1) (ty := .boolean) hx hb hr nb_1 (fun t ht hW => ⟨⟨_, (), rfl, by subst ez_2; subst ez_1; rw [fx_userBitFits, if_neg c_18, if_neg c_23, if_pos c_45] <;> rfl, by rw [ht]; exact hP, va_K.moved hW.alike hK, hD⟩, hS.F ht⟩) hS.2.2 dX0_userBitFits_67
          · skip
            refine lv_iload_n hx hb dX0_userBitFits_48 rfl (lv_at hl 4 rfl) ?_
            refine lv_if_eq (tgt := 66) hx hb dX0_userBitFits_49 (by decide) (fun c_49 => ?_) (fun c_49 => ?_)
            · skip
              refine lv_iconst (v := 0) hx hb dX0_userBitFits_66 (by decide) ?_
              exact W.zret (v := 0) (ty := .boolean) hx hb hr nb_0 (fun t ht hW => ⟨⟨_, (), rfl, by subst ez_2; subst ez_1; rw [fx_userBitFits, if_neg c_18, if_neg c_23, if_neg c_45, if_pos c_49] <;> rfl, by rw [ht]; exact hP, va_K.moved hW.alike hK, hD⟩, hS.F ht⟩) hS.2.2 dX0_userBitFits_67
            · skip
              refine lv_aload_n hx hb dX0_userBitFits_52 rfl (lv_at hl 2 rfl) ?_
              refine va_get (D := (dC, dI)) (ci := 0) (v := .int v_rights) (C := RX0) (T := TX0) (N := 10) hx hb hts hwX hown hK hP 0 rfl rfl 4 (by decide) (hts (.fieldLink RX0 33 "StageWalker" "rights" "I") (by decide +kernel)) (fun _ h9 => h9) rfl dX0_userBitFits_53 ?_
              refine lv_iload hx hb dX0_userBitFits_56 (lv_at hl 0 rfl) ?_
              refine lv_iand hx hb dX0_userBitFits_58 ?_
              refine lv_if_eq (tgt := 66) hx hb dX0_userBitFits_59 (by decide) (fun c_59 => ?_) (fun c_59 => ?_)
              · skip
                refine lv_iconst (v := 0) hx hb dX0_userBitFits_66 (by decide) ?_
                exact W.zret (v := 0) (ty := .boolean) hx hb hr nb_0 (fun t ht hW => ⟨⟨_, (), rfl, by subst ez_2; subst ez_1; rw [fx_userBitFits, if_neg c_18, if_neg c_23, if_neg c_45, if_neg c_49, if_pos c_59] <;> rfl, by rw [ht]; exact hP, va_K.moved hW.alike hK, hD⟩, hS.F ht⟩) hS.2.2 dX0_userBitFits_67
              · skip
                refine lv_iconst (v := 1) hx hb dX0_userBitFits_62 (by decide) ?_
                refine lv_goto (tgt := 67) hx hb dX0_userBitFits_63 (by decide) ?_
                exact W.zret (v := 1) (ty := .boolean) hx hb hr nb_1 (fun t ht hW => ⟨⟨_, (), rfl, by subst ez_2; subst ez_1; rw [fx_userBitFits, if_neg c_18, if_neg c_23, if_neg c_45, if_neg c_49, if_neg c_59] <;> rfl, by rw [ht]; exact hP, va_K.moved hW.alike hK, hD⟩, hS.F ht⟩) hS.2.2 dX0_userBitFits_67
        · skip
          refine lv_if_eq (tgt := 40) hx hb dX0_userBitFits_33 (by decide) (fun c_33 => ?_) (fun c_33 => ?_)
          · skip
            refine lv_iconst (v := 1) hx hb dX0_userBitFits_40 (by decide) ?_
            exact W.eq (by rw [if_pos c_33] <;> rfl) (J41_33 _ _ hP hS)
          · skip
            refine lv_iconst (v := 4) hx hb dX0_userBitFits_36 (by decide) ?_
            refine lv_goto (tgt := 41) hx hb dX0_userBitFits_37 (by decide) ?_
            exact W.eq (by rw [if_neg c_33] <;> rfl) (J41_33 _ _ hP hS)
      · skip
        refine lv_iload hx hb dX0_userBitFits_26 (lv_at hl 0 rfl) ?_
        exact W.zret (v := z_1) (ty := .boolean) hx hb hr (nb_z oz_1) (fun t ht hW => ⟨⟨_, (), rfl, by subst ez_1; rw [fx_userBitFits, if_neg c_18, if_pos c_23] <;> rfl, by rw [ht]; exact hP, va_K.moved hW.alike hK, hD⟩, hS.F ht⟩) hS.2.2 dX0_userBitFits_28
  · skip
    refine lq_eq (tgt := 14) hx hb dX0_userBitFits_6 dX0_userBitFits_7 (by decide) (fun c_7 => ?_) (fun c_7 => ?_)
    · skip
      refine lv_iconst (v := 0) hx hb dX0_userBitFits_14 (by decide) ?_
      exact W.eq (by rw [if_pos c_7] <;> rfl) (J15_7 _ _ hP hS)
    · skip
      refine lv_iconst (v := 1) hx hb dX0_userBitFits_10 (by decide) ?_
      refine lv_goto (tgt := 15) hx hb dX0_userBitFits_11 (by decide) ?_
      exact W.eq (by rw [if_neg c_7] <;> rfl) (J15_7 _ _ hP hS)
def fx_firstAllows (v_rights : Int32) (a0 : Int32) (a1 : Int32) (a2 : Int64) : Int32 := if ((fx_userBitFits v_rights a0 a1 a2)) = 0 then 0 else if ((fx_grants a1 a2 ((if (v_rights &&& ((if ((fx_isVirtual a0)) = 0 then 2 else 10 : Int32))) = 0 then 0 else 1 : Int32)))) = 0 then 0 else 1
set_option maxHeartbeats 4000000 in
set_option maxRecDepth 100000 in
theorem ctx_firstAllows (l : Launch) (dC : Nat → ClassId) (dI : Nat → Nat → Nat) (h0 : Nat) (q_words : Nat) (k_words : ClassId) (sz : Nat) (v_atp : Int32) (v_vsAtp : Int32) (v_hgatp : Int32) (v_rights : Int32) (v_latestPlace : Int32) (v_latestSecond : Int32) (v_latestEntry : Int32) (v_refusedAddress : Int64) (v_refusedEntry : Int32) (m_words : Nat → Int32) (a0 : Int32) (a1 : Int32) (a2 : Int64) : MRi l yX0_firstAllows wsX0_firstAllows ({ frames := 2, cells := 0, slots := 0, locals := 46 }) (dC, dI) vwCl [(k_words, .int)] [.ref h0, .int a0, .int a1, .long a2] sz (wx h0 q_words k_words v_atp v_vsAtp v_hgatp v_rights v_latestPlace v_latestSecond v_latestEntry v_refusedAddress v_refusedEntry m_words) (fx_firstAllows v_rights a0 a1 a2) := by
  refine Met.ofW (cc := cX0_firstAllows) (maxL := 6) (ret := (some .boolean)) (by decide) rfl ?_
  intro p e s m args below meth c s₁ B hml hv
  obtain ⟨rfl, hsz, hP, hK, hD0⟩ := hv
  have hx := B.exec
  have hb := B.bytes
  have hr := B.returns
  have hts := atoms_spec (ws := wsX0_firstAllows) B.pre
  have hown : s.vm.findClass RX0 = some m.cls := findClass_of_methodNamed B.named
  have hlocks := B.notSynchronized
  subst hsz
  have hwX : ∀ w ∈ u_ws RX0 TX0 10, w ∈ wsX0_firstAllows := by decide +kernel
  have hD := hD0.self (sz := s.heap.size)
  generalize hAe : va_A (wx h0 q_words k_words v_atp v_vsAtp v_hgatp v_rights v_latestPlace v_latestSecond v_latestEntry v_refusedAddress v_refusedEntry m_words) s.heap.size = A at hD ⊢
  have hA : ∀ q : Nat, s.heap.size ≤ q → A q := fun q h => by rw [← hAe]; exact Or.inr h
  have hS : va_S A s.heap s.heap [] := va_S.rf
  have hP : va_P (dC, dI) vwCl (wx h0 q_words k_words v_atp v_vsAtp v_hgatp v_rights v_latestPlace v_latestSecond v_latestEntry v_refusedAddress v_refusedEntry m_words) s.heap := hP
  have hl := lv_entry ([.ref h0, .int a0, .int a1, .long a2]) (n := 6) (Nat.le_of_ble_eq_true rfl)
  rw [lg_entry_eq]
  generalize (lg_sl ([.ref h0, .int a0, .int a1, .long a2]) ++ List.replicate (6 - (lg_sl ([.ref h0, .int a0, .int a1, .long a2])).length) Slot.unset).toArray = ls at hl ⊢
  have hl : lv_has ls 6 [(0, .ref h0), (1, .int a0), (2, .int a1), (3, .long a2)] := hl
  refine lv_iload_n hx hb dX0_firstAllows_0 rfl (lv_at hl 1 rfl) ?_
  refine cs_i (va_runS (As := [.int a0]) (rest := []) ⟨hx, hb, hml, hown, hts⟩ (ctx_isVirtual l s.heap.size a0) (va_cwS 1 hts gX0_firstAllows_X0_isVirtual rfl rfl rfl (by decide +kernel) ⟨Nat.le_of_ble_eq_true rfl, Nat.le_of_ble_eq_true rfl⟩) ⟨fun a U g mk q => q, fun U hU hW => ⟨rfl, congrArg Array.size hU⟩⟩ rfl rfl hl.1 rfl (lv_room (Nat.le_of_ble_eq_true rfl)) dX0_firstAllows_1 ⟨Nat.zero_le _, Nat.zero_le _⟩) hA hP hS (fun H locs hP hS => ?_)
  refine lj_i (j := 13) (z0 := if ((fx_isVirtual a0)) = 0 then 2 else 10) (rest := []) hP hS (fun H locs hP hS z_1 ez_1 => ?_) (fun J13_4 => ?_)
  · skip
    refine lv_istore (lv' := [(5, .int z_1), (0, .ref h0), (1, .int a0), (2, .int a1), (3, .long a2)]) hx hb dX0_firstAllows_13 hl (by decide) rfl (fun ls hl => ?_)
    refine lv_aload_n hx hb dX0_firstAllows_15 rfl (lv_at hl 1 rfl) ?_
    refine lv_iload_n hx hb dX0_firstAllows_16 rfl (lv_at hl 2 rfl) ?_
    refine lv_iload_n hx hb dX0_firstAllows_17 rfl (lv_at hl 3 rfl) ?_
    refine lv_lload_n hx hb dX0_firstAllows_18 rfl (lv_at hl 4 rfl) ?_
    refine cr_i (va_runV (As := [.int a0, .int a1, .long a2]) (rest := []) ⟨hx, hb, hml, hown, hts⟩ (ctx_userBitFits l dC dI h0 q_words k_words H.size v_atp v_vsAtp v_hgatp v_rights v_latestPlace v_latestSecond v_latestEntry v_refusedAddress v_refusedEntry m_words a0 a1 a2) (cwV 3 hts gX0_firstAllows_X0_userBitFits rfl rfl rfl (by decide +kernel) ⟨Nat.le_of_ble_eq_true rfl, Nat.le_of_ble_eq_true rfl⟩) ⟨fun a U g mk q => ⟨q.1, q.2.1, q.2.2.1, va_K.moved (u := U) (U := U.calling g mk a) (Vm.Alike.refl U.vm) q.2.2.2.1, q.2.2.2.2⟩, va_recv hK hP (ci := 0) (q0 := 0) rfl rfl, fun U hU hW => ⟨rfl, by rw [hU], by rw [hU]; exact hP, va_K.moved hW.alike hK, hD.weaken (fun _ _ _ _ => trivial)⟩⟩ rfl rfl hl.1 rfl (lv_room (Nat.le_of_ble_eq_true rfl)) dX0_firstAllows_19 ⟨Nat.zero_le _, Nat.zero_le _⟩) hA hD hP hS (fun H locs hP hS => ?_)
    refine lv_if_eq (tgt := 52) hx hb dX0_firstAllows_22 (by decide) (fun c_22 => ?_) (fun c_22 => ?_)
    · skip
      refine lv_iconst (v := 0) hx hb dX0_firstAllows_52 (by decide) ?_
      exact W.zret (v := 0) (ty := .boolean) hx hb hr nb_0 (fun t ht hW => ⟨⟨_, (), rfl, by subst ez_1; rw [fx_firstAllows, if_pos c_22] <;> rfl, by rw [ht]; exact hP, va_K.moved hW.alike hK, hD⟩, hS.F ht⟩) hS.2.2 dX0_firstAllows_53
    · skip
      refine lv_iload_n hx hb dX0_firstAllows_25 rfl (lv_at hl 3 rfl) ?_
      refine lv_lload_n hx hb dX0_firstAllows_26 rfl (lv_at hl 4 rfl) ?_
      refine lv_aload_n hx hb dX0_firstAllows_27 rfl (lv_at hl 1 rfl) ?_
      refine va_get (D := (dC, dI)) (ci := 0) (v := .int v_rights) (C := RX0) (T := TX0) (N := 10) hx hb hts hwX hown hK hP 0 rfl rfl 4 (by decide) (hts (.fieldLink RX0 33 "StageWalker" "rights" "I") (by decide +kernel)) (fun _ h9 => h9) rfl dX0_firstAllows_28 ?_
      refine lv_iload hx hb dX0_firstAllows_31 (lv_at hl 0 rfl) ?_
      refine lv_iand hx hb dX0_firstAllows_33 ?_
      refine lj_i (j := 42) (z0 := if (v_rights &&& z_1) = 0 then 0 else 1) (rest := [.long a2, .int a1]) hP hS (fun H locs hP hS z_2 ez_2 => ?_) (fun J42_34 => ?_)
      · skip
        have oz_2 : z_2 = 0 ∨ z_2 = 1 := by rw [ez_2]; exact ite01 (Or.inl rfl) (Or.inr rfl)
        refine cs_i (va_runS (As := [.int a1, .long a2, .int z_2]) (rest := []) ⟨hx, hb, hml, hown, hts⟩ (ctx_grants l H.size a1 a2 z_2) (va_cwS 3 hts gX0_firstAllows_X0_grants rfl rfl rfl (by decide +kernel) ⟨Nat.le_of_ble_eq_true rfl, Nat.le_of_ble_eq_true rfl⟩) ⟨fun a U g mk q => q, fun U hU hW => ⟨rfl, congrArg Array.size hU⟩⟩ rfl rfl hl.1 rfl (lv_room (Nat.le_of_ble_eq_true rfl)) dX0_firstAllows_42 ⟨Nat.zero_le _, Nat.zero_le _⟩) hA hP hS (fun H locs hP hS => ?_)
        refine lv_if_eq (tgt := 52) hx hb dX0_firstAllows_45 (by decide) (fun c_45 => ?_) (fun c_45 => ?_)
        · skip
          refine lv_iconst (v := 0) hx hb dX0_firstAllows_52 (by decide) ?_
          exact W.zret (v := 0) (ty := .boolean) hx hb hr nb_0 (fun t ht hW => ⟨⟨_, (), rfl, by subst ez_2; subst ez_1; rw [fx_firstAllows, if_neg c_22, if_pos c_45] <;> rfl, by rw [ht]; exact hP, va_K.moved hW.alike hK, hD⟩, hS.F ht⟩) hS.2.2 dX0_firstAllows_53
        · skip
          refine lv_iconst (v := 1) hx hb dX0_firstAllows_48 (by decide) ?_
          refine lv_goto (tgt := 53) hx hb dX0_firstAllows_49 (by decide) ?_
          exact W.zret (v := 1) (ty := .boolean) hx hb hr nb_1 (fun t ht hW => ⟨⟨_, (), rfl, by subst ez_2; subst ez_1; rw [fx_firstAllows, if_neg c_22, if_neg c_45] <;> rfl, by rw [ht]; exact hP, va_K.moved hW.alike hK, hD⟩, hS.F ht⟩) hS.2.2 dX0_firstAllows_53
      · skip
        refine lv_if_eq (tgt := 41) hx hb dX0_firstAllows_34 (by decide) (fun c_34 => ?_) (fun c_34 => ?_)
        · skip
          refine lv_iconst (v := 0) hx hb dX0_firstAllows_41 (by decide) ?_
          exact W.eq (by rw [if_pos c_34] <;> rfl) (J42_34 _ _ hP hS)
        · skip
          refine lv_iconst (v := 1) hx hb dX0_firstAllows_37 (by decide) ?_
          refine lv_goto (tgt := 42) hx hb dX0_firstAllows_38 (by decide) ?_
          exact W.eq (by rw [if_neg c_34] <;> rfl) (J42_34 _ _ hP hS)
  · skip
    refine lv_if_eq (tgt := 12) hx hb dX0_firstAllows_4 (by decide) (fun c_4 => ?_) (fun c_4 => ?_)
    · skip
      refine lv_iconst (v := 2) hx hb dX0_firstAllows_12 (by decide) ?_
      exact W.eq (by rw [if_pos c_4] <;> rfl) (J13_4 _ _ hP hS)
    · skip
      refine lv_bipush (v := 10) hx hb dX0_firstAllows_7 (by decide) ?_
      refine lv_goto (tgt := 13) hx hb dX0_firstAllows_9 (by decide) ?_
      exact W.eq (by rw [if_neg c_4] <;> rfl) (J13_4 _ _ hP hS)
def fx_secondAllows (v_rights : Int32) (a0 : Int32) (a1 : Int64) (a2 : Int32) : Int32 := if (a1 &&& 16) = 0 then 0 else if ((fx_grants ((if a2 = 0 then a0 else 1 : Int32)) a1 ((if a2 = 0 then if (v_rights &&& 2) = 0 then 0 else 1 else 0 : Int32)))) = 0 then 0 else 1
set_option maxHeartbeats 4000000 in
set_option maxRecDepth 100000 in
theorem ctx_secondAllows (l : Launch) (dC : Nat → ClassId) (dI : Nat → Nat → Nat) (h0 : Nat) (q_words : Nat) (k_words : ClassId) (sz : Nat) (v_atp : Int32) (v_vsAtp : Int32) (v_hgatp : Int32) (v_rights : Int32) (v_latestPlace : Int32) (v_latestSecond : Int32) (v_latestEntry : Int32) (v_refusedAddress : Int64) (v_refusedEntry : Int32) (m_words : Nat → Int32) (a0 : Int32) (a1 : Int64) (a2 : Int32) : MRi l yX0_secondAllows wsX0_secondAllows ({ frames := 1, cells := 0, slots := 0, locals := 23 }) (dC, dI) vwCl [(k_words, .int)] [.ref h0, .int a0, .long a1, .int a2] sz (wx h0 q_words k_words v_atp v_vsAtp v_hgatp v_rights v_latestPlace v_latestSecond v_latestEntry v_refusedAddress v_refusedEntry m_words) (fx_secondAllows v_rights a0 a1 a2) := by
  refine Met.ofW (cc := cX0_secondAllows) (maxL := 6) (ret := (some .boolean)) (by decide) rfl ?_
  intro p e s m args below meth c s₁ B hml hv
  obtain ⟨rfl, hsz, hP, hK, hD0⟩ := hv
  have hx := B.exec
  have hb := B.bytes
  have hr := B.returns
  have hts := atoms_spec (ws := wsX0_secondAllows) B.pre
  have hown : s.vm.findClass RX0 = some m.cls := findClass_of_methodNamed B.named
  have hlocks := B.notSynchronized
  subst hsz
  have hwX : ∀ w ∈ u_ws RX0 TX0 10, w ∈ wsX0_secondAllows := by decide +kernel
  have hD := hD0.self (sz := s.heap.size)
  generalize hAe : va_A (wx h0 q_words k_words v_atp v_vsAtp v_hgatp v_rights v_latestPlace v_latestSecond v_latestEntry v_refusedAddress v_refusedEntry m_words) s.heap.size = A at hD ⊢
  have hA : ∀ q : Nat, s.heap.size ≤ q → A q := fun q h => by rw [← hAe]; exact Or.inr h
  have hS : va_S A s.heap s.heap [] := va_S.rf
  have hP : va_P (dC, dI) vwCl (wx h0 q_words k_words v_atp v_vsAtp v_hgatp v_rights v_latestPlace v_latestSecond v_latestEntry v_refusedAddress v_refusedEntry m_words) s.heap := hP
  have hl := lv_entry ([.ref h0, .int a0, .long a1, .int a2]) (n := 6) (Nat.le_of_ble_eq_true rfl)
  rw [lg_entry_eq]
  generalize (lg_sl ([.ref h0, .int a0, .long a1, .int a2]) ++ List.replicate (6 - (lg_sl ([.ref h0, .int a0, .long a1, .int a2])).length) Slot.unset).toArray = ls at hl ⊢
  have hl : lv_has ls 6 [(0, .ref h0), (1, .int a0), (2, .long a1), (4, .int a2)] := hl
  refine lv_iload hx hb dX0_secondAllows_0 (lv_at hl 3 rfl) ?_
  refine lj_i (j := 19) (z0 := if a2 = 0 then if (v_rights &&& 2) = 0 then 0 else 1 else 0) (rest := []) hP hS (fun H locs hP hS z_1 ez_1 => ?_) (fun J19_2 => ?_)
  · skip
    have oz_1 : z_1 = 0 ∨ z_1 = 1 := by rw [ez_1]; exact ite01 (ite01 (Or.inl rfl) (Or.inr rfl)) (Or.inl rfl)
    refine lv_istore (lv' := [(5, .int z_1), (0, .ref h0), (1, .int a0), (2, .long a1), (4, .int a2)]) hx hb dX0_secondAllows_19 hl (by decide) rfl (fun ls hl => ?_)
    refine lv_lload_n hx hb dX0_secondAllows_21 rfl (lv_at hl 3 rfl) ?_
    refine lv_ldc2 hx hb hown (hts (.constantLong RX0 146 16) (by decide +kernel)) dX0_secondAllows_22 ?_
    refine lv_land hx hb dX0_secondAllows_25 ?_
    refine lv_lconst (v := 0) hx hb dX0_secondAllows_26 (by decide) ?_
    refine lq_eq (tgt := 54) hx hb dX0_secondAllows_27 dX0_secondAllows_28 (by decide) (fun c_28 => ?_) (fun c_28 => ?_)
    · skip
      refine lv_iconst (v := 0) hx hb dX0_secondAllows_54 (by decide) ?_
      exact W.zret (v := 0) (ty := .boolean) hx hb hr nb_0 (fun t ht hW => ⟨⟨_, (), rfl, by subst ez_1; rw [fx_secondAllows, if_pos c_28] <;> rfl, by rw [ht]; exact hP, va_K.moved hW.alike hK, hD⟩, hS.F ht⟩) hS.2.2 dX0_secondAllows_55
    · skip
      refine lv_iload hx hb dX0_secondAllows_31 (lv_at hl 4 rfl) ?_
      refine lj_i (j := 41) (z0 := if a2 = 0 then a0 else 1) (rest := []) hP hS (fun H locs hP hS z_2 ez_2 => ?_) (fun J41_33 => ?_)
      · skip
        refine lv_lload_n hx hb dX0_secondAllows_41 rfl (lv_at hl 3 rfl) ?_
        refine lv_iload hx hb dX0_secondAllows_42 (lv_at hl 0 rfl) ?_
        refine cs_i (va_runS (As := [.int z_2, .long a1, .int z_1]) (rest := []) ⟨hx, hb, hml, hown, hts⟩ (ctx_grants l H.size z_2 a1 z_1) (va_cwS 3 hts gX0_secondAllows_X0_grants rfl rfl rfl (by decide +kernel) ⟨Nat.le_of_ble_eq_true rfl, Nat.le_of_ble_eq_true rfl⟩) ⟨fun a U g mk q => q, fun U hU hW => ⟨rfl, congrArg Array.size hU⟩⟩ rfl rfl hl.1 rfl (lv_room (Nat.le_of_ble_eq_true rfl)) dX0_secondAllows_44 ⟨Nat.zero_le _, Nat.zero_le _⟩) hA hP hS (fun H locs hP hS => ?_)
        refine lv_if_eq (tgt := 54) hx hb dX0_secondAllows_47 (by decide) (fun c_47 => ?_) (fun c_47 => ?_)
        · skip
          refine lv_iconst (v := 0) hx hb dX0_secondAllows_54 (by decide) ?_
          exact W.zret (v := 0) (ty := .boolean) hx hb hr nb_0 (fun t ht hW => ⟨⟨_, (), rfl, by subst ez_2; subst ez_1; rw [fx_secondAllows, if_neg c_28, if_pos c_47] <;> rfl, by rw [ht]; exact hP, va_K.moved hW.alike hK, hD⟩, hS.F ht⟩) hS.2.2 dX0_secondAllows_55
        · skip
          refine lv_iconst (v := 1) hx hb dX0_secondAllows_50 (by decide) ?_
          refine lv_goto (tgt := 55) hx hb dX0_secondAllows_51 (by decide) ?_
          exact W.zret (v := 1) (ty := .boolean) hx hb hr nb_1 (fun t ht hW => ⟨⟨_, (), rfl, by subst ez_2; subst ez_1; rw [fx_secondAllows, if_neg c_28, if_neg c_47] <;> rfl, by rw [ht]; exact hP, va_K.moved hW.alike hK, hD⟩, hS.F ht⟩) hS.2.2 dX0_secondAllows_55
      · skip
        refine lv_if_eq (tgt := 40) hx hb dX0_secondAllows_33 (by decide) (fun c_33 => ?_) (fun c_33 => ?_)
        · skip
          refine lv_iload_n hx hb dX0_secondAllows_40 rfl (lv_at hl 2 rfl) ?_
          exact W.eq (by rw [if_pos c_33] <;> rfl) (J41_33 _ _ hP hS)
        · skip
          refine lv_iconst (v := 1) hx hb dX0_secondAllows_36 (by decide) ?_
          refine lv_goto (tgt := 41) hx hb dX0_secondAllows_37 (by decide) ?_
          exact W.eq (by rw [if_neg c_33] <;> rfl) (J41_33 _ _ hP hS)
  · skip
    refine lv_if_ne (tgt := 18) hx hb dX0_secondAllows_2 (by decide) (fun c_2 => ?_) (fun c_2 => ?_)
    · skip
      refine lv_iconst (v := 0) hx hb dX0_secondAllows_18 (by decide) ?_
      exact W.eq (by rw [if_neg c_2] <;> rfl) (J19_2 _ _ hP hS)
    · skip
      refine lv_aload_n hx hb dX0_secondAllows_5 rfl (lv_at hl 0 rfl) ?_
      refine va_get (D := (dC, dI)) (ci := 0) (v := .int v_rights) (C := RX0) (T := TX0) (N := 10) hx hb hts hwX hown hK hP 0 rfl rfl 4 (by decide) (hts (.fieldLink RX0 33 "StageWalker" "rights" "I") (by decide +kernel)) (fun _ h9 => h9) rfl dX0_secondAllows_6 ?_
      refine lv_iconst (v := 2) hx hb dX0_secondAllows_9 (by decide) ?_
      refine lv_iand hx hb dX0_secondAllows_10 ?_
      refine lv_if_eq (tgt := 18) hx hb dX0_secondAllows_11 (by decide) (fun c_11 => ?_) (fun c_11 => ?_)
      · skip
        refine lv_iconst (v := 0) hx hb dX0_secondAllows_18 (by decide) ?_
        exact W.eq (by rw [if_pos c_2, if_pos c_11] <;> rfl) (J19_2 _ _ hP hS)
      · skip
        refine lv_iconst (v := 1) hx hb dX0_secondAllows_14 (by decide) ?_
        refine lv_goto (tgt := 19) hx hb dX0_secondAllows_15 (by decide) ?_
        exact W.eq (by rw [if_pos c_2, if_neg c_11] <;> rfl) (J19_2 _ _ hP hS)
def fx_place (v_latestPlace : Int32) : Int32 := v_latestPlace
set_option maxHeartbeats 4000000 in
set_option maxRecDepth 100000 in
theorem ctx_place (l : Launch) (dC : Nat → ClassId) (dI : Nat → Nat → Nat) (h0 : Nat) (q_words : Nat) (k_words : ClassId) (sz : Nat) (v_atp : Int32) (v_vsAtp : Int32) (v_hgatp : Int32) (v_rights : Int32) (v_latestPlace : Int32) (v_latestSecond : Int32) (v_latestEntry : Int32) (v_refusedAddress : Int64) (v_refusedEntry : Int32) (m_words : Nat → Int32) : MRi l yX0_place wsX0_place ({ frames := 0, cells := 0, slots := 0, locals := 0 }) (dC, dI) vwCl [(k_words, .int)] [.ref h0] sz (wx h0 q_words k_words v_atp v_vsAtp v_hgatp v_rights v_latestPlace v_latestSecond v_latestEntry v_refusedAddress v_refusedEntry m_words) (fx_place v_latestPlace) := by
  refine Met.ofW (cc := cX0_place) (maxL := 1) (ret := (some .int)) (by decide) rfl ?_
  intro p e s m args below meth c s₁ B hml hv
  obtain ⟨rfl, hsz, hP, hK, hD0⟩ := hv
  have hx := B.exec
  have hb := B.bytes
  have hr := B.returns
  have hts := atoms_spec (ws := wsX0_place) B.pre
  have hown : s.vm.findClass RX0 = some m.cls := findClass_of_methodNamed B.named
  have hlocks := B.notSynchronized
  subst hsz
  have hwX : ∀ w ∈ u_ws RX0 TX0 10, w ∈ wsX0_place := by decide +kernel
  have hD := hD0.self (sz := s.heap.size)
  generalize hAe : va_A (wx h0 q_words k_words v_atp v_vsAtp v_hgatp v_rights v_latestPlace v_latestSecond v_latestEntry v_refusedAddress v_refusedEntry m_words) s.heap.size = A at hD ⊢
  have hA : ∀ q : Nat, s.heap.size ≤ q → A q := fun q h => by rw [← hAe]; exact Or.inr h
  have hS : va_S A s.heap s.heap [] := va_S.rf
  have hP : va_P (dC, dI) vwCl (wx h0 q_words k_words v_atp v_vsAtp v_hgatp v_rights v_latestPlace v_latestSecond v_latestEntry v_refusedAddress v_refusedEntry m_words) s.heap := hP
  have hl := lv_entry ([.ref h0]) (n := 1) (Nat.le_of_ble_eq_true rfl)
  rw [lg_entry_eq]
  generalize (lg_sl ([.ref h0]) ++ List.replicate (1 - (lg_sl ([.ref h0])).length) Slot.unset).toArray = ls at hl ⊢
  have hl : lv_has ls 1 [(0, .ref h0)] := hl
  refine lv_aload_n hx hb dX0_place_0 rfl (lv_at hl 0 rfl) ?_
  refine va_get (D := (dC, dI)) (ci := 0) (v := .int v_latestPlace) (C := RX0) (T := TX0) (N := 10) hx hb hts hwX hown hK hP 0 rfl rfl 5 (by decide) (hts (.fieldLink RX0 14 "StageWalker" "latestPlace" "I") (by decide +kernel)) (fun _ h9 => h9) rfl dX0_place_1 ?_
  exact W.iret (v := v_latestPlace) hx hb hr (fun t ht hW => ⟨⟨_, (), rfl, by rfl, by rw [ht]; exact hP, va_K.moved hW.alike hK, hD⟩, hS.F ht⟩) hS.2.2 dX0_place_4
def fx_second (v_latestSecond : Int32) : Int32 := v_latestSecond
set_option maxHeartbeats 4000000 in
set_option maxRecDepth 100000 in
theorem ctx_second (l : Launch) (dC : Nat → ClassId) (dI : Nat → Nat → Nat) (h0 : Nat) (q_words : Nat) (k_words : ClassId) (sz : Nat) (v_atp : Int32) (v_vsAtp : Int32) (v_hgatp : Int32) (v_rights : Int32) (v_latestPlace : Int32) (v_latestSecond : Int32) (v_latestEntry : Int32) (v_refusedAddress : Int64) (v_refusedEntry : Int32) (m_words : Nat → Int32) : MRi l yX0_second wsX0_second ({ frames := 0, cells := 0, slots := 0, locals := 0 }) (dC, dI) vwCl [(k_words, .int)] [.ref h0] sz (wx h0 q_words k_words v_atp v_vsAtp v_hgatp v_rights v_latestPlace v_latestSecond v_latestEntry v_refusedAddress v_refusedEntry m_words) (fx_second v_latestSecond) := by
  refine Met.ofW (cc := cX0_second) (maxL := 1) (ret := (some .int)) (by decide) rfl ?_
  intro p e s m args below meth c s₁ B hml hv
  obtain ⟨rfl, hsz, hP, hK, hD0⟩ := hv
  have hx := B.exec
  have hb := B.bytes
  have hr := B.returns
  have hts := atoms_spec (ws := wsX0_second) B.pre
  have hown : s.vm.findClass RX0 = some m.cls := findClass_of_methodNamed B.named
  have hlocks := B.notSynchronized
  subst hsz
  have hwX : ∀ w ∈ u_ws RX0 TX0 10, w ∈ wsX0_second := by decide +kernel
  have hD := hD0.self (sz := s.heap.size)
  generalize hAe : va_A (wx h0 q_words k_words v_atp v_vsAtp v_hgatp v_rights v_latestPlace v_latestSecond v_latestEntry v_refusedAddress v_refusedEntry m_words) s.heap.size = A at hD ⊢
  have hA : ∀ q : Nat, s.heap.size ≤ q → A q := fun q h => by rw [← hAe]; exact Or.inr h
  have hS : va_S A s.heap s.heap [] := va_S.rf
  have hP : va_P (dC, dI) vwCl (wx h0 q_words k_words v_atp v_vsAtp v_hgatp v_rights v_latestPlace v_latestSecond v_latestEntry v_refusedAddress v_refusedEntry m_words) s.heap := hP
  have hl := lv_entry ([.ref h0]) (n := 1) (Nat.le_of_ble_eq_true rfl)
  rw [lg_entry_eq]
  generalize (lg_sl ([.ref h0]) ++ List.replicate (1 - (lg_sl ([.ref h0])).length) Slot.unset).toArray = ls at hl ⊢
  have hl : lv_has ls 1 [(0, .ref h0)] := hl
  refine lv_aload_n hx hb dX0_second_0 rfl (lv_at hl 0 rfl) ?_
  refine va_get (D := (dC, dI)) (ci := 0) (v := .int v_latestSecond) (C := RX0) (T := TX0) (N := 10) hx hb hts hwX hown hK hP 0 rfl rfl 6 (by decide) (hts (.fieldLink RX0 36 "StageWalker" "latestSecond" "I") (by decide +kernel)) (fun _ h9 => h9) rfl dX0_second_1 ?_
  exact W.iret (v := v_latestSecond) hx hb hr (fun t ht hW => ⟨⟨_, (), rfl, by rfl, by rw [ht]; exact hP, va_K.moved hW.alike hK, hD⟩, hS.F ht⟩) hS.2.2 dX0_second_4
def fx_entry (v_latestEntry : Int32) : Int32 := v_latestEntry
set_option maxHeartbeats 4000000 in
set_option maxRecDepth 100000 in
theorem ctx_entry (l : Launch) (dC : Nat → ClassId) (dI : Nat → Nat → Nat) (h0 : Nat) (q_words : Nat) (k_words : ClassId) (sz : Nat) (v_atp : Int32) (v_vsAtp : Int32) (v_hgatp : Int32) (v_rights : Int32) (v_latestPlace : Int32) (v_latestSecond : Int32) (v_latestEntry : Int32) (v_refusedAddress : Int64) (v_refusedEntry : Int32) (m_words : Nat → Int32) (hf_latestEntry : v_latestEntry = 0 ∨ v_latestEntry = 1) : MRi l yX0_entry wsX0_entry ({ frames := 0, cells := 0, slots := 0, locals := 0 }) (dC, dI) vwCl [(k_words, .int)] [.ref h0] sz (wx h0 q_words k_words v_atp v_vsAtp v_hgatp v_rights v_latestPlace v_latestSecond v_latestEntry v_refusedAddress v_refusedEntry m_words) (fx_entry v_latestEntry) := by
  refine Met.ofW (cc := cX0_entry) (maxL := 1) (ret := (some .boolean)) (by decide) rfl ?_
  intro p e s m args below meth c s₁ B hml hv
  obtain ⟨rfl, hsz, hP, hK, hD0⟩ := hv
  have hx := B.exec
  have hb := B.bytes
  have hr := B.returns
  have hts := atoms_spec (ws := wsX0_entry) B.pre
  have hown : s.vm.findClass RX0 = some m.cls := findClass_of_methodNamed B.named
  have hlocks := B.notSynchronized
  subst hsz
  have hwX : ∀ w ∈ u_ws RX0 TX0 10, w ∈ wsX0_entry := by decide +kernel
  have hD := hD0.self (sz := s.heap.size)
  generalize hAe : va_A (wx h0 q_words k_words v_atp v_vsAtp v_hgatp v_rights v_latestPlace v_latestSecond v_latestEntry v_refusedAddress v_refusedEntry m_words) s.heap.size = A at hD ⊢
  have hA : ∀ q : Nat, s.heap.size ≤ q → A q := fun q h => by rw [← hAe]; exact Or.inr h
  have hS : va_S A s.heap s.heap [] := va_S.rf
  have hP : va_P (dC, dI) vwCl (wx h0 q_words k_words v_atp v_vsAtp v_hgatp v_rights v_latestPlace v_latestSecond v_latestEntry v_refusedAddress v_refusedEntry m_words) s.heap := hP
  have hl := lv_entry ([.ref h0]) (n := 1) (Nat.le_of_ble_eq_true rfl)
  rw [lg_entry_eq]
  generalize (lg_sl ([.ref h0]) ++ List.replicate (1 - (lg_sl ([.ref h0])).length) Slot.unset).toArray = ls at hl ⊢
  have hl : lv_has ls 1 [(0, .ref h0)] := hl
  refine lv_aload_n hx hb dX0_entry_0 rfl (lv_at hl 0 rfl) ?_
  refine va_get (D := (dC, dI)) (ci := 0) (v := .int v_latestEntry) (C := RX0) (T := TX0) (N := 10) hx hb hts hwX hown hK hP 0 rfl rfl 7 (by decide) (hts (.fieldLink RX0 39 "StageWalker" "latestEntry" "Z") (by decide +kernel)) (fun _ h9 => h9) rfl dX0_entry_1 ?_
  exact W.zret (v := v_latestEntry) (ty := .boolean) hx hb hr (nb_z hf_latestEntry) (fun t ht hW => ⟨⟨_, (), rfl, by rfl, by rw [ht]; exact hP, va_K.moved hW.alike hK, hD⟩, hS.F ht⟩) hS.2.2 dX0_entry_4
def fx_roots (v_atp : Int32) (v_vsAtp : Int32) (v_hgatp : Int32) (a0 : Int32) (a1 : Int32) (a2 : Int32) : Int32 × Int32 × Int32 := (a0, a1, a2)
set_option maxHeartbeats 4000000 in
set_option maxRecDepth 100000 in
theorem ctx_roots (l : Launch) (dC : Nat → ClassId) (dI : Nat → Nat → Nat) (h0 : Nat) (q_words : Nat) (k_words : ClassId) (sz : Nat) (v_atp : Int32) (v_vsAtp : Int32) (v_hgatp : Int32) (v_rights : Int32) (v_latestPlace : Int32) (v_latestSecond : Int32) (v_latestEntry : Int32) (v_refusedAddress : Int64) (v_refusedEntry : Int32) (m_words : Nat → Int32) (a0 : Int32) (a1 : Int32) (a2 : Int32) : MWv l yX0_roots wsX0_roots ({ frames := 0, cells := 0, slots := 0, locals := 0 }) (dC, dI) vwCl [(k_words, .int)] [.ref h0, .int a0, .int a1, .int a2] sz (wx h0 q_words k_words v_atp v_vsAtp v_hgatp v_rights v_latestPlace v_latestSecond v_latestEntry v_refusedAddress v_refusedEntry m_words) (fun u : Int32 × Int32 × Int32 => (wx h0 q_words k_words u.1 u.2.1 u.2.2 v_rights v_latestPlace v_latestSecond v_latestEntry v_refusedAddress v_refusedEntry m_words)) (fx_roots v_atp v_vsAtp v_hgatp a0 a1 a2) := by
  refine Met.ofW (cc := cX0_roots) (maxL := 4) (ret := none) (by decide) rfl ?_
  intro p e s m args below meth c s₁ B hml hv
  obtain ⟨rfl, hsz, hP, hK, hD0⟩ := hv
  have hx := B.exec
  have hb := B.bytes
  have hr := B.returns
  have hts := atoms_spec (ws := wsX0_roots) B.pre
  have hown : s.vm.findClass RX0 = some m.cls := findClass_of_methodNamed B.named
  have hlocks := B.notSynchronized
  subst hsz
  have hwX : ∀ w ∈ u_ws RX0 TX0 10, w ∈ wsX0_roots := by decide +kernel
  have hD := hD0.self (sz := s.heap.size)
  generalize hAe : va_A (wx h0 q_words k_words v_atp v_vsAtp v_hgatp v_rights v_latestPlace v_latestSecond v_latestEntry v_refusedAddress v_refusedEntry m_words) s.heap.size = A at hD ⊢
  have hA : ∀ q : Nat, s.heap.size ≤ q → A q := fun q h => by rw [← hAe]; exact Or.inr h
  have hS : va_S A s.heap s.heap [] := va_S.rf
  have hP : va_P (dC, dI) vwCl (wx h0 q_words k_words v_atp v_vsAtp v_hgatp v_rights v_latestPlace v_latestSecond v_latestEntry v_refusedAddress v_refusedEntry m_words) s.heap := hP
  have hl := lv_entry ([.ref h0, .int a0, .int a1, .int a2]) (n := 4) (Nat.le_of_ble_eq_true rfl)
  rw [lg_entry_eq]
  generalize (lg_sl ([.ref h0, .int a0, .int a1, .int a2]) ++ List.replicate (4 - (lg_sl ([.ref h0, .int a0, .int a1, .int a2])).length) Slot.unset).toArray = ls at hl ⊢
  have hl : lv_has ls 4 [(0, .ref h0), (1, .int a0), (2, .int a1), (3, .int a2)] := hl
  refine lv_aload_n hx hb dX0_roots_0 rfl (lv_at hl 0 rfl) ?_
  refine lv_iload_n hx hb dX0_roots_1 rfl (lv_at hl 1 rfl) ?_
  refine va_put (D := (dC, dI)) (ci := 0) (v := .int a0) (ty := .int) (C := RX0) (T := TX0) (N := 10) hx hb hts hwX tyX0 tyX0_ok nmX0 hown hK hP hD hS 0 rfl rfl 1 (by decide) (hts (.fieldLink RX0 24 "StageWalker" "atp" "I") (by decide +kernel)) (fun _ h9 => h9) rfl (by decide +kernel) rfl rfl (Nat.le_of_ble_eq_true rfl) dX0_roots_2 (fun H locs hP hD hS => ?_)
  have hP : va_P (dC, dI) vwCl (wx h0 q_words k_words a0 v_vsAtp v_hgatp v_rights v_latestPlace v_latestSecond v_latestEntry v_refusedAddress v_refusedEntry m_words) H := hP
  have hD : va_D A (wx h0 q_words k_words a0 v_vsAtp v_hgatp v_rights v_latestPlace v_latestSecond v_latestEntry v_refusedAddress v_refusedEntry m_words) := hD
  refine lv_aload_n hx hb dX0_roots_5 rfl (lv_at hl 0 rfl) ?_
  refine lv_iload_n hx hb dX0_roots_6 rfl (lv_at hl 2 rfl) ?_
  refine va_put (D := (dC, dI)) (ci := 0) (v := .int a1) (ty := .int) (C := RX0) (T := TX0) (N := 10) hx hb hts hwX tyX0 tyX0_ok nmX0 hown hK hP hD hS 0 rfl rfl 2 (by decide) (hts (.fieldLink RX0 27 "StageWalker" "vsAtp" "I") (by decide +kernel)) (fun _ h9 => h9) rfl (by decide +kernel) rfl rfl (Nat.le_of_ble_eq_true rfl) dX0_roots_7 (fun H locs hP hD hS => ?_)
  have hP : va_P (dC, dI) vwCl (wx h0 q_words k_words a0 a1 v_hgatp v_rights v_latestPlace v_latestSecond v_latestEntry v_refusedAddress v_refusedEntry m_words) H := hP
  have hD : va_D A (wx h0 q_words k_words a0 a1 v_hgatp v_rights v_latestPlace v_latestSecond v_latestEntry v_refusedAddress v_refusedEntry m_words) := hD
  refine lv_aload_n hx hb dX0_roots_10 rfl (lv_at hl 0 rfl) ?_
  refine lv_iload_n hx hb dX0_roots_11 rfl (lv_at hl 3 rfl) ?_
  refine va_put (D := (dC, dI)) (ci := 0) (v := .int a2) (ty := .int) (C := RX0) (T := TX0) (N := 10) hx hb hts hwX tyX0 tyX0_ok nmX0 hown hK hP hD hS 0 rfl rfl 3 (by decide) (hts (.fieldLink RX0 30 "StageWalker" "hgatp" "I") (by decide +kernel)) (fun _ h9 => h9) rfl (by decide +kernel) rfl rfl (Nat.le_of_ble_eq_true rfl) dX0_roots_12 (fun H locs hP hD hS => ?_)
  have hP : va_P (dC, dI) vwCl (wx h0 q_words k_words a0 a1 a2 v_rights v_latestPlace v_latestSecond v_latestEntry v_refusedAddress v_refusedEntry m_words) H := hP
  have hD : va_D A (wx h0 q_words k_words a0 a1 a2 v_rights v_latestPlace v_latestSecond v_latestEntry v_refusedAddress v_refusedEntry m_words) := hD
  exact W.vret hx hb hr (fun t ht hW => ⟨⟨(a0, a1, a2), rfl, by rfl, by rw [ht]; exact hP, va_K.moved hW.alike hK, hD⟩, hS.F ht⟩) hS.2.2 dX0_roots_15
def fx_rights (v_rights : Int32) (a0 : Int32) : Int32 × Int32 := (v_rights, a0 &&& 15)
set_option maxHeartbeats 4000000 in
set_option maxRecDepth 100000 in
theorem ctx_rights (l : Launch) (dC : Nat → ClassId) (dI : Nat → Nat → Nat) (h0 : Nat) (q_words : Nat) (k_words : ClassId) (sz : Nat) (v_atp : Int32) (v_vsAtp : Int32) (v_hgatp : Int32) (v_rights : Int32) (v_latestPlace : Int32) (v_latestSecond : Int32) (v_latestEntry : Int32) (v_refusedAddress : Int64) (v_refusedEntry : Int32) (m_words : Nat → Int32) (a0 : Int32) : MWi l yX0_rights wsX0_rights ({ frames := 0, cells := 0, slots := 0, locals := 0 }) (dC, dI) vwCl [(k_words, .int)] [.ref h0, .int a0] sz (wx h0 q_words k_words v_atp v_vsAtp v_hgatp v_rights v_latestPlace v_latestSecond v_latestEntry v_refusedAddress v_refusedEntry m_words) (fun u : Int32 × Int32 => (wx h0 q_words k_words v_atp v_vsAtp v_hgatp u.2 v_latestPlace v_latestSecond v_latestEntry v_refusedAddress v_refusedEntry m_words)) (fun u : Int32 × Int32 => u.1) (fx_rights v_rights a0) := by
  refine Met.ofW (cc := cX0_rights) (maxL := 3) (ret := (some .int)) (by decide) rfl ?_
  intro p e s m args below meth c s₁ B hml hv
  obtain ⟨rfl, hsz, hP, hK, hD0⟩ := hv
  have hx := B.exec
  have hb := B.bytes
  have hr := B.returns
  have hts := atoms_spec (ws := wsX0_rights) B.pre
  have hown : s.vm.findClass RX0 = some m.cls := findClass_of_methodNamed B.named
  have hlocks := B.notSynchronized
  subst hsz
  have hwX : ∀ w ∈ u_ws RX0 TX0 10, w ∈ wsX0_rights := by decide +kernel
  have hD := hD0.self (sz := s.heap.size)
  generalize hAe : va_A (wx h0 q_words k_words v_atp v_vsAtp v_hgatp v_rights v_latestPlace v_latestSecond v_latestEntry v_refusedAddress v_refusedEntry m_words) s.heap.size = A at hD ⊢
  have hA : ∀ q : Nat, s.heap.size ≤ q → A q := fun q h => by rw [← hAe]; exact Or.inr h
  have hS : va_S A s.heap s.heap [] := va_S.rf
  have hP : va_P (dC, dI) vwCl (wx h0 q_words k_words v_atp v_vsAtp v_hgatp v_rights v_latestPlace v_latestSecond v_latestEntry v_refusedAddress v_refusedEntry m_words) s.heap := hP
  have hl := lv_entry ([.ref h0, .int a0]) (n := 3) (Nat.le_of_ble_eq_true rfl)
  rw [lg_entry_eq]
  generalize (lg_sl ([.ref h0, .int a0]) ++ List.replicate (3 - (lg_sl ([.ref h0, .int a0])).length) Slot.unset).toArray = ls at hl ⊢
  have hl : lv_has ls 3 [(0, .ref h0), (1, .int a0)] := hl
  refine lv_aload_n hx hb dX0_rights_0 rfl (lv_at hl 0 rfl) ?_
  refine va_get (D := (dC, dI)) (ci := 0) (v := .int v_rights) (C := RX0) (T := TX0) (N := 10) hx hb hts hwX hown hK hP 0 rfl rfl 4 (by decide) (hts (.fieldLink RX0 33 "StageWalker" "rights" "I") (by decide +kernel)) (fun _ h9 => h9) rfl dX0_rights_1 ?_
  refine lv_istore_n (lv' := [(2, .int v_rights), (0, .ref h0), (1, .int a0)]) hx hb dX0_rights_4 rfl hl (by decide) rfl (fun ls hl => ?_)
  refine lv_aload_n hx hb dX0_rights_5 rfl (lv_at hl 1 rfl) ?_
  refine lv_iload_n hx hb dX0_rights_6 rfl (lv_at hl 2 rfl) ?_
  refine lv_bipush (v := 15) hx hb dX0_rights_7 (by decide) ?_
  refine lv_iand hx hb dX0_rights_9 ?_
  refine lv_topi (fun z_1 ez_1 => ?_)
  refine va_put (D := (dC, dI)) (ci := 0) (v := .int z_1) (ty := .int) (C := RX0) (T := TX0) (N := 10) hx hb hts hwX tyX0 tyX0_ok nmX0 hown hK hP hD hS 0 rfl rfl 4 (by decide) (hts (.fieldLink RX0 33 "StageWalker" "rights" "I") (by decide +kernel)) (fun _ h9 => h9) rfl (by decide +kernel) rfl rfl (Nat.le_of_ble_eq_true rfl) dX0_rights_10 (fun H locs hP hD hS => ?_)
  have hP : va_P (dC, dI) vwCl (wx h0 q_words k_words v_atp v_vsAtp v_hgatp z_1 v_latestPlace v_latestSecond v_latestEntry v_refusedAddress v_refusedEntry m_words) H := hP
  have hD : va_D A (wx h0 q_words k_words v_atp v_vsAtp v_hgatp z_1 v_latestPlace v_latestSecond v_latestEntry v_refusedAddress v_refusedEntry m_words) := hD
  refine lv_iload_n hx hb dX0_rights_13 rfl (lv_at hl 0 rfl) ?_
  exact W.iret (v := v_rights) hx hb hr (fun t ht hW => ⟨⟨_, (v_rights, z_1), rfl, ⟨rfl, by subst ez_1; rfl⟩, by rw [ht]; exact hP, va_K.moved hW.alike hK, hD⟩, hS.F ht⟩) hS.2.2 dX0_rights_14
end
section
/-! StageWalker.walkSecond, throughSecond -/
def fx_walkSecond (v_hgatp : Int32) (v_rights : Int32) (v_refusedAddress : Int64) (v_refusedEntry : Int32) (m_words : Nat → Int32) (a0 : Int32) (a1 : Int64) (a2 : Int32) : Int64 × Int64 × Int32 := if ((fx_entryAt m_words a0 ((fx_upperEntry (v_hgatp &&& 4194300) a1)))) < 0 then ((fx_entryAt m_words a0 ((fx_upperEntry (v_hgatp &&& 4194300) a1))), v_refusedAddress, v_refusedEntry) else if ((if ((fx_isTable ((fx_entryAt m_words a0 ((fx_upperEntry (v_hgatp &&& 4194300) a1)))))) = 0 then 1 else 0 : Int32)) = 0 then if ((fx_entryAt m_words a0 ((fx_lowerEntry ((fx_entryAt m_words a0 ((fx_upperEntry (v_hgatp &&& 4194300) a1)))) a1)))) < 0 then ((fx_entryAt m_words a0 ((fx_lowerEntry ((fx_entryAt m_words a0 ((fx_upperEntry (v_hgatp &&& 4194300) a1)))) a1))), v_refusedAddress, v_refusedEntry) else if ((fx_isGoodLeaf ((fx_entryAt m_words a0 ((fx_lowerEntry ((fx_entryAt m_words a0 ((fx_upperEntry (v_hgatp &&& 4194300) a1)))) a1)))) ((if ((fx_isTable ((fx_entryAt m_words a0 ((fx_upperEntry (v_hgatp &&& 4194300) a1)))))) = 0 then 1 else 0 : Int32)))) = 0 then ((fx_secondFault a0), a1, a2) else if ((fx_secondAllows v_rights a0 ((fx_entryAt m_words a0 ((fx_lowerEntry ((fx_entryAt m_words a0 ((fx_upperEntry (v_hgatp &&& 4194300) a1)))) a1)))) a2)) = 0 then ((fx_secondFault a0), a1, a2) else ((fx_result ((fx_entryAt m_words a0 ((fx_lowerEntry ((fx_entryAt m_words a0 ((fx_upperEntry (v_hgatp &&& 4194300) a1)))) a1)))) ((if ((fx_isTable ((fx_entryAt m_words a0 ((fx_upperEntry (v_hgatp &&& 4194300) a1)))))) = 0 then 1 else 0 : Int32)) a1), v_refusedAddress, v_refusedEntry) else if ((fx_isGoodLeaf ((fx_entryAt m_words a0 ((fx_upperEntry (v_hgatp &&& 4194300) a1)))) ((if ((fx_isTable ((fx_entryAt m_words a0 ((fx_upperEntry (v_hgatp &&& 4194300) a1)))))) = 0 then 1 else 0 : Int32)))) = 0 then ((fx_secondFault a0), a1, a2) else if ((fx_secondAllows v_rights a0 ((fx_entryAt m_words a0 ((fx_upperEntry (v_hgatp &&& 4194300) a1)))) a2)) = 0 then ((fx_secondFault a0), a1, a2) else ((fx_result ((fx_entryAt m_words a0 ((fx_upperEntry (v_hgatp &&& 4194300) a1)))) ((if ((fx_isTable ((fx_entryAt m_words a0 ((fx_upperEntry (v_hgatp &&& 4194300) a1)))))) = 0 then 1 else 0 : Int32)) a1), v_refusedAddress, v_refusedEntry)
set_option maxHeartbeats 4000000 in
set_option maxRecDepth 100000 in
theorem ctx_walkSecond (l : Launch) (dC : Nat → ClassId) (dI : Nat → Nat → Nat) (h0 : Nat) (q_words : Nat) (k_words : ClassId) (sz : Nat) (v_atp : Int32) (v_vsAtp : Int32) (v_hgatp : Int32) (v_rights : Int32) (v_latestPlace : Int32) (v_latestSecond : Int32) (v_latestEntry : Int32) (v_refusedAddress : Int64) (v_refusedEntry : Int32) (m_words : Nat → Int32) (a0 : Int32) (a1 : Int64) (a2 : Int32) (ha2 : a2 = 0 ∨ a2 = 1) : MWl l yX0_walkSecond wsX0_walkSecond ({ frames := 2, cells := 0, slots := 0, locals := 48 }) (dC, dI) vwCl [(k_words, .int)] [.ref h0, .int a0, .long a1, .int a2] sz (wx h0 q_words k_words v_atp v_vsAtp v_hgatp v_rights v_latestPlace v_latestSecond v_latestEntry v_refusedAddress v_refusedEntry m_words) (fun u : Int64 × Int64 × Int32 => (wx h0 q_words k_words v_atp v_vsAtp v_hgatp v_rights v_latestPlace v_latestSecond v_latestEntry u.2.1 u.2.2 m_words)) (fun u : Int64 × Int64 × Int32 => u.1) (fx_walkSecond v_hgatp v_rights v_refusedAddress v_refusedEntry m_words a0 a1 a2) := by
  refine Met.ofW (cc := cX0_walkSecond) (maxL := 8) (ret := (some .long)) (by decide) rfl ?_
  intro p e s m args below meth c s₁ B hml hv
  obtain ⟨rfl, hsz, hP, hK, hD0⟩ := hv
  have hx := B.exec
  have hb := B.bytes
  have hr := B.returns
  have hts := atoms_spec (ws := wsX0_walkSecond) B.pre
  have hown : s.vm.findClass RX0 = some m.cls := findClass_of_methodNamed B.named
  have hlocks := B.notSynchronized
  subst hsz
  have hwX : ∀ w ∈ u_ws RX0 TX0 10, w ∈ wsX0_walkSecond := by decide +kernel
  have hD := hD0.self (sz := s.heap.size)
  generalize hAe : va_A (wx h0 q_words k_words v_atp v_vsAtp v_hgatp v_rights v_latestPlace v_latestSecond v_latestEntry v_refusedAddress v_refusedEntry m_words) s.heap.size = A at hD ⊢
  have hA : ∀ q : Nat, s.heap.size ≤ q → A q := fun q h => by rw [← hAe]; exact Or.inr h
  have hS : va_S A s.heap s.heap [] := va_S.rf
  have hP : va_P (dC, dI) vwCl (wx h0 q_words k_words v_atp v_vsAtp v_hgatp v_rights v_latestPlace v_latestSecond v_latestEntry v_refusedAddress v_refusedEntry m_words) s.heap := hP
  have hl := lv_entry ([.ref h0, .int a0, .long a1, .int a2]) (n := 8) (Nat.le_of_ble_eq_true rfl)
  rw [lg_entry_eq]
  generalize (lg_sl ([.ref h0, .int a0, .long a1, .int a2]) ++ List.replicate (8 - (lg_sl ([.ref h0, .int a0, .long a1, .int a2])).length) Slot.unset).toArray = ls at hl ⊢
  have hl : lv_has ls 8 [(0, .ref h0), (1, .int a0), (2, .long a1), (4, .int a2)] := hl
  refine lv_aload_n hx hb dX0_walkSecond_0 rfl (lv_at hl 0 rfl) ?_
  refine lv_iload_n hx hb dX0_walkSecond_1 rfl (lv_at hl 1 rfl) ?_
  refine lv_aload_n hx hb dX0_walkSecond_2 rfl (lv_at hl 0 rfl) ?_
  refine va_get (D := (dC, dI)) (ci := 0) (v := .int v_hgatp) (C := RX0) (T := TX0) (N := 10) hx hb hts hwX hown hK hP 0 rfl rfl 3 (by decide) (hts (.fieldLink RX0 30 "StageWalker" "hgatp" "I") (by decide +kernel)) (fun _ h9 => h9) rfl dX0_walkSecond_3 ?_
  refine lv_ldc hx hb hown (hts (.constant RX0 123 4194300) (by decide +kernel)) dX0_walkSecond_6 ?_
  refine lv_iand hx hb dX0_walkSecond_8 ?_
  refine lv_lload_n hx hb dX0_walkSecond_9 rfl (lv_at hl 2 rfl) ?_
  refine cs_l (va_runS (As := [.int (v_hgatp &&& 4194300), .long a1]) (rest := [.int a0, .ref h0]) ⟨hx, hb, hml, hown, hts⟩ (ctx_upperEntry l s.heap.size (v_hgatp &&& 4194300) a1) (va_cwS 2 hts gX0_walkSecond_X0_upperEntry rfl rfl rfl (by decide +kernel) ⟨Nat.le_of_ble_eq_true rfl, Nat.le_of_ble_eq_true rfl⟩) ⟨fun a U g mk q => q, fun U hU hW => ⟨rfl, congrArg Array.size hU⟩⟩ rfl rfl hl.1 rfl (lv_room (Nat.le_of_ble_eq_true rfl)) dX0_walkSecond_10 ⟨Nat.zero_le _, Nat.zero_le _⟩) hA hP hS (fun H locs hP hS => ?_)
  refine cr_l (va_runV (As := [.int a0, .long ((fx_upperEntry (v_hgatp &&& 4194300) a1))]) (rest := []) ⟨hx, hb, hml, hown, hts⟩ (ctx_entryAt l dC dI h0 q_words k_words H.size v_atp v_vsAtp v_hgatp v_rights v_latestPlace v_latestSecond v_latestEntry v_refusedAddress v_refusedEntry m_words a0 ((fx_upperEntry (v_hgatp &&& 4194300) a1))) (cwV 2 hts gX0_walkSecond_X0_entryAt rfl rfl rfl (by decide +kernel) ⟨Nat.le_of_ble_eq_true rfl, Nat.le_of_ble_eq_true rfl⟩) ⟨fun a U g mk q => ⟨q.1, q.2.1, q.2.2.1, va_K.moved (u := U) (U := U.calling g mk a) (Vm.Alike.refl U.vm) q.2.2.2.1, q.2.2.2.2⟩, va_recv hK hP (ci := 0) (q0 := 0) rfl rfl, fun U hU hW => ⟨rfl, by rw [hU], by rw [hU]; exact hP, va_K.moved hW.alike hK, hD.weaken (fun _ _ _ _ => trivial)⟩⟩ rfl rfl hl.1 rfl (lv_room (Nat.le_of_ble_eq_true rfl)) dX0_walkSecond_13 ⟨Nat.zero_le _, Nat.zero_le _⟩) hA hD hP hS (fun H locs hP hS => ?_)
  refine lv_topl (fun z_1 ez_1 => ?_)
  refine lv_lstore (lv' := [(5, .long z_1), (0, .ref h0), (1, .int a0), (2, .long a1), (4, .int a2)]) hx hb dX0_walkSecond_16 hl (by decide) rfl (fun ls hl => ?_)
  refine lv_lload hx hb dX0_walkSecond_18 (lv_at hl 0 rfl) ?_
  refine cs_i (va_runS (As := [.long z_1]) (rest := []) ⟨hx, hb, hml, hown, hts⟩ (ctx_isTable l H.size z_1) (va_cwS 1 hts gX0_walkSecond_X0_isTable rfl rfl rfl (by decide +kernel) ⟨Nat.le_of_ble_eq_true rfl, Nat.le_of_ble_eq_true rfl⟩) ⟨fun a U g mk q => q, fun U hU hW => ⟨rfl, congrArg Array.size hU⟩⟩ rfl rfl hl.1 rfl (lv_room (Nat.le_of_ble_eq_true rfl)) dX0_walkSecond_20 ⟨Nat.zero_le _, Nat.zero_le _⟩) hA hP hS (fun H locs hP hS => ?_)
  refine lj_i (j := 31) (z0 := if ((fx_isTable z_1)) = 0 then 1 else 0) (rest := []) hP hS (fun H locs hP hS z_2 ez_2 => ?_) (fun J31_23 => ?_)
  · skip
    have oz_2 : z_2 = 0 ∨ z_2 = 1 := by rw [ez_2]; exact ite01 (Or.inr rfl) (Or.inl rfl)
    refine lv_istore (lv' := [(7, .int z_2), (5, .long z_1), (0, .ref h0), (1, .int a0), (2, .long a1), (4, .int a2)]) hx hb dX0_walkSecond_31 hl (by decide) rfl (fun ls hl => ?_)
    refine lv_lload hx hb dX0_walkSecond_33 (lv_at hl 1 rfl) ?_
    refine lv_lconst (v := 0) hx hb dX0_walkSecond_35 (by decide) ?_
    refine lq_lt (tgt := 58) hx hb dX0_walkSecond_36 dX0_walkSecond_37 (by decide) (fun c_37 => ?_) (fun c_37 => ?_)
    · skip
      refine lv_lload hx hb dX0_walkSecond_58 (lv_at hl 1 rfl) ?_
      refine lv_lconst (v := 0) hx hb dX0_walkSecond_60 (by decide) ?_
      refine lq_ge (tgt := 68) hx hb dX0_walkSecond_61 dX0_walkSecond_62 (by decide) (fun c_62 => ?_) (fun c_62 => ?_)
      · skip
        exact absurd c_37 c_62
      · skip
        refine lv_lload hx hb dX0_walkSecond_65 (lv_at hl 1 rfl) ?_
        exact W.lret (v := z_1) hx hb hr (fun t ht hW => ⟨⟨_, (z_1, v_refusedAddress, v_refusedEntry), rfl, ⟨rfl, by subst ez_2; subst ez_1; rw [fx_walkSecond, if_pos c_37] <;> rfl⟩, by rw [ht]; exact hP, va_K.moved hW.alike hK, hD⟩, hS.F ht⟩) hS.2.2 dX0_walkSecond_67
    · skip
      refine lv_iload hx hb dX0_walkSecond_40 (lv_at hl 0 rfl) ?_
      refine lv_if_ne (tgt := 58) hx hb dX0_walkSecond_42 (by decide) (fun c_42 => ?_) (fun c_42 => ?_)
      · skip
        refine lv_lload hx hb dX0_walkSecond_58 (lv_at hl 1 rfl) ?_
        refine lv_lconst (v := 0) hx hb dX0_walkSecond_60 (by decide) ?_
        refine lq_ge (tgt := 68) hx hb dX0_walkSecond_61 dX0_walkSecond_62 (by decide) (fun c_62 => ?_) (fun c_62 => ?_)
        · skip
          refine lv_lload hx hb dX0_walkSecond_68 (lv_at hl 1 rfl) ?_
          refine lv_iload hx hb dX0_walkSecond_70 (lv_at hl 0 rfl) ?_
          refine cs_i (va_runS (As := [.long z_1, .int z_2]) (rest := []) ⟨hx, hb, hml, hown, hts⟩ (ctx_isGoodLeaf l H.size z_1 z_2) (va_cwS 2 hts gX0_walkSecond_X0_isGoodLeaf rfl rfl rfl (by decide +kernel) ⟨Nat.le_of_ble_eq_true rfl, Nat.le_of_ble_eq_true rfl⟩) ⟨fun a U g mk q => q, fun U hU hW => ⟨rfl, congrArg Array.size hU⟩⟩ rfl rfl hl.1 rfl (lv_room (Nat.le_of_ble_eq_true rfl)) dX0_walkSecond_72 ⟨Nat.zero_le _, Nat.zero_le _⟩) hA hP hS (fun H locs hP hS => ?_)
          refine lv_if_eq (tgt := 99) hx hb dX0_walkSecond_75 (by decide) (fun c_75 => ?_) (fun c_75 => ?_)
          · skip
            refine lv_aload_n hx hb dX0_walkSecond_99 rfl (lv_at hl 2 rfl) ?_
            refine lv_lload_n hx hb dX0_walkSecond_100 rfl (lv_at hl 4 rfl) ?_
            refine va_put (D := (dC, dI)) (ci := 0) (v := .long a1) (ty := .long) (C := RX0) (T := TX0) (N := 10) hx hb hts hwX tyX0 tyX0_ok nmX0 hown hK hP hD hS 0 rfl rfl 8 (by decide) (hts (.fieldLink RX0 62 "StageWalker" "refusedAddress" "J") (by decide +kernel)) (fun _ h9 => h9) rfl (by decide +kernel) rfl rfl (Nat.le_of_ble_eq_true rfl) dX0_walkSecond_101 (fun H locs hP hD hS => ?_)
            have hP : va_P (dC, dI) vwCl (wx h0 q_words k_words v_atp v_vsAtp v_hgatp v_rights v_latestPlace v_latestSecond v_latestEntry a1 v_refusedEntry m_words) H := hP
            have hD : va_D A (wx h0 q_words k_words v_atp v_vsAtp v_hgatp v_rights v_latestPlace v_latestSecond v_latestEntry a1 v_refusedEntry m_words) := hD
            refine lv_aload_n hx hb dX0_walkSecond_104 rfl (lv_at hl 2 rfl) ?_
            refine lv_iload hx hb dX0_walkSecond_105 (lv_at hl 5 rfl) ?_
            refine va_put (D := (dC, dI)) (ci := 0) (v := .int a2) (ty := .boolean) (C := RX0) (T := TX0) (N := 10) hx hb hts hwX tyX0 tyX0_ok nmX0 hown hK hP hD hS 0 rfl rfl 9 (by decide) (hts (.fieldLink RX0 66 "StageWalker" "refusedEntry" "Z") (by decide +kernel)) (fun _ h9 => h9) rfl (by decide +kernel) (nb_z ha2) (fb_z ha2) (Nat.le_of_ble_eq_true rfl) dX0_walkSecond_107 (fun H locs hP hD hS => ?_)
            have hP : va_P (dC, dI) vwCl (wx h0 q_words k_words v_atp v_vsAtp v_hgatp v_rights v_latestPlace v_latestSecond v_latestEntry a1 a2 m_words) H := hP
            have hD : va_D A (wx h0 q_words k_words v_atp v_vsAtp v_hgatp v_rights v_latestPlace v_latestSecond v_latestEntry a1 a2 m_words) := hD
            refine lv_iload_n hx hb dX0_walkSecond_110 rfl (lv_at hl 3 rfl) ?_
            refine cs_l (va_runS (As := [.int a0]) (rest := []) ⟨hx, hb, hml, hown, hts⟩ (ctx_secondFault l H.size a0) (va_cwS 1 hts gX0_walkSecond_X0_secondFault rfl rfl rfl (by decide +kernel) ⟨Nat.le_of_ble_eq_true rfl, Nat.le_of_ble_eq_true rfl⟩) ⟨fun a U g mk q => q, fun U hU hW => ⟨rfl, congrArg Array.size hU⟩⟩ rfl rfl hl.1 rfl (lv_room (Nat.le_of_ble_eq_true rfl)) dX0_walkSecond_111 ⟨Nat.zero_le _, Nat.zero_le _⟩) hA hP hS (fun H locs hP hS => ?_)
            exact W.lret (v := (fx_secondFault a0)) hx hb hr (fun t ht hW => ⟨⟨_, ((fx_secondFault a0), a1, a2), rfl, ⟨rfl, by subst ez_2; subst ez_1; rw [fx_walkSecond, if_neg c_37, if_neg c_42, if_pos c_75] <;> rfl⟩, by rw [ht]; exact hP, va_K.moved hW.alike hK, hD⟩, hS.F ht⟩) hS.2.2 dX0_walkSecond_114
          · skip
            refine lv_aload_n hx hb dX0_walkSecond_78 rfl (lv_at hl 2 rfl) ?_
            refine lv_iload_n hx hb dX0_walkSecond_79 rfl (lv_at hl 3 rfl) ?_
            refine lv_lload hx hb dX0_walkSecond_80 (lv_at hl 1 rfl) ?_
            refine lv_iload hx hb dX0_walkSecond_82 (lv_at hl 5 rfl) ?_
            refine cr_i (va_runV (As := [.int a0, .long z_1, .int a2]) (rest := []) ⟨hx, hb, hml, hown, hts⟩ (ctx_secondAllows l dC dI h0 q_words k_words H.size v_atp v_vsAtp v_hgatp v_rights v_latestPlace v_latestSecond v_latestEntry v_refusedAddress v_refusedEntry m_words a0 z_1 a2) (cwV 3 hts gX0_walkSecond_X0_secondAllows rfl rfl rfl (by decide +kernel) ⟨Nat.le_of_ble_eq_true rfl, Nat.le_of_ble_eq_true rfl⟩) ⟨fun a U g mk q => ⟨q.1, q.2.1, q.2.2.1, va_K.moved (u := U) (U := U.calling g mk a) (Vm.Alike.refl U.vm) q.2.2.2.1, q.2.2.2.2⟩, va_recv hK hP (ci := 0) (q0 := 0) rfl rfl, fun U hU hW => ⟨rfl, by rw [hU], by rw [hU]; exact hP, va_K.moved hW.alike hK, hD.weaken (fun _ _ _ _ => trivial)⟩⟩ rfl rfl hl.1 rfl (lv_room (Nat.le_of_ble_eq_true rfl)) dX0_walkSecond_84 ⟨Nat.zero_le _, Nat.zero_le _⟩) hA hD hP hS (fun H locs hP hS => ?_)
            refine lv_if_eq (tgt := 99) hx hb dX0_walkSecond_87 (by decide) (fun c_87 => ?_) (fun c_87 => ?_)
            · skip
              refine lv_aload_n hx hb dX0_walkSecond_99 rfl (lv_at hl 2 rfl) ?_
              refine lv_lload_n hx hb dX0_walkSecond_100 rfl (lv_at hl 4 rfl) ?_
              refine va_put (D := (dC, dI)) (ci := 0) (v := .long a1) (ty := .long) (C := RX0) (T := TX0) (N := 10) hx hb hts hwX tyX0 tyX0_ok nmX0 hown hK hP hD hS 0 rfl rfl 8 (by decide) (hts (.fieldLink RX0 62 "StageWalker" "refusedAddress" "J") (by decide +kernel)) (fun _ h9 => h9) rfl (by decide +kernel) rfl rfl (Nat.le_of_ble_eq_true rfl) dX0_walkSecond_101 (fun H locs hP hD hS => ?_)
              have hP : va_P (dC, dI) vwCl (wx h0 q_words k_words v_atp v_vsAtp v_hgatp v_rights v_latestPlace v_latestSecond v_latestEntry a1 v_refusedEntry m_words) H := hP
              have hD : va_D A (wx h0 q_words k_words v_atp v_vsAtp v_hgatp v_rights v_latestPlace v_latestSecond v_latestEntry a1 v_refusedEntry m_words) := hD
              refine lv_aload_n hx hb dX0_walkSecond_104 rfl (lv_at hl 2 rfl) ?_
              refine lv_iload hx hb dX0_walkSecond_105 (lv_at hl 5 rfl) ?_
              refine va_put (D := (dC, dI)) (ci := 0) (v := .int a2) (ty := .boolean) (C := RX0) (T := TX0) (N := 10) hx hb hts hwX tyX0 tyX0_ok nmX0 hown hK hP hD hS 0 rfl rfl 9 (by decide) (hts (.fieldLink RX0 66 "StageWalker" "refusedEntry" "Z") (by decide +kernel)) (fun _ h9 => h9) rfl (by decide +kernel) (nb_z ha2) (fb_z ha2) (Nat.le_of_ble_eq_true rfl) dX0_walkSecond_107 (fun H locs hP hD hS => ?_)
              have hP : va_P (dC, dI) vwCl (wx h0 q_words k_words v_atp v_vsAtp v_hgatp v_rights v_latestPlace v_latestSecond v_latestEntry a1 a2 m_words) H := hP
              have hD : va_D A (wx h0 q_words k_words v_atp v_vsAtp v_hgatp v_rights v_latestPlace v_latestSecond v_latestEntry a1 a2 m_words) := hD
              refine lv_iload_n hx hb dX0_walkSecond_110 rfl (lv_at hl 3 rfl) ?_
              refine cs_l (va_runS (As := [.int a0]) (rest := []) ⟨hx, hb, hml, hown, hts⟩ (ctx_secondFault l H.size a0) (va_cwS 1 hts gX0_walkSecond_X0_secondFault rfl rfl rfl (by decide +kernel) ⟨Nat.le_of_ble_eq_true rfl, Nat.le_of_ble_eq_true rfl⟩) ⟨fun a U g mk q => q, fun U hU hW => ⟨rfl, congrArg Array.size hU⟩⟩ rfl rfl hl.1 rfl (lv_room (Nat.le_of_ble_eq_true rfl)) dX0_walkSecond_111 ⟨Nat.zero_le _, Nat.zero_le _⟩) hA hP hS (fun H locs hP hS => ?_)
              exact W.lret (v := (fx_secondFault a0)) hx hb hr (fun t ht hW => ⟨⟨_, ((fx_secondFault a0), a1, a2), rfl, ⟨rfl, by subst ez_2; subst ez_1; rw [fx_walkSecond, if_neg c_37, if_neg c_42, if_neg c_75, if_pos c_87] <;> rfl⟩, by rw [ht]; exact hP, va_K.moved hW.alike hK, hD⟩, hS.F ht⟩) hS.2.2 dX0_walkSecond_114
            · skip
              refine lv_lload hx hb dX0_walkSecond_90 (lv_at hl 1 rfl) ?_
              refine lv_iload hx hb dX0_walkSecond_92 (lv_at hl 0 rfl) ?_
              refine lv_lload_n hx hb dX0_walkSecond_94 rfl (lv_at hl 4 rfl) ?_
              refine cs_l (va_runS (As := [.long z_1, .int z_2, .long a1]) (rest := []) ⟨hx, hb, hml, hown, hts⟩ (ctx_result l H.size z_1 z_2 a1) (va_cwS 3 hts gX0_walkSecond_X0_result rfl rfl rfl (by decide +kernel) ⟨Nat.le_of_ble_eq_true rfl, Nat.le_of_ble_eq_true rfl⟩) ⟨fun a U g mk q => q, fun U hU hW => ⟨rfl, congrArg Array.size hU⟩⟩ rfl rfl hl.1 rfl (lv_room (Nat.le_of_ble_eq_true rfl)) dX0_walkSecond_95 ⟨Nat.zero_le _, Nat.zero_le _⟩) hA hP hS (fun H locs hP hS => ?_)
              exact W.lret (v := (fx_result z_1 z_2 a1)) hx hb hr (fun t ht hW => ⟨⟨_, ((fx_result z_1 z_2 a1), v_refusedAddress, v_refusedEntry), rfl, ⟨rfl, by subst ez_2; subst ez_1; rw [fx_walkSecond, if_neg c_37, if_neg c_42, if_neg c_75, if_neg c_87] <;> rfl⟩, by rw [ht]; exact hP, va_K.moved hW.alike hK, hD⟩, hS.F ht⟩) hS.2.2 dX0_walkSecond_98
        · skip
          exact absurd c_62 c_37
      · skip
        refine lv_aload_n hx hb dX0_walkSecond_45 rfl (lv_at hl 2 rfl) ?_
        refine lv_iload_n hx hb dX0_walkSecond_46 rfl (lv_at hl 3 rfl) ?_
        refine lv_lload hx hb dX0_walkSecond_47 (lv_at hl 1 rfl) ?_
        refine lv_lload_n hx hb dX0_walkSecond_49 rfl (lv_at hl 4 rfl) ?_
        refine cs_l (va_runS (As := [.long z_1, .long a1]) (rest := [.int a0, .ref h0]) ⟨hx, hb, hml, hown, hts⟩ (ctx_lowerEntry l H.size z_1 a1) (va_cwS 2 hts gX0_walkSecond_X0_lowerEntry rfl rfl rfl (by decide +kernel) ⟨Nat.le_of_ble_eq_true rfl, Nat.le_of_ble_eq_true rfl⟩) ⟨fun a U g mk q => q, fun U hU hW => ⟨rfl, congrArg Array.size hU⟩⟩ rfl rfl hl.1 rfl (lv_room (Nat.le_of_ble_eq_true rfl)) dX0_walkSecond_50 ⟨Nat.zero_le _, Nat.zero_le _⟩) hA hP hS (fun H locs hP hS => ?_)
        refine cr_l (va_runV (As := [.int a0, .long ((fx_lowerEntry z_1 a1))]) (rest := []) ⟨hx, hb, hml, hown, hts⟩ (ctx_entryAt l dC dI h0 q_words k_words H.size v_atp v_vsAtp v_hgatp v_rights v_latestPlace v_latestSecond v_latestEntry v_refusedAddress v_refusedEntry m_words a0 ((fx_lowerEntry z_1 a1))) (cwV 2 hts gX0_walkSecond_X0_entryAt rfl rfl rfl (by decide +kernel) ⟨Nat.le_of_ble_eq_true rfl, Nat.le_of_ble_eq_true rfl⟩) ⟨fun a U g mk q => ⟨q.1, q.2.1, q.2.2.1, va_K.moved (u := U) (U := U.calling g mk a) (Vm.Alike.refl U.vm) q.2.2.2.1, q.2.2.2.2⟩, va_recv hK hP (ci := 0) (q0 := 0) rfl rfl, fun U hU hW => ⟨rfl, by rw [hU], by rw [hU]; exact hP, va_K.moved hW.alike hK, hD.weaken (fun _ _ _ _ => trivial)⟩⟩ rfl rfl hl.1 rfl (lv_room (Nat.le_of_ble_eq_true rfl)) dX0_walkSecond_53 ⟨Nat.zero_le _, Nat.zero_le _⟩) hA hD hP hS (fun H locs hP hS => ?_)
        refine lv_topl (fun z_3 ez_3 => ?_)
        refine lv_lstore (lv' := [(5, .long z_3), (7, .int z_2), (0, .ref h0), (1, .int a0), (2, .long a1), (4, .int a2)]) hx hb dX0_walkSecond_56 hl (by decide) rfl (fun ls hl => ?_)
        refine lv_lload hx hb dX0_walkSecond_58 (lv_at hl 0 rfl) ?_
        refine lv_lconst (v := 0) hx hb dX0_walkSecond_60 (by decide) ?_
        refine lq_ge (tgt := 68) hx hb dX0_walkSecond_61 dX0_walkSecond_62 (by decide) (fun c_62 => ?_) (fun c_62 => ?_)
        · skip
          refine lv_lload hx hb dX0_walkSecond_68 (lv_at hl 0 rfl) ?_
          refine lv_iload hx hb dX0_walkSecond_70 (lv_at hl 1 rfl) ?_
          refine cs_i (va_runS (As := [.long z_3, .int z_2]) (rest := []) ⟨hx, hb, hml, hown, hts⟩ (ctx_isGoodLeaf l H.size z_3 z_2) (va_cwS 2 hts gX0_walkSecond_X0_isGoodLeaf rfl rfl rfl (by decide +kernel) ⟨Nat.le_of_ble_eq_true rfl, Nat.le_of_ble_eq_true rfl⟩) ⟨fun a U g mk q => q, fun U hU hW => ⟨rfl, congrArg Array.size hU⟩⟩ rfl rfl hl.1 rfl (lv_room (Nat.le_of_ble_eq_true rfl)) dX0_walkSecond_72 ⟨Nat.zero_le _, Nat.zero_le _⟩) hA hP hS (fun H locs hP hS => ?_)
          refine lv_if_eq (tgt := 99) hx hb dX0_walkSecond_75 (by decide) (fun c_75 => ?_) (fun c_75 => ?_)
          · skip
            refine lv_aload_n hx hb dX0_walkSecond_99 rfl (lv_at hl 2 rfl) ?_
            refine lv_lload_n hx hb dX0_walkSecond_100 rfl (lv_at hl 4 rfl) ?_
            refine va_put (D := (dC, dI)) (ci := 0) (v := .long a1) (ty := .long) (C := RX0) (T := TX0) (N := 10) hx hb hts hwX tyX0 tyX0_ok nmX0 hown hK hP hD hS 0 rfl rfl 8 (by decide) (hts (.fieldLink RX0 62 "StageWalker" "refusedAddress" "J") (by decide +kernel)) (fun _ h9 => h9) rfl (by decide +kernel) rfl rfl (Nat.le_of_ble_eq_true rfl) dX0_walkSecond_101 (fun H locs hP hD hS => ?_)
            have hP : va_P (dC, dI) vwCl (wx h0 q_words k_words v_atp v_vsAtp v_hgatp v_rights v_latestPlace v_latestSecond v_latestEntry a1 v_refusedEntry m_words) H := hP
            have hD : va_D A (wx h0 q_words k_words v_atp v_vsAtp v_hgatp v_rights v_latestPlace v_latestSecond v_latestEntry a1 v_refusedEntry m_words) := hD
            refine lv_aload_n hx hb dX0_walkSecond_104 rfl (lv_at hl 2 rfl) ?_
            refine lv_iload hx hb dX0_walkSecond_105 (lv_at hl 5 rfl) ?_
            refine va_put (D := (dC, dI)) (ci := 0) (v := .int a2) (ty := .boolean) (C := RX0) (T := TX0) (N := 10) hx hb hts hwX tyX0 tyX0_ok nmX0 hown hK hP hD hS 0 rfl rfl 9 (by decide) (hts (.fieldLink RX0 66 "StageWalker" "refusedEntry" "Z") (by decide +kernel)) (fun _ h9 => h9) rfl (by decide +kernel) (nb_z ha2) (fb_z ha2) (Nat.le_of_ble_eq_true rfl) dX0_walkSecond_107 (fun H locs hP hD hS => ?_)
            have hP : va_P (dC, dI) vwCl (wx h0 q_words k_words v_atp v_vsAtp v_hgatp v_rights v_latestPlace v_latestSecond v_latestEntry a1 a2 m_words) H := hP
            have hD : va_D A (wx h0 q_words k_words v_atp v_vsAtp v_hgatp v_rights v_latestPlace v_latestSecond v_latestEntry a1 a2 m_words) := hD
            refine lv_iload_n hx hb dX0_walkSecond_110 rfl (lv_at hl 3 rfl) ?_
            refine cs_l (va_runS (As := [.int a0]) (rest := []) ⟨hx, hb, hml, hown, hts⟩ (ctx_secondFault l H.size a0) (va_cwS 1 hts gX0_walkSecond_X0_secondFault rfl rfl rfl (by decide +kernel) ⟨Nat.le_of_ble_eq_true rfl, Nat.le_of_ble_eq_true rfl⟩) ⟨fun a U g mk q => q, fun U hU hW => ⟨rfl, congrArg Array.size hU⟩⟩ rfl rfl hl.1 rfl (lv_room (Nat.le_of_ble_eq_true rfl)) dX0_walkSecond_111 ⟨Nat.zero_le _, Nat.zero_le _⟩) hA hP hS (fun H locs hP hS => ?_)
            exact W.lret (v := (fx_secondFault a0)) hx hb hr (fun t ht hW => ⟨⟨_, ((fx_secondFault a0), a1, a2), rfl, ⟨rfl, by subst ez_3; subst ez_2; subst ez_1; rw [fx_walkSecond, if_neg c_37, if_pos c_42, if_neg c_62, if_pos c_75] <;> rfl⟩, by rw [ht]; exact hP, va_K.moved hW.alike hK, hD⟩, hS.F ht⟩) hS.2.2 dX0_walkSecond_114
          · skip
            refine lv_aload_n hx hb dX0_walkSecond_78 rfl (lv_at hl 2 rfl) ?_
            refine lv_iload_n hx hb dX0_walkSecond_79 rfl (lv_at hl 3 rfl) ?_
            refine lv_lload hx hb dX0_walkSecond_80 (lv_at hl 0 rfl) ?_
            refine lv_iload hx hb dX0_walkSecond_82 (lv_at hl 5 rfl) ?_
            refine cr_i (va_runV (As := [.int a0, .long z_3, .int a2]) (rest := []) ⟨hx, hb, hml, hown, hts⟩ (ctx_secondAllows l dC dI h0 q_words k_words H.size v_atp v_vsAtp v_hgatp v_rights v_latestPlace v_latestSecond v_latestEntry v_refusedAddress v_refusedEntry m_words a0 z_3 a2) (cwV 3 hts gX0_walkSecond_X0_secondAllows rfl rfl rfl (by decide +kernel) ⟨Nat.le_of_ble_eq_true rfl, Nat.le_of_ble_eq_true rfl⟩) ⟨fun a U g mk q => ⟨q.1, q.2.1, q.2.2.1, va_K.moved (u := U) (U := U.calling g mk a) (Vm.Alike.refl U.vm) q.2.2.2.1, q.2.2.2.2⟩, va_recv hK hP (ci := 0) (q0 := 0) rfl rfl, fun U hU hW => ⟨rfl, by rw [hU], by rw [hU]; exact hP, va_K.moved hW.alike hK, hD.weaken (fun _ _ _ _ => trivial)⟩⟩ rfl rfl hl.1 rfl (lv_room (Nat.le_of_ble_eq_true rfl)) dX0_walkSecond_84 ⟨Nat.zero_le _, Nat.zero_le _⟩) hA hD hP hS (fun H locs hP hS => ?_)
            refine lv_if_eq (tgt := 99) hx hb dX0_walkSecond_87 (by decide) (fun c_87 => ?_) (fun c_87 => ?_)
            · skip
              refine lv_aload_n hx hb dX0_walkSecond_99 rfl (lv_at hl 2 rfl) ?_
              refine lv_lload_n hx hb dX0_walkSecond_100 rfl (lv_at hl 4 rfl) ?_
              refine va_put (D := (dC, dI)) (ci := 0) (v := .long a1) (ty := .long) (C := RX0) (T := TX0) (N := 10) hx hb hts hwX tyX0 tyX0_ok nmX0 hown hK hP hD hS 0 rfl rfl 8 (by decide) (hts (.fieldLink RX0 62 "StageWalker" "refusedAddress" "J") (by decide +kernel)) (fun _ h9 => h9) rfl (by decide +kernel) rfl rfl (Nat.le_of_ble_eq_true rfl) dX0_walkSecond_101 (fun H locs hP hD hS => ?_)
              have hP : va_P (dC, dI) vwCl (wx h0 q_words k_words v_atp v_vsAtp v_hgatp v_rights v_latestPlace v_latestSecond v_latestEntry a1 v_refusedEntry m_words) H := hP
              have hD : va_D A (wx h0 q_words k_words v_atp v_vsAtp v_hgatp v_rights v_latestPlace v_latestSecond v_latestEntry a1 v_refusedEntry m_words) := hD
              refine lv_aload_n hx hb dX0_walkSecond_104 rfl (lv_at hl 2 rfl) ?_
              refine lv_iload hx hb dX0_walkSecond_105 (lv_at hl 5 rfl) ?_
              refine va_put (D := (dC, dI)) (ci := 0) (v := .int a2) (ty := .boolean) (C := RX0) (T := TX0) (N := 10) hx hb hts hwX tyX0 tyX0_ok nmX0 hown hK hP hD hS 0 rfl rfl 9 (by decide) (hts (.fieldLink RX0 66 "StageWalker" "refusedEntry" "Z") (by decide +kernel)) (fun _ h9 => h9) rfl (by decide +kernel) (nb_z ha2) (fb_z ha2) (Nat.le_of_ble_eq_true rfl) dX0_walkSecond_107 (fun H locs hP hD hS => ?_)
              have hP : va_P (dC, dI) vwCl (wx h0 q_words k_words v_atp v_vsAtp v_hgatp v_rights v_latestPlace v_latestSecond v_latestEntry a1 a2 m_words) H := hP
              have hD : va_D A (wx h0 q_words k_words v_atp v_vsAtp v_hgatp v_rights v_latestPlace v_latestSecond v_latestEntry a1 a2 m_words) := hD
              refine lv_iload_n hx hb dX0_walkSecond_110 rfl (lv_at hl 3 rfl) ?_
              refine cs_l (va_runS (As := [.int a0]) (rest := []) ⟨hx, hb, hml, hown, hts⟩ (ctx_secondFault l H.size a0) (va_cwS 1 hts gX0_walkSecond_X0_secondFault rfl rfl rfl (by decide +kernel) ⟨Nat.le_of_ble_eq_true rfl, Nat.le_of_ble_eq_true rfl⟩) ⟨fun a U g mk q => q, fun U hU hW => ⟨rfl, congrArg Array.size hU⟩⟩ rfl rfl hl.1 rfl (lv_room (Nat.le_of_ble_eq_true rfl)) dX0_walkSecond_111 ⟨Nat.zero_le _, Nat.zero_le _⟩) hA hP hS (fun H locs hP hS => ?_)
              exact W.lret (v := (fx_secondFault a0)) hx hb hr (fun t ht hW => ⟨⟨_, ((fx_secondFault a0), a1, a2), rfl, ⟨rfl, by subst ez_3; subst ez_2; subst ez_1; rw [fx_walkSecond, if_neg c_37, if_pos c_42, if_neg c_62, if_neg c_75, if_pos c_87] <;> rfl⟩, by rw [ht]; exact hP, va_K.moved hW.alike hK, hD⟩, hS.F ht⟩) hS.2.2 dX0_walkSecond_114
            · skip
              refine lv_lload hx hb dX0_walkSecond_90 (lv_at hl 0 rfl) ?_
              refine lv_iload hx hb dX0_walkSecond_92 (lv_at hl 1 rfl) ?_
              refine lv_lload_n hx hb dX0_walkSecond_94 rfl (lv_at hl 4 rfl) ?_
              refine cs_l (va_runS (As := [.long z_3, .int z_2, .long a1]) (rest := []) ⟨hx, hb, hml, hown, hts⟩ (ctx_result l H.size z_3 z_2 a1) (va_cwS 3 hts gX0_walkSecond_X0_result rfl rfl rfl (by decide +kernel) ⟨Nat.le_of_ble_eq_true rfl, Nat.le_of_ble_eq_true rfl⟩) ⟨fun a U g mk q => q, fun U hU hW => ⟨rfl, congrArg Array.size hU⟩⟩ rfl rfl hl.1 rfl (lv_room (Nat.le_of_ble_eq_true rfl)) dX0_walkSecond_95 ⟨Nat.zero_le _, Nat.zero_le _⟩) hA hP hS (fun H locs hP hS => ?_)
              exact W.lret (v := (fx_result z_3 z_2 a1)) hx hb hr (fun t ht hW => ⟨⟨_, ((fx_result z_3 z_2 a1), v_refusedAddress, v_refusedEntry), rfl, ⟨rfl, by subst ez_3; subst ez_2; subst ez_1; rw [fx_walkSecond, if_neg c_37, if_pos c_42, if_neg c_62, if_neg c_75, if_neg c_87] <;> rfl⟩, by rw [ht]; exact hP, va_K.moved hW.alike hK, hD⟩, hS.F ht⟩) hS.2.2 dX0_walkSecond_98
        · skip
          refine lv_lload hx hb dX0_walkSecond_65 (lv_at hl 0 rfl) ?_
          exact W.lret (v := z_3) hx hb hr (fun t ht hW => ⟨⟨_, (z_3, v_refusedAddress, v_refusedEntry), rfl, ⟨rfl, by subst ez_3; subst ez_2; subst ez_1; rw [fx_walkSecond, if_neg c_37, if_pos c_42, if_pos c_62] <;> rfl⟩, by rw [ht]; exact hP, va_K.moved hW.alike hK, hD⟩, hS.F ht⟩) hS.2.2 dX0_walkSecond_67
  · skip
    refine lv_if_ne (tgt := 30) hx hb dX0_walkSecond_23 (by decide) (fun c_23 => ?_) (fun c_23 => ?_)
    · skip
      refine lv_iconst (v := 0) hx hb dX0_walkSecond_30 (by decide) ?_
      exact W.eq (by rw [if_neg c_23] <;> rfl) (J31_23 _ _ hP hS)
    · skip
      refine lv_iconst (v := 1) hx hb dX0_walkSecond_26 (by decide) ?_
      refine lv_goto (tgt := 31) hx hb dX0_walkSecond_27 (by decide) ?_
      exact W.eq (by rw [if_pos c_23] <;> rfl) (J31_23 _ _ hP hS)
def fx_throughSecond (v_hgatp : Int32) (v_rights : Int32) (v_refusedAddress : Int64) (v_refusedEntry : Int32) (m_words : Nat → Int32) (a0 : Int32) (a1 : Int32) (a2 : Int64) (a3 : Int32) : Int64 × Int64 × Int32 := if ((if a2 < 0 then 0 else if ((fx_isVirtual a0)) = 0 then 0 else if 0 ≤ v_hgatp then 0 else 1 : Int32)) = 0 then (a2, v_refusedAddress, v_refusedEntry) else ((fx_walkSecond v_hgatp v_rights v_refusedAddress v_refusedEntry m_words a1 a2 a3).1, (fx_walkSecond v_hgatp v_rights v_refusedAddress v_refusedEntry m_words a1 a2 a3).2.1, (fx_walkSecond v_hgatp v_rights v_refusedAddress v_refusedEntry m_words a1 a2 a3).2.2)
set_option maxHeartbeats 4000000 in
set_option maxRecDepth 100000 in
theorem ctx_throughSecond (l : Launch) (dC : Nat → ClassId) (dI : Nat → Nat → Nat) (h0 : Nat) (q_words : Nat) (k_words : ClassId) (sz : Nat) (v_atp : Int32) (v_vsAtp : Int32) (v_hgatp : Int32) (v_rights : Int32) (v_latestPlace : Int32) (v_latestSecond : Int32) (v_latestEntry : Int32) (v_refusedAddress : Int64) (v_refusedEntry : Int32) (m_words : Nat → Int32) (a0 : Int32) (a1 : Int32) (a2 : Int64) (a3 : Int32) (ha3 : a3 = 0 ∨ a3 = 1) : MWl l yX0_throughSecond wsX0_throughSecond ({ frames := 3, cells := 0, slots := 0, locals := 75 }) (dC, dI) vwCl [(k_words, .int)] [.ref h0, .int a0, .int a1, .long a2, .int a3] sz (wx h0 q_words k_words v_atp v_vsAtp v_hgatp v_rights v_latestPlace v_latestSecond v_latestEntry v_refusedAddress v_refusedEntry m_words) (fun u : Int64 × Int64 × Int32 => (wx h0 q_words k_words v_atp v_vsAtp v_hgatp v_rights v_latestPlace v_latestSecond v_latestEntry u.2.1 u.2.2 m_words)) (fun u : Int64 × Int64 × Int32 => u.1) (fx_throughSecond v_hgatp v_rights v_refusedAddress v_refusedEntry m_words a0 a1 a2 a3) := by
  refine Met.ofW (cc := cX0_throughSecond) (maxL := 7) (ret := (some .long)) (by decide) rfl ?_
  intro p e s m args below meth c s₁ B hml hv
  obtain ⟨rfl, hsz, hP, hK, hD0⟩ := hv
  have hx := B.exec
  have hb := B.bytes
  have hr := B.returns
  have hts := atoms_spec (ws := wsX0_throughSecond) B.pre
  have hown : s.vm.findClass RX0 = some m.cls := findClass_of_methodNamed B.named
  have hlocks := B.notSynchronized
  subst hsz
  have hwX : ∀ w ∈ u_ws RX0 TX0 10, w ∈ wsX0_throughSecond := by decide +kernel
  have hD := hD0.self (sz := s.heap.size)
  generalize hAe : va_A (wx h0 q_words k_words v_atp v_vsAtp v_hgatp v_rights v_latestPlace v_latestSecond v_latestEntry v_refusedAddress v_refusedEntry m_words) s.heap.size = A at hD ⊢
  have hA : ∀ q : Nat, s.heap.size ≤ q → A q := fun q h => by rw [← hAe]; exact Or.inr h
  have hS : va_S A s.heap s.heap [] := va_S.rf
  have hP : va_P (dC, dI) vwCl (wx h0 q_words k_words v_atp v_vsAtp v_hgatp v_rights v_latestPlace v_latestSecond v_latestEntry v_refusedAddress v_refusedEntry m_words) s.heap := hP
  have hl := lv_entry ([.ref h0, .int a0, .int a1, .long a2, .int a3]) (n := 7) (Nat.le_of_ble_eq_true rfl)
  rw [lg_entry_eq]
  generalize (lg_sl ([.ref h0, .int a0, .int a1, .long a2, .int a3]) ++ List.replicate (7 - (lg_sl ([.ref h0, .int a0, .int a1, .long a2, .int a3])).length) Slot.unset).toArray = ls at hl ⊢
  have hl : lv_has ls 7 [(0, .ref h0), (1, .int a0), (2, .int a1), (3, .long a2), (5, .int a3)] := hl
  refine lv_lload_n hx hb dX0_throughSecond_0 rfl (lv_at hl 3 rfl) ?_
  refine lv_lconst (v := 0) hx hb dX0_throughSecond_1 (by decide) ?_
  refine lj_i (j := 25) (z0 := if a2 < 0 then 0 else if ((fx_isVirtual a0)) = 0 then 0 else if 0 ≤ v_hgatp then 0 else 1) (rest := []) hP hS (fun H locs hP hS z_1 ez_1 => ?_) (fun J25_3 => ?_)
  · skip
    have oz_1 : z_1 = 0 ∨ z_1 = 1 := by rw [ez_1]; exact ite01 (Or.inl rfl) (ite01 (Or.inl rfl) (ite01 (Or.inl rfl) (Or.inr rfl)))
    refine lv_istore (lv' := [(6, .int z_1), (0, .ref h0), (1, .int a0), (2, .int a1), (3, .long a2), (5, .int a3)]) hx hb dX0_throughSecond_25 hl (by decide) rfl (fun ls hl => ?_)
    refine lv_iload hx hb dX0_throughSecond_27 (lv_at hl 0 rfl) ?_
    refine lv_if_eq (tgt := 43) hx hb dX0_throughSecond_29 (by decide) (fun c_29 => ?_) (fun c_29 => ?_)
    · skip
      refine lv_lload_n hx hb dX0_throughSecond_43 rfl (lv_at hl 4 rfl) ?_
      exact W.lret (v := a2) hx hb hr (fun t ht hW => ⟨⟨_, (a2, v_refusedAddress, v_refusedEntry), rfl, ⟨rfl, by subst ez_1; rw [fx_throughSecond, if_pos c_29] <;> rfl⟩, by rw [ht]; exact hP, va_K.moved hW.alike hK, hD⟩, hS.F ht⟩) hS.2.2 dX0_throughSecond_44
    · skip
      refine lv_aload_n hx hb dX0_throughSecond_32 rfl (lv_at hl 1 rfl) ?_
      refine lv_iload_n hx hb dX0_throughSecond_33 rfl (lv_at hl 3 rfl) ?_
      refine lv_lload_n hx hb dX0_throughSecond_34 rfl (lv_at hl 4 rfl) ?_
      refine lv_iload hx hb dX0_throughSecond_35 (lv_at hl 5 rfl) ?_
      refine cw_l (va_runV (As := [.int a1, .long a2, .int a3]) (rest := []) ⟨hx, hb, hml, hown, hts⟩ (ctx_walkSecond l dC dI h0 q_words k_words H.size v_atp v_vsAtp v_hgatp v_rights v_latestPlace v_latestSecond v_latestEntry v_refusedAddress v_refusedEntry m_words a1 a2 a3 ha3) (cwV 3 hts gX0_throughSecond_X0_walkSecond rfl rfl rfl (by decide +kernel) ⟨Nat.le_of_ble_eq_true rfl, Nat.le_of_ble_eq_true rfl⟩) ⟨fun a U g mk q => ⟨q.1, q.2.1, q.2.2.1, va_K.moved (u := U) (U := U.calling g mk a) (Vm.Alike.refl U.vm) q.2.2.2.1, q.2.2.2.2⟩, va_recv hK hP (ci := 0) (q0 := 0) rfl rfl, fun U hU hW => ⟨rfl, by rw [hU], by rw [hU]; exact hP, va_K.moved hW.alike hK, hD.weaken (fun _ _ _ _ => trivial)⟩⟩ rfl rfl hl.1 rfl (lv_room (Nat.le_of_ble_eq_true rfl)) dX0_throughSecond_37 ⟨Nat.zero_le _, Nat.zero_le _⟩) hA hD hP hS (fun o_2 H locs eo_2 hP hD hS => ?_)
      have hP : va_P (dC, dI) vwCl (wx h0 q_words k_words v_atp v_vsAtp v_hgatp v_rights v_latestPlace v_latestSecond v_latestEntry o_2.2.1 o_2.2.2 m_words) H := hP
      have hD : va_D A (wx h0 q_words k_words v_atp v_vsAtp v_hgatp v_rights v_latestPlace v_latestSecond v_latestEntry o_2.2.1 o_2.2.2 m_words) := hD
      refine lv_goto (tgt := 44) hx hb dX0_throughSecond_40 (by decide) ?_
      exact W.lret (v := o_2.1) hx hb hr (fun t ht hW => ⟨⟨_, (o_2.1, o_2.2.1, o_2.2.2), rfl, ⟨rfl, by subst eo_2; subst ez_1; rw [fx_throughSecond, if_neg c_29] <;> rfl⟩, by rw [ht]; exact hP, va_K.moved hW.alike hK, hD⟩, hS.F ht⟩) hS.2.2 dX0_throughSecond_44
  · skip
    refine lq_lt (tgt := 24) hx hb dX0_throughSecond_2 dX0_throughSecond_3 (by decide) (fun c_3 => ?_) (fun c_3 => ?_)
    · skip
      refine lv_iconst (v := 0) hx hb dX0_throughSecond_24 (by decide) ?_
      exact W.eq (by rw [if_pos c_3] <;> rfl) (J25_3 _ _ hP hS)
    · skip
      refine lv_iload_n hx hb dX0_throughSecond_6 rfl (lv_at hl 1 rfl) ?_
      refine cs_i (va_runS (As := [.int a0]) (rest := []) ⟨hx, hb, hml, hown, hts⟩ (ctx_isVirtual l s.heap.size a0) (va_cwS 1 hts gX0_throughSecond_X0_isVirtual rfl rfl rfl (by decide +kernel) ⟨Nat.le_of_ble_eq_true rfl, Nat.le_of_ble_eq_true rfl⟩) ⟨fun a U g mk q => q, fun U hU hW => ⟨rfl, congrArg Array.size hU⟩⟩ rfl rfl hl.1 rfl (lv_room (Nat.le_of_ble_eq_true rfl)) dX0_throughSecond_7 ⟨Nat.zero_le _, Nat.zero_le _⟩) hA hP hS (fun H locs hP hS => ?_)
      refine lv_if_eq (tgt := 24) hx hb dX0_throughSecond_10 (by decide) (fun c_10 => ?_) (fun c_10 => ?_)
      · skip
        refine lv_iconst (v := 0) hx hb dX0_throughSecond_24 (by decide) ?_
        exact W.eq (by rw [if_neg c_3, if_pos c_10] <;> rfl) (J25_3 _ _ hP hS)
      · skip
        refine lv_aload_n hx hb dX0_throughSecond_13 rfl (lv_at hl 0 rfl) ?_
        refine va_get (D := (dC, dI)) (ci := 0) (v := .int v_hgatp) (C := RX0) (T := TX0) (N := 10) hx hb hts hwX hown hK hP 0 rfl rfl 3 (by decide) (hts (.fieldLink RX0 30 "StageWalker" "hgatp" "I") (by decide +kernel)) (fun _ h9 => h9) rfl dX0_throughSecond_14 ?_
        refine lv_if_ge (tgt := 24) hx hb dX0_throughSecond_17 (by decide) (fun c_17 => ?_) (fun c_17 => ?_)
        · skip
          refine lv_iconst (v := 0) hx hb dX0_throughSecond_24 (by decide) ?_
          exact W.eq (by rw [if_neg c_3, if_neg c_10, if_pos c_17] <;> rfl) (J25_3 _ _ hP hS)
        · skip
          refine lv_iconst (v := 1) hx hb dX0_throughSecond_20 (by decide) ?_
          refine lv_goto (tgt := 25) hx hb dX0_throughSecond_21 (by decide) ?_
          exact W.eq (by rw [if_neg c_3, if_neg c_10, if_neg c_17] <;> rfl) (J25_3 _ _ hP hS)
end
section
/-! StageWalker.walkFirst, lead -/
def fx_walkFirst (v_hgatp : Int32) (v_rights : Int32) (v_refusedAddress : Int64) (v_refusedEntry : Int32) (m_words : Nat → Int32) (a0 : Int32) (a1 : Int32) (a2 : Int64) (a3 : Int32) : Int64 × Int64 × Int32 := if ((fx_entryAt m_words a1 ((fx_throughSecond v_hgatp v_rights v_refusedAddress v_refusedEntry m_words a0 a1 ((fx_upperEntry (a3 &&& 4194303) a2)) 1).1))) < 0 then ((fx_entryAt m_words a1 ((fx_throughSecond v_hgatp v_rights v_refusedAddress v_refusedEntry m_words a0 a1 ((fx_upperEntry (a3 &&& 4194303) a2)) 1).1)), (fx_throughSecond v_hgatp v_rights v_refusedAddress v_refusedEntry m_words a0 a1 ((fx_upperEntry (a3 &&& 4194303) a2)) 1).2.1, (fx_throughSecond v_hgatp v_rights v_refusedAddress v_refusedEntry m_words a0 a1 ((fx_upperEntry (a3 &&& 4194303) a2)) 1).2.2) else if ((if ((fx_isTable ((fx_entryAt m_words a1 ((fx_throughSecond v_hgatp v_rights v_refusedAddress v_refusedEntry m_words a0 a1 ((fx_upperEntry (a3 &&& 4194303) a2)) 1).1))))) = 0 then 1 else 0 : Int32)) = 0 then if ((fx_entryAt m_words a1 ((fx_throughSecond v_hgatp v_rights ((fx_throughSecond v_hgatp v_rights v_refusedAddress v_refusedEntry m_words a0 a1 ((fx_upperEntry (a3 &&& 4194303) a2)) 1).2.1) ((fx_throughSecond v_hgatp v_rights v_refusedAddress v_refusedEntry m_words a0 a1 ((fx_upperEntry (a3 &&& 4194303) a2)) 1).2.2) m_words a0 a1 ((fx_lowerEntry ((fx_entryAt m_words a1 ((fx_throughSecond v_hgatp v_rights v_refusedAddress v_refusedEntry m_words a0 a1 ((fx_upperEntry (a3 &&& 4194303) a2)) 1).1))) a2)) 1).1))) < 0 then ((fx_entryAt m_words a1 ((fx_throughSecond v_hgatp v_rights ((fx_throughSecond v_hgatp v_rights v_refusedAddress v_refusedEntry m_words a0 a1 ((fx_upperEntry (a3 &&& 4194303) a2)) 1).2.1) ((fx_throughSecond v_hgatp v_rights v_refusedAddress v_refusedEntry m_words a0 a1 ((fx_upperEntry (a3 &&& 4194303) a2)) 1).2.2) m_words a0 a1 ((fx_lowerEntry ((fx_entryAt m_words a1 ((fx_throughSecond v_hgatp v_rights v_refusedAddress v_refusedEntry m_words a0 a1 ((fx_upperEntry (a3 &&& 4194303) a2)) 1).1))) a2)) 1).1)), (fx_throughSecond v_hgatp v_rights ((fx_throughSecond v_hgatp v_rights v_refusedAddress v_refusedEntry m_words a0 a1 ((fx_upperEntry (a3 &&& 4194303) a2)) 1).2.1) ((fx_throughSecond v_hgatp v_rights v_refusedAddress v_refusedEntry m_words a0 a1 ((fx_upperEntry (a3 &&& 4194303) a2)) 1).2.2) m_words a0 a1 ((fx_lowerEntry ((fx_entryAt m_words a1 ((fx_throughSecond v_hgatp v_rights v_refusedAddress v_refusedEntry m_words a0 a1 ((fx_upperEntry (a3 &&& 4194303) a2)) 1).1))) a2)) 1).2.1, (fx_throughSecond v_hgatp v_rights ((fx_throughSecond v_hgatp v_rights v_refusedAddress v_refusedEntry m_words a0 a1 ((fx_upperEntry (a3 &&& 4194303) a2)) 1).2.1) ((fx_throughSecond v_hgatp v_rights v_refusedAddress v_refusedEntry m_words a0 a1 ((fx_upperEntry (a3 &&& 4194303) a2)) 1).2.2) m_words a0 a1 ((fx_lowerEntry ((fx_entryAt m_words a1 ((fx_throughSecond v_hgatp v_rights v_refusedAddress v_refusedEntry m_words a0 a1 ((fx_upperEntry (a3 &&& 4194303) a2)) 1).1))) a2)) 1).2.2) else if ((if ((fx_isGoodLeaf ((fx_entryAt m_words a1 ((fx_throughSecond v_hgatp v_rights ((fx_throughSecond v_hgatp v_rights v_refusedAddress v_refusedEntry m_words a0 a1 ((fx_upperEntry (a3 &&& 4194303) a2)) 1).2.1) ((fx_throughSecond v_hgatp v_rights v_refusedAddress v_refusedEntry m_words a0 a1 ((fx_upperEntry (a3 &&& 4194303) a2)) 1).2.2) m_words a0 a1 ((fx_lowerEntry ((fx_entryAt m_words a1 ((fx_throughSecond v_hgatp v_rights v_refusedAddress v_refusedEntry m_words a0 a1 ((fx_upperEntry (a3 &&& 4194303) a2)) 1).1))) a2)) 1).1))) ((if ((fx_isTable ((fx_entryAt m_words a1 ((fx_throughSecond v_hgatp v_rights v_refusedAddress v_refusedEntry m_words a0 a1 ((fx_upperEntry (a3 &&& 4194303) a2)) 1).1))))) = 0 then 1 else 0 : Int32)))) = 0 then 0 else if ((fx_firstAllows v_rights a0 a1 ((fx_entryAt m_words a1 ((fx_throughSecond v_hgatp v_rights ((fx_throughSecond v_hgatp v_rights v_refusedAddress v_refusedEntry m_words a0 a1 ((fx_upperEntry (a3 &&& 4194303) a2)) 1).2.1) ((fx_throughSecond v_hgatp v_rights v_refusedAddress v_refusedEntry m_words a0 a1 ((fx_upperEntry (a3 &&& 4194303) a2)) 1).2.2) m_words a0 a1 ((fx_lowerEntry ((fx_entryAt m_words a1 ((fx_throughSecond v_hgatp v_rights v_refusedAddress v_refusedEntry m_words a0 a1 ((fx_upperEntry (a3 &&& 4194303) a2)) 1).1))) a2)) 1).1))))) = 0 then 0 else 1 : Int32)) = 0 then ((fx_firstFault a1), (fx_throughSecond v_hgatp v_rights ((fx_throughSecond v_hgatp v_rights v_refusedAddress v_refusedEntry m_words a0 a1 ((fx_upperEntry (a3 &&& 4194303) a2)) 1).2.1) ((fx_throughSecond v_hgatp v_rights v_refusedAddress v_refusedEntry m_words a0 a1 ((fx_upperEntry (a3 &&& 4194303) a2)) 1).2.2) m_words a0 a1 ((fx_lowerEntry ((fx_entryAt m_words a1 ((fx_throughSecond v_hgatp v_rights v_refusedAddress v_refusedEntry m_words a0 a1 ((fx_upperEntry (a3 &&& 4194303) a2)) 1).1))) a2)) 1).2.1, (fx_throughSecond v_hgatp v_rights ((fx_throughSecond v_hgatp v_rights v_refusedAddress v_refusedEntry m_words a0 a1 ((fx_upperEntry (a3 &&& 4194303) a2)) 1).2.1) ((fx_throughSecond v_hgatp v_rights v_refusedAddress v_refusedEntry m_words a0 a1 ((fx_upperEntry (a3 &&& 4194303) a2)) 1).2.2) m_words a0 a1 ((fx_lowerEntry ((fx_entryAt m_words a1 ((fx_throughSecond v_hgatp v_rights v_refusedAddress v_refusedEntry m_words a0 a1 ((fx_upperEntry (a3 &&& 4194303) a2)) 1).1))) a2)) 1).2.2) else ((fx_result ((fx_entryAt m_words a1 ((fx_throughSecond v_hgatp v_rights ((fx_throughSecond v_hgatp v_rights v_refusedAddress v_refusedEntry m_words a0 a1 ((fx_upperEntry (a3 &&& 4194303) a2)) 1).2.1) ((fx_throughSecond v_hgatp v_rights v_refusedAddress v_refusedEntry m_words a0 a1 ((fx_upperEntry (a3 &&& 4194303) a2)) 1).2.2) m_words a0 a1 ((fx_lowerEntry ((fx_entryAt m_words a1 ((fx_throughSecond v_hgatp v_rights v_refusedAddress v_refusedEntry m_words a0 a1 ((fx_upperEntry (a3 &&& 4194303) a2)) 1).1))) a2)) 1).1))) ((if ((fx_isTable ((fx_entryAt m_words a1 ((fx_throughSecond v_hgatp v_rights v_refusedAddress v_refusedEntry m_words a0 a1 ((fx_upperEntry (a3 &&& 4194303) a2)) 1).1))))) = 0 then 1 else 0 : Int32)) a2), (fx_throughSecond v_hgatp v_rights ((fx_throughSecond v_hgatp v_rights v_refusedAddress v_refusedEntry m_words a0 a1 ((fx_upperEntry (a3 &&& 4194303) a2)) 1).2.1) ((fx_throughSecond v_hgatp v_rights v_refusedAddress v_refusedEntry m_words a0 a1 ((fx_upperEntry (a3 &&& 4194303) a2)) 1).2.2) m_words a0 a1 ((fx_lowerEntry ((fx_entryAt m_words a1 ((fx_throughSecond v_hgatp v_rights v_refusedAddress v_refusedEntry m_words a0 a1 ((fx_upperEntry (a3 &&& 4194303) a2)) 1).1))) a2)) 1).2.1, (fx_throughSecond v_hgatp v_rights ((fx_throughSecond v_hgatp v_rights v_refusedAddress v_refusedEntry m_words a0 a1 ((fx_upperEntry (a3 &&& 4194303) a2)) 1).2.1) ((fx_throughSecond v_hgatp v_rights v_refusedAddress v_refusedEntry m_words a0 a1 ((fx_upperEntry (a3 &&& 4194303) a2)) 1).2.2) m_words a0 a1 ((fx_lowerEntry ((fx_entryAt m_words a1 ((fx_throughSecond v_hgatp v_rights v_refusedAddress v_refusedEntry m_words a0 a1 ((fx_upperEntry (a3 &&& 4194303) a2)) 1).1))) a2)) 1).2.2) else if ((if ((fx_isGoodLeaf ((fx_entryAt m_words a1 ((fx_throughSecond v_hgatp v_rights v_refusedAddress v_refusedEntry m_words a0 a1 ((fx_upperEntry (a3 &&& 4194303) a2)) 1).1))) ((if ((fx_isTable ((fx_entryAt m_words a1 ((fx_throughSecond v_hgatp v_rights v_refusedAddress v_refusedEntry m_words a0 a1 ((fx_upperEntry (a3 &&& 4194303) a2)) 1).1))))) = 0 then 1 else 0 : Int32)))) = 0 then 0 else if ((fx_firstAllows v_rights a0 a1 ((fx_entryAt m_words a1 ((fx_throughSecond v_hgatp v_rights v_refusedAddress v_refusedEntry m_words a0 a1 ((fx_upperEntry (a3 &&& 4194303) a2)) 1).1))))) = 0 then 0 else 1 : Int32)) = 0 then ((fx_firstFault a1), (fx_throughSecond v_hgatp v_rights v_refusedAddress v_refusedEntry m_words a0 a1 ((fx_upperEntry (a3 &&& 4194303) a2)) 1).2.1, (fx_throughSecond v_hgatp v_rights v_refusedAddress v_refusedEntry m_words a0 a1 ((fx_upperEntry (a3 &&& 4194303) a2)) 1).2.2) else ((fx_result ((fx_entryAt m_words a1 ((fx_throughSecond v_hgatp v_rights v_refusedAddress v_refusedEntry m_words a0 a1 ((fx_upperEntry (a3 &&& 4194303) a2)) 1).1))) ((if ((fx_isTable ((fx_entryAt m_words a1 ((fx_throughSecond v_hgatp v_rights v_refusedAddress v_refusedEntry m_words a0 a1 ((fx_upperEntry (a3 &&& 4194303) a2)) 1).1))))) = 0 then 1 else 0 : Int32)) a2), (fx_throughSecond v_hgatp v_rights v_refusedAddress v_refusedEntry m_words a0 a1 ((fx_upperEntry (a3 &&& 4194303) a2)) 1).2.1, (fx_throughSecond v_hgatp v_rights v_refusedAddress v_refusedEntry m_words a0 a1 ((fx_upperEntry (a3 &&& 4194303) a2)) 1).2.2)
set_option maxHeartbeats 4000000 in
set_option maxRecDepth 100000 in
theorem ctx_walkFirst (l : Launch) (dC : Nat → ClassId) (dI : Nat → Nat → Nat) (h0 : Nat) (q_words : Nat) (k_words : ClassId) (sz : Nat) (v_atp : Int32) (v_vsAtp : Int32) (v_hgatp : Int32) (v_rights : Int32) (v_latestPlace : Int32) (v_latestSecond : Int32) (v_latestEntry : Int32) (v_refusedAddress : Int64) (v_refusedEntry : Int32) (m_words : Nat → Int32) (a0 : Int32) (a1 : Int32) (a2 : Int64) (a3 : Int32) : MWl l yX0_walkFirst wsX0_walkFirst ({ frames := 4, cells := 0, slots := 0, locals := 101 }) (dC, dI) vwCl [(k_words, .int)] [.ref h0, .int a0, .int a1, .long a2, .int a3] sz (wx h0 q_words k_words v_atp v_vsAtp v_hgatp v_rights v_latestPlace v_latestSecond v_latestEntry v_refusedAddress v_refusedEntry m_words) (fun u : Int64 × Int64 × Int32 => (wx h0 q_words k_words v_atp v_vsAtp v_hgatp v_rights v_latestPlace v_latestSecond v_latestEntry u.2.1 u.2.2 m_words)) (fun u : Int64 × Int64 × Int32 => u.1) (fx_walkFirst v_hgatp v_rights v_refusedAddress v_refusedEntry m_words a0 a1 a2 a3) := by
  refine Met.ofW (cc := cX0_walkFirst) (maxL := 12) (ret := (some .long)) (by decide) rfl ?_
  intro p e s m args below meth c s₁ B hml hv
  obtain ⟨rfl, hsz, hP, hK, hD0⟩ := hv
  have hx := B.exec
  have hb := B.bytes
  have hr := B.returns
  have hts := atoms_spec (ws := wsX0_walkFirst) B.pre
  have hown : s.vm.findClass RX0 = some m.cls := findClass_of_methodNamed B.named
  have hlocks := B.notSynchronized
  subst hsz
  have hD := hD0.self (sz := s.heap.size)
  generalize hAe : va_A (wx h0 q_words k_words v_atp v_vsAtp v_hgatp v_rights v_latestPlace v_latestSecond v_latestEntry v_refusedAddress v_refusedEntry m_words) s.heap.size = A at hD ⊢
  have hA : ∀ q : Nat, s.heap.size ≤ q → A q := fun q h => by rw [← hAe]; exact Or.inr h
  have hS : va_S A s.heap s.heap [] := va_S.rf
  have hP : va_P (dC, dI) vwCl (wx h0 q_words k_words v_atp v_vsAtp v_hgatp v_rights v_latestPlace v_latestSecond v_latestEntry v_refusedAddress v_refusedEntry m_words) s.heap := hP
  have hl := lv_entry ([.ref h0, .int a0, .int a1, .long a2, .int a3]) (n := 12) (Nat.le_of_ble_eq_true rfl)
  rw [lg_entry_eq]
  generalize (lg_sl ([.ref h0, .int a0, .int a1, .long a2, .int a3]) ++ List.replicate (12 - (lg_sl ([.ref h0, .int a0, .int a1, .long a2, .int a3])).length) Slot.unset).toArray = ls at hl ⊢
  have hl : lv_has ls 12 [(0, .ref h0), (1, .int a0), (2, .int a1), (3, .long a2), (5, .int a3)] := hl
  refine lv_iload hx hb dX0_walkFirst_0 (lv_at hl 4 rfl) ?_
  refine lv_ldc hx hb hown (hts (.constant RX0 92 4194303) (by decide +kernel)) dX0_walkFirst_2 ?_
  refine lv_iand hx hb dX0_walkFirst_4 ?_
  refine lv_lload_n hx hb dX0_walkFirst_5 rfl (lv_at hl 3 rfl) ?_
  refine cs_l (va_runS (As := [.int (a3 &&& 4194303), .long a2]) (rest := []) ⟨hx, hb, hml, hown, hts⟩ (ctx_upperEntry l s.heap.size (a3 &&& 4194303) a2) (va_cwS 2 hts gX0_walkFirst_X0_upperEntry rfl rfl rfl (by decide +kernel) ⟨Nat.le_of_ble_eq_true rfl, Nat.le_of_ble_eq_true rfl⟩) ⟨fun a U g mk q => q, fun U hU hW => ⟨rfl, congrArg Array.size hU⟩⟩ rfl rfl hl.1 rfl (lv_room (Nat.le_of_ble_eq_true rfl)) dX0_walkFirst_6 ⟨Nat.zero_le _, Nat.zero_le _⟩) hA hP hS (fun H locs hP hS => ?_)
  refine lv_topl (fun z_1 ez_1 => ?_)
  refine lv_lstore (lv' := [(6, .long z_1), (0, .ref h0), (1, .int a0), (2, .int a1), (3, .long a2), (5, .int a3)]) hx hb dX0_walkFirst_9 hl (by decide) rfl (fun ls hl => ?_)
  refine lv_aload_n hx hb dX0_walkFirst_11 rfl (lv_at hl 1 rfl) ?_
  refine lv_iload_n hx hb dX0_walkFirst_12 rfl (lv_at hl 3 rfl) ?_
  refine lv_aload_n hx hb dX0_walkFirst_13 rfl (lv_at hl 1 rfl) ?_
  refine lv_iload_n hx hb dX0_walkFirst_14 rfl (lv_at hl 2 rfl) ?_
  refine lv_iload_n hx hb dX0_walkFirst_15 rfl (lv_at hl 3 rfl) ?_
  refine lv_lload hx hb dX0_walkFirst_16 (lv_at hl 0 rfl) ?_
  refine lv_iconst (v := 1) hx hb dX0_walkFirst_18 (by decide) ?_
  refine cw_l (va_runV (As := [.int a0, .int a1, .long z_1, .int 1]) (rest := [.int a1, .ref h0]) ⟨hx, hb, hml, hown, hts⟩ (ctx_throughSecond l dC dI h0 q_words k_words H.size v_atp v_vsAtp v_hgatp v_rights v_latestPlace v_latestSecond v_latestEntry v_refusedAddress v_refusedEntry m_words a0 a1 z_1 1 (Or.inr rfl)) (cwV 4 hts gX0_walkFirst_X0_throughSecond rfl rfl rfl (by decide +kernel) ⟨Nat.le_of_ble_eq_true rfl, Nat.le_of_ble_eq_true rfl⟩) ⟨fun a U g mk q => ⟨q.1, q.2.1, q.2.2.1, va_K.moved (u := U) (U := U.calling g mk a) (Vm.Alike.refl U.vm) q.2.2.2.1, q.2.2.2.2⟩, va_recv hK hP (ci := 0) (q0 := 0) rfl rfl, fun U hU hW => ⟨rfl, by rw [hU], by rw [hU]; exact hP, va_K.moved hW.alike hK, hD.weaken (fun _ _ _ _ => trivial)⟩⟩ rfl rfl hl.1 rfl (lv_room (Nat.le_of_ble_eq_true rfl)) dX0_walkFirst_19 ⟨Nat.zero_le _, Nat.zero_le _⟩) hA hD hP hS (fun o_2 H locs eo_2 hP hD hS => ?_)
  have hP : va_P (dC, dI) vwCl (wx h0 q_words k_words v_atp v_vsAtp v_hgatp v_rights v_latestPlace v_latestSecond v_latestEntry o_2.2.1 o_2.2.2 m_words) H := hP
  have hD : va_D A (wx h0 q_words k_words v_atp v_vsAtp v_hgatp v_rights v_latestPlace v_latestSecond v_latestEntry o_2.2.1 o_2.2.2 m_words) := hD
  refine cr_l (va_runV (As := [.int a1, .long o_2.1]) (rest := []) ⟨hx, hb, hml, hown, hts⟩ (ctx_entryAt l dC dI h0 q_words k_words H.size v_atp v_vsAtp v_hgatp v_rights v_latestPlace v_latestSecond v_latestEntry o_2.2.1 o_2.2.2 m_words a1 o_2.1) (cwV 2 hts gX0_walkFirst_X0_entryAt rfl rfl rfl (by decide +kernel) ⟨Nat.le_of_ble_eq_true rfl, Nat.le_of_ble_eq_true rfl⟩) ⟨fun a U g mk q => ⟨q.1, q.2.1, q.2.2.1, va_K.moved (u := U) (U := U.calling g mk a) (Vm.Alike.refl U.vm) q.2.2.2.1, q.2.2.2.2⟩, va_recv hK hP (ci := 0) (q0 := 0) rfl rfl, fun U hU hW => ⟨rfl, by rw [hU], by rw [hU]; exact hP, va_K.moved hW.alike hK, hD.weaken (fun _ _ _ _ => trivial)⟩⟩ rfl rfl hl.1 rfl (lv_room (Nat.le_of_ble_eq_true rfl)) dX0_walkFirst_22 ⟨Nat.zero_le _, Nat.zero_le _⟩) hA hD hP hS (fun H locs hP hS => ?_)
  refine lv_topl (fun z_3 ez_3 => ?_)
  refine lv_lstore (lv' := [(8, .long z_3), (6, .long z_1), (0, .ref h0), (1, .int a0), (2, .int a1), (3, .long a2), (5, .int a3)]) hx hb dX0_walkFirst_25 hl (by decide) rfl (fun ls hl => ?_)
  refine lv_lload hx hb dX0_walkFirst_27 (lv_at hl 0 rfl) ?_
  refine cs_i (va_runS (As := [.long z_3]) (rest := []) ⟨hx, hb, hml, hown, hts⟩ (ctx_isTable l H.size z_3) (va_cwS 1 hts gX0_walkFirst_X0_isTable rfl rfl rfl (by decide +kernel) ⟨Nat.le_of_ble_eq_true rfl, Nat.le_of_ble_eq_true rfl⟩) ⟨fun a U g mk q => q, fun U hU hW => ⟨rfl, congrArg Array.size hU⟩⟩ rfl rfl hl.1 rfl (lv_room (Nat.le_of_ble_eq_true rfl)) dX0_walkFirst_29 ⟨Nat.zero_le _, Nat.zero_le _⟩) hA hP hS (fun H locs hP hS => ?_)
  refine lj_i (j := 40) (z0 := if ((fx_isTable z_3)) = 0 then 1 else 0) (rest := []) hP hS (fun H locs hP hS z_4 ez_4 => ?_) (fun J40_32 => ?_)
  · skip
    have oz_4 : z_4 = 0 ∨ z_4 = 1 := by rw [ez_4]; exact ite01 (Or.inr rfl) (Or.inl rfl)
    refine lv_istore (lv' := [(10, .int z_4), (8, .long z_3), (6, .long z_1), (0, .ref h0), (1, .int a0), (2, .int a1), (3, .long a2), (5, .int a3)]) hx hb dX0_walkFirst_40 hl (by decide) rfl (fun ls hl => ?_)
    refine lv_lload hx hb dX0_walkFirst_42 (lv_at hl 1 rfl) ?_
    refine lv_lconst (v := 0) hx hb dX0_walkFirst_44 (by decide) ?_
    refine lq_lt (tgt := 78) hx hb dX0_walkFirst_45 dX0_walkFirst_46 (by decide) (fun c_46 => ?_) (fun c_46 => ?_)
    · skip
      refine lv_lload hx hb dX0_walkFirst_78 (lv_at hl 1 rfl) ?_
      refine lv_lconst (v := 0) hx hb dX0_walkFirst_80 (by decide) ?_
      refine lq_ge (tgt := 88) hx hb dX0_walkFirst_81 dX0_walkFirst_82 (by decide) (fun c_82 => ?_) (fun c_82 => ?_)
      · skip
        exact absurd c_46 c_82
      · skip
        refine lv_lload hx hb dX0_walkFirst_85 (lv_at hl 1 rfl) ?_
        exact W.lret (v := z_3) hx hb hr (fun t ht hW => ⟨⟨_, (z_3, o_2.2.1, o_2.2.2), rfl, ⟨rfl, by subst ez_4; subst ez_3; subst eo_2; subst ez_1; rw [fx_walkFirst, if_pos c_46] <;> rfl⟩, by rw [ht]; exact hP, va_K.moved hW.alike hK, hD⟩, hS.F ht⟩) hS.2.2 dX0_walkFirst_87
    · skip
      refine lv_iload hx hb dX0_walkFirst_49 (lv_at hl 0 rfl) ?_
      refine lv_if_ne (tgt := 78) hx hb dX0_walkFirst_51 (by decide) (fun c_51 => ?_) (fun c_51 => ?_)
      · skip
        refine lv_lload hx hb dX0_walkFirst_78 (lv_at hl 1 rfl) ?_
        refine lv_lconst (v := 0) hx hb dX0_walkFirst_80 (by decide) ?_
        refine lq_ge (tgt := 88) hx hb dX0_walkFirst_81 dX0_walkFirst_82 (by decide) (fun c_82 => ?_) (fun c_82 => ?_)
        · skip
          refine lv_lload hx hb dX0_walkFirst_88 (lv_at hl 1 rfl) ?_
          refine lv_iload hx hb dX0_walkFirst_90 (lv_at hl 0 rfl) ?_
          refine cs_i (va_runS (As := [.long z_3, .int z_4]) (rest := []) ⟨hx, hb, hml, hown, hts⟩ (ctx_isGoodLeaf l H.size z_3 z_4) (va_cwS 2 hts gX0_walkFirst_X0_isGoodLeaf rfl rfl rfl (by decide +kernel) ⟨Nat.le_of_ble_eq_true rfl, Nat.le_of_ble_eq_true rfl⟩) ⟨fun a U g mk q => q, fun U hU hW => ⟨rfl, congrArg Array.size hU⟩⟩ rfl rfl hl.1 rfl (lv_room (Nat.le_of_ble_eq_true rfl)) dX0_walkFirst_92 ⟨Nat.zero_le _, Nat.zero_le _⟩) hA hP hS (fun H locs hP hS => ?_)
          refine lj_i (j := 114) (z0 := if ((fx_isGoodLeaf z_3 z_4)) = 0 then 0 else if ((fx_firstAllows v_rights a0 a1 z_3)) = 0 then 0 else 1) (rest := []) hP hS (fun H locs hP hS z_5 ez_5 => ?_) (fun J114_95 => ?_)
          · skip
            have oz_5 : z_5 = 0 ∨ z_5 = 1 := by rw [ez_5]; exact ite01 (Or.inl rfl) (ite01 (Or.inl rfl) (Or.inr rfl))
            refine lv_istore (lv' := [(11, .int z_5), (10, .int z_4), (8, .long z_3), (6, .long z_1), (0, .ref h0), (1, .int a0), (2, .int a1), (3, .long a2), (5, .int a3)]) hx hb dX0_walkFirst_114 hl (by decide) rfl (fun ls hl => ?_)
            refine lv_iload hx hb dX0_walkFirst_116 (lv_at hl 0 rfl) ?_
            refine lv_if_eq (tgt := 132) hx hb dX0_walkFirst_118 (by decide) (fun c_118 => ?_) (fun c_118 => ?_)
            · skip
              refine lv_iload_n hx hb dX0_walkFirst_132 rfl (lv_at hl 6 rfl) ?_
              refine cs_l (va_runS (As := [.int a1]) (rest := []) ⟨hx, hb, hml, hown, hts⟩ (ctx_firstFault l H.size a1) (va_cwS 1 hts gX0_walkFirst_X0_firstFault rfl rfl rfl (by decide +kernel) ⟨Nat.le_of_ble_eq_true rfl, Nat.le_of_ble_eq_true rfl⟩) ⟨fun a U g mk q => q, fun U hU hW => ⟨rfl, congrArg Array.size hU⟩⟩ rfl rfl hl.1 rfl (lv_room (Nat.le_of_ble_eq_true rfl)) dX0_walkFirst_133 ⟨Nat.zero_le _, Nat.zero_le _⟩) hA hP hS (fun H locs hP hS => ?_)
              exact W.lret (v := (fx_firstFault a1)) hx hb hr (fun t ht hW => ⟨⟨_, ((fx_firstFault a1), o_2.2.1, o_2.2.2), rfl, ⟨rfl, by subst ez_5; subst ez_4; subst ez_3; subst eo_2; subst ez_1; rw [fx_walkFirst, if_neg c_46, if_neg c_51, if_pos c_118] <;> rfl⟩, by rw [ht]; exact hP, va_K.moved hW.alike hK, hD⟩, hS.F ht⟩) hS.2.2 dX0_walkFirst_136
            · skip
              refine lv_lload hx hb dX0_walkFirst_121 (lv_at hl 2 rfl) ?_
              refine lv_iload hx hb dX0_walkFirst_123 (lv_at hl 1 rfl) ?_
              refine lv_lload_n hx hb dX0_walkFirst_125 rfl (lv_at hl 7 rfl) ?_
              refine cs_l (va_runS (As := [.long z_3, .int z_4, .long a2]) (rest := []) ⟨hx, hb, hml, hown, hts⟩ (ctx_result l H.size z_3 z_4 a2) (va_cwS 3 hts gX0_walkFirst_X0_result rfl rfl rfl (by decide +kernel) ⟨Nat.le_of_ble_eq_true rfl, Nat.le_of_ble_eq_true rfl⟩) ⟨fun a U g mk q => q, fun U hU hW => ⟨rfl, congrArg Array.size hU⟩⟩ rfl rfl hl.1 rfl (lv_room (Nat.le_of_ble_eq_true rfl)) dX0_walkFirst_126 ⟨Nat.zero_le _, Nat.zero_le _⟩) hA hP hS (fun H locs hP hS => ?_)
              refine lv_goto (tgt := 136) hx hb dX0_walkFirst_129 (by decide) ?_
              exact W.lret (v := (fx_result z_3 z_4 a2)) hx hb hr (fun t ht hW => ⟨⟨_, ((fx_result z_3 z_4 a2), o_2.2.1, o_2.2.2), rfl, ⟨rfl, by subst ez_5; subst ez_4; subst ez_3; subst eo_2; subst ez_1; rw [fx_walkFirst, if_neg c_46, if_neg c_51, if_neg c_118] <;> rfl⟩, by rw [ht]; exact hP, va_K.moved hW.alike hK, hD⟩, hS.F ht⟩) hS.2.2 dX0_walkFirst_136
          · skip
            refine lv_if_eq (tgt := 113) hx hb dX0_walkFirst_95 (by decide) (fun c_95 => ?_) (fun c_95 => ?_)
            · skip
              refine lv_iconst (v := 0) hx hb dX0_walkFirst_113 (by decide) ?_
              exact W.eq (by rw [if_pos c_95] <;> rfl) (J114_95 _ _ hP hS)
            · skip
              refine lv_aload_n hx hb dX0_walkFirst_98 rfl (lv_at hl 3 rfl) ?_
              refine lv_iload_n hx hb dX0_walkFirst_99 rfl (lv_at hl 4 rfl) ?_
              refine lv_iload_n hx hb dX0_walkFirst_100 rfl (lv_at hl 5 rfl) ?_
              refine lv_lload hx hb dX0_walkFirst_101 (lv_at hl 1 rfl) ?_
              refine cr_i (va_runV (As := [.int a0, .int a1, .long z_3]) (rest := []) ⟨hx, hb, hml, hown, hts⟩ (ctx_firstAllows l dC dI h0 q_words k_words H.size v_atp v_vsAtp v_hgatp v_rights v_latestPlace v_latestSecond v_latestEntry o_2.2.1 o_2.2.2 m_words a0 a1 z_3) (cwV 3 hts gX0_walkFirst_X0_firstAllows rfl rfl rfl (by decide +kernel) ⟨Nat.le_of_ble_eq_true rfl, Nat.le_of_ble_eq_true rfl⟩) ⟨fun a U g mk q => ⟨q.1, q.2.1, q.2.2.1, va_K.moved (u := U) (U := U.calling g mk a) (Vm.Alike.refl U.vm) q.2.2.2.1, q.2.2.2.2⟩, va_recv hK hP (ci := 0) (q0 := 0) rfl rfl, fun U hU hW => ⟨rfl, by rw [hU], by rw [hU]; exact hP, va_K.moved hW.alike hK, hD.weaken (fun _ _ _ _ => trivial)⟩⟩ rfl rfl hl.1 rfl (lv_room (Nat.le_of_ble_eq_true rfl)) dX0_walkFirst_103 ⟨Nat.zero_le _, Nat.zero_le _⟩) hA hD hP hS (fun H locs hP hS => ?_)
              refine lv_if_eq (tgt := 113) hx hb dX0_walkFirst_106 (by decide) (fun c_106 => ?_) (fun c_106 => ?_)
              · skip
                refine lv_iconst (v := 0) hx hb dX0_walkFirst_113 (by decide) ?_
                exact W.eq (by rw [if_neg c_95, if_pos c_106] <;> rfl) (J114_95 _ _ hP hS)
              · skip
                refine lv_iconst (v := 1) hx hb dX0_walkFirst_109 (by decide) ?_
                refine lv_goto (tgt := 114) hx hb dX0_walkFirst_110 (by decide) ?_
                exact W.eq (by rw [if_neg c_95, if_neg c_106] <;> rfl) (J114_95 _ _ hP hS)
        · skip
          exact absurd c_82 c_46
      · skip
        refine lv_lload hx hb dX0_walkFirst_54 (lv_at hl 1 rfl) ?_
        refine lv_lload_n hx hb dX0_walkFirst_56 rfl (lv_at hl 6 rfl) ?_
        refine cs_l (va_runS (As := [.long z_3, .long a2]) (rest := []) ⟨hx, hb, hml, hown, hts⟩ (ctx_lowerEntry l H.size z_3 a2) (va_cwS 2 hts gX0_walkFirst_X0_lowerEntry rfl rfl rfl (by decide +kernel) ⟨Nat.le_of_ble_eq_true rfl, Nat.le_of_ble_eq_true rfl⟩) ⟨fun a U g mk q => q, fun U hU hW => ⟨rfl, congrArg Array.size hU⟩⟩ rfl rfl hl.1 rfl (lv_room (Nat.le_of_ble_eq_true rfl)) dX0_walkFirst_57 ⟨Nat.zero_le _, Nat.zero_le _⟩) hA hP hS (fun H locs hP hS => ?_)
        refine lv_topl (fun z_6 ez_6 => ?_)
        refine lv_lstore (lv' := [(6, .long z_6), (10, .int z_4), (8, .long z_3), (0, .ref h0), (1, .int a0), (2, .int a1), (3, .long a2), (5, .int a3)]) hx hb dX0_walkFirst_60 hl (by decide) rfl (fun ls hl => ?_)
        refine lv_aload_n hx hb dX0_walkFirst_62 rfl (lv_at hl 3 rfl) ?_
        refine lv_iload_n hx hb dX0_walkFirst_63 rfl (lv_at hl 5 rfl) ?_
        refine lv_aload_n hx hb dX0_walkFirst_64 rfl (lv_at hl 3 rfl) ?_
        refine lv_iload_n hx hb dX0_walkFirst_65 rfl (lv_at hl 4 rfl) ?_
        refine lv_iload_n hx hb dX0_walkFirst_66 rfl (lv_at hl 5 rfl) ?_
        refine lv_lload hx hb dX0_walkFirst_67 (lv_at hl 0 rfl) ?_
        refine lv_iconst (v := 1) hx hb dX0_walkFirst_69 (by decide) ?_
        refine cw_l (va_runV (As := [.int a0, .int a1, .long z_6, .int 1]) (rest := [.int a1, .ref h0]) ⟨hx, hb, hml, hown, hts⟩ (ctx_throughSecond l dC dI h0 q_words k_words H.size v_atp v_vsAtp v_hgatp v_rights v_latestPlace v_latestSecond v_latestEntry o_2.2.1 o_2.2.2 m_words a0 a1 z_6 1 (Or.inr rfl)) (cwV 4 hts gX0_walkFirst_X0_throughSecond rfl rfl rfl (by decide +kernel) ⟨Nat.le_of_ble_eq_true rfl, Nat.le_of_ble_eq_true rfl⟩) ⟨fun a U g mk q => ⟨q.1, q.2.1, q.2.2.1, va_K.moved (u := U) (U := U.calling g mk a) (Vm.Alike.refl U.vm) q.2.2.2.1, q.2.2.2.2⟩, va_recv hK hP (ci := 0) (q0 := 0) rfl rfl, fun U hU hW => ⟨rfl, by rw [hU], by rw [hU]; exact hP, va_K.moved hW.alike hK, hD.weaken (fun _ _ _ _ => trivial)⟩⟩ rfl rfl hl.1 rfl (lv_room (Nat.le_of_ble_eq_true rfl)) dX0_walkFirst_70 ⟨Nat.zero_le _, Nat.zero_le _⟩) hA hD hP hS (fun o_7 H locs eo_7 hP hD hS => ?_)
        have hP : va_P (dC, dI) vwCl (wx h0 q_words k_words v_atp v_vsAtp v_hgatp v_rights v_latestPlace v_latestSecond v_latestEntry o_7.2.1 o_7.2.2 m_words) H := hP
        have hD : va_D A (wx h0 q_words k_words v_atp v_vsAtp v_hgatp v_rights v_latestPlace v_latestSecond v_latestEntry o_7.2.1 o_7.2.2 m_words) := hD
        refine cr_l (va_runV (As := [.int a1, .long o_7.1]) (rest := []) ⟨hx, hb, hml, hown, hts⟩ (ctx_entryAt l dC dI h0 q_words k_words H.size v_atp v_vsAtp v_hgatp v_rights v_latestPlace v_latestSecond v_latestEntry o_7.2.1 o_7.2.2 m_words a1 o_7.1) (cwV 2 hts gX0_walkFirst_X0_entryAt rfl rfl rfl (by decide +kernel) ⟨Nat.le_of_ble_eq_true rfl, Nat.le_of_ble_eq_true rfl⟩) ⟨fun a U g mk q => ⟨q.1, q.2.1, q.2.2.1, va_K.moved (u := U) (U := U.calling g mk a) (Vm.Alike.refl U.vm) q.2.2.2.1, q.2.2.2.2⟩, va_recv hK hP (ci := 0) (q0 := 0) rfl rfl, fun U hU hW => ⟨rfl, by rw [hU], by rw [hU]; exact hP, va_K.moved hW.alike hK, hD.weaken (fun _ _ _ _ => trivial)⟩⟩ rfl rfl hl.1 rfl (lv_room (Nat.le_of_ble_eq_true rfl)) dX0_walkFirst_73 ⟨Nat.zero_le _, Nat.zero_le _⟩) hA hD hP hS (fun H locs hP hS => ?_)
        refine lv_topl (fun z_8 ez_8 => ?_)
        refine lv_lstore (lv' := [(8, .long z_8), (6, .long z_6), (10, .int z_4), (0, .ref h0), (1, .int a0), (2, .int a1), (3, .long a2), (5, .int a3)]) hx hb dX0_walkFirst_76 hl (by decide) rfl (fun ls hl => ?_)
        refine lv_lload hx hb dX0_walkFirst_78 (lv_at hl 0 rfl) ?_
        refine lv_lconst (v := 0) hx hb dX0_walkFirst_80 (by decide) ?_
        refine lq_ge (tgt := 88) hx hb dX0_walkFirst_81 dX0_walkFirst_82 (by decide) (fun c_82 => ?_) (fun c_82 => ?_)
        · skip
          refine lv_lload hx hb dX0_walkFirst_88 (lv_at hl 0 rfl) ?_
          refine lv_iload hx hb dX0_walkFirst_90 (lv_at hl 2 rfl) ?_
          refine cs_i (va_runS (As := [.long z_8, .int z_4]) (rest := []) ⟨hx, hb, hml, hown, hts⟩ (ctx_isGoodLeaf l H.size z_8 z_4) (va_cwS 2 hts gX0_walkFirst_X0_isGoodLeaf rfl rfl rfl (by decide +kernel) ⟨Nat.le_of_ble_eq_true rfl, Nat.le_of_ble_eq_true rfl⟩) ⟨fun a U g mk q => q, fun U hU hW => ⟨rfl, congrArg Array.size hU⟩⟩ rfl rfl hl.1 rfl (lv_room (Nat.le_of_ble_eq_true rfl)) dX0_walkFirst_92 ⟨Nat.zero_le _, Nat.zero_le _⟩) hA hP hS (fun H locs hP hS => ?_)
          refine lj_i (j := 114) (z0 := if ((fx_isGoodLeaf z_8 z_4)) = 0 then 0 else if ((fx_firstAllows v_rights a0 a1 z_8)) = 0 then 0 else 1) (rest := []) hP hS (fun H locs hP hS z_9 ez_9 => ?_) (fun J114_95 => ?_)
          · skip
            have oz_9 : z_9 = 0 ∨ z_9 = 1 := by rw [ez_9]; exact ite01 (Or.inl rfl) (ite01 (Or.inl rfl) (Or.inr rfl))
            refine lv_istore (lv' := [(11, .int z_9), (8, .long z_8), (6, .long z_6), (10, .int z_4), (0, .ref h0), (1, .int a0), (2, .int a1), (3, .long a2), (5, .int a3)]) hx hb dX0_walkFirst_114 hl (by decide) rfl (fun ls hl => ?_)
            refine lv_iload hx hb dX0_walkFirst_116 (lv_at hl 0 rfl) ?_
            refine lv_if_eq (tgt := 132) hx hb dX0_walkFirst_118 (by decide) (fun c_118 => ?_) (fun c_118 => ?_)
            · skip
              refine lv_iload_n hx hb dX0_walkFirst_132 rfl (lv_at hl 6 rfl) ?_
              refine cs_l (va_runS (As := [.int a1]) (rest := []) ⟨hx, hb, hml, hown, hts⟩ (ctx_firstFault l H.size a1) (va_cwS 1 hts gX0_walkFirst_X0_firstFault rfl rfl rfl (by decide +kernel) ⟨Nat.le_of_ble_eq_true rfl, Nat.le_of_ble_eq_true rfl⟩) ⟨fun a U g mk q => q, fun U hU hW => ⟨rfl, congrArg Array.size hU⟩⟩ rfl rfl hl.1 rfl (lv_room (Nat.le_of_ble_eq_true rfl)) dX0_walkFirst_133 ⟨Nat.zero_le _, Nat.zero_le _⟩) hA hP hS (fun H locs hP hS => ?_)
              exact W.lret (v := (fx_firstFault a1)) hx hb hr (fun t ht hW => ⟨⟨_, ((fx_firstFault a1), o_7.2.1, o_7.2.2), rfl, ⟨rfl, by subst ez_9; subst ez_8; subst eo_7; subst ez_6; subst ez_4; subst ez_3; subst eo_2; subst ez_1; rw [fx_walkFirst, if_neg c_46, if_pos c_51, if_neg c_82, if_pos c_118] <;> rfl⟩, by rw [ht]; exact hP, va_K.moved hW.alike hK, hD⟩, hS.F ht⟩) hS.2.2 dX0_walkFirst_136
            · skip
              refine lv_lload hx hb dX0_walkFirst_121 (lv_at hl 1 rfl) ?_
              refine lv_iload hx hb dX0_walkFirst_123 (lv_at hl 3 rfl) ?_
              refine lv_lload_n hx hb dX0_walkFirst_125 rfl (lv_at hl 7 rfl) ?_
              refine cs_l (va_runS (As := [.long z_8, .int z_4, .long a2]) (rest := []) ⟨hx, hb, hml, hown, hts⟩ (ctx_result l H.size z_8 z_4 a2) (va_cwS 3 hts gX0_walkFirst_X0_result rfl rfl rfl (by decide +kernel) ⟨Nat.le_of_ble_eq_true rfl, Nat.le_of_ble_eq_true rfl⟩) ⟨fun a U g mk q => q, fun U hU hW => ⟨rfl, congrArg Array.size hU⟩⟩ rfl rfl hl.1 rfl (lv_room (Nat.le_of_ble_eq_true rfl)) dX0_walkFirst_126 ⟨Nat.zero_le _, Nat.zero_le _⟩) hA hP hS (fun H locs hP hS => ?_)
              refine lv_goto (tgt := 136) hx hb dX0_walkFirst_129 (by decide) ?_
              exact W.lret (v := (fx_result z_8 z_4 a2)) hx hb hr (fun t ht hW => ⟨⟨_, ((fx_result z_8 z_4 a2), o_7.2.1, o_7.2.2), rfl, ⟨rfl, by subst ez_9; subst ez_8; subst eo_7; subst ez_6; subst ez_4; subst ez_3; subst eo_2; subst ez_1; rw [fx_walkFirst, if_neg c_46, if_pos c_51, if_neg c_82, if_neg c_118] <;> rfl⟩, by rw [ht]; exact hP, va_K.moved hW.alike hK, hD⟩, hS.F ht⟩) hS.2.2 dX0_walkFirst_136
          · skip
            refine lv_if_eq (tgt := 113) hx hb dX0_walkFirst_95 (by decide) (fun c_95 => ?_) (fun c_95 => ?_)
            · skip
              refine lv_iconst (v := 0) hx hb dX0_walkFirst_113 (by decide) ?_
              exact W.eq (by rw [if_pos c_95] <;> rfl) (J114_95 _ _ hP hS)
            · skip
              refine lv_aload_n hx hb dX0_walkFirst_98 rfl (lv_at hl 3 rfl) ?_
              refine lv_iload_n hx hb dX0_walkFirst_99 rfl (lv_at hl 4 rfl) ?_
              refine lv_iload_n hx hb dX0_walkFirst_100 rfl (lv_at hl 5 rfl) ?_
              refine lv_lload hx hb dX0_walkFirst_101 (lv_at hl 0 rfl) ?_
              refine cr_i (va_runV (As := [.int a0, .int a1, .long z_8]) (rest := []) ⟨hx, hb, hml, hown, hts⟩ (ctx_firstAllows l dC dI h0 q_words k_words H.size v_atp v_vsAtp v_hgatp v_rights v_latestPlace v_latestSecond v_latestEntry o_7.2.1 o_7.2.2 m_words a0 a1 z_8) (cwV 3 hts gX0_walkFirst_X0_firstAllows rfl rfl rfl (by decide +kernel) ⟨Nat.le_of_ble_eq_true rfl, Nat.le_of_ble_eq_true rfl⟩) ⟨fun a U g mk q => ⟨q.1, q.2.1, q.2.2.1, va_K.moved (u := U) (U := U.calling g mk a) (Vm.Alike.refl U.vm) q.2.2.2.1, q.2.2.2.2⟩, va_recv hK hP (ci := 0) (q0 := 0) rfl rfl, fun U hU hW => ⟨rfl, by rw [hU], by rw [hU]; exact hP, va_K.moved hW.alike hK, hD.weaken (fun _ _ _ _ => trivial)⟩⟩ rfl rfl hl.1 rfl (lv_room (Nat.le_of_ble_eq_true rfl)) dX0_walkFirst_103 ⟨Nat.zero_le _, Nat.zero_le _⟩) hA hD hP hS (fun H locs hP hS => ?_)
              refine lv_if_eq (tgt := 113) hx hb dX0_walkFirst_106 (by decide) (fun c_106 => ?_) (fun c_106 => ?_)
              · skip
                refine lv_iconst (v := 0) hx hb dX0_walkFirst_113 (by decide) ?_
                exact W.eq (by rw [if_neg c_95, if_pos c_106] <;> rfl) (J114_95 _ _ hP hS)
              · skip
                refine lv_iconst (v := 1) hx hb dX0_walkFirst_109 (by decide) ?_
                refine lv_goto (tgt := 114) hx hb dX0_walkFirst_110 (by decide) ?_
                exact W.eq (by rw [if_neg c_95, if_neg c_106] <;> rfl) (J114_95 _ _ hP hS)
        · skip
          refine lv_lload hx hb dX0_walkFirst_85 (lv_at hl 0 rfl) ?_
          exact W.lret (v := z_8) hx hb hr (fun t ht hW => ⟨⟨_, (z_8, o_7.2.1, o_7.2.2), rfl, ⟨rfl, by subst ez_8; subst eo_7; subst ez_6; subst ez_4; subst ez_3; subst eo_2; subst ez_1; rw [fx_walkFirst, if_neg c_46, if_pos c_51, if_pos c_82] <;> rfl⟩, by rw [ht]; exact hP, va_K.moved hW.alike hK, hD⟩, hS.F ht⟩) hS.2.2 dX0_walkFirst_87
  · skip
    refine lv_if_ne (tgt := 39) hx hb dX0_walkFirst_32 (by decide) (fun c_32 => ?_) (fun c_32 => ?_)
    · skip
      refine lv_iconst (v := 0) hx hb dX0_walkFirst_39 (by decide) ?_
      exact W.eq (by rw [if_neg c_32] <;> rfl) (J40_32 _ _ hP hS)
    · skip
      refine lv_iconst (v := 1) hx hb dX0_walkFirst_35 (by decide) ?_
      refine lv_goto (tgt := 40) hx hb dX0_walkFirst_36 (by decide) ?_
      exact W.eq (by rw [if_pos c_32] <;> rfl) (J40_32 _ _ hP hS)
def fx_lead (v_atp : Int32) (v_vsAtp : Int32) (v_hgatp : Int32) (v_rights : Int32) (v_refusedAddress : Int64) (v_refusedEntry : Int32) (m_words : Nat → Int32) (a0 : Int32) (a1 : Int32) (a2 : Int64) : Int64 × Int64 × Int32 := if 0 ≤ ((if ((fx_isVirtual a0)) = 0 then v_atp else v_vsAtp : Int32)) then if ((fx_throughSecond v_hgatp v_rights v_refusedAddress v_refusedEntry m_words a0 a1 a2 0).1) < 262144 then ((fx_throughSecond v_hgatp v_rights v_refusedAddress v_refusedEntry m_words a0 a1 a2 0).1, (fx_throughSecond v_hgatp v_rights v_refusedAddress v_refusedEntry m_words a0 a1 a2 0).2.1, (fx_throughSecond v_hgatp v_rights v_refusedAddress v_refusedEntry m_words a0 a1 a2 0).2.2) else ((fx_noMemory a1), (fx_throughSecond v_hgatp v_rights v_refusedAddress v_refusedEntry m_words a0 a1 a2 0).2.1, (fx_throughSecond v_hgatp v_rights v_refusedAddress v_refusedEntry m_words a0 a1 a2 0).2.2) else if ((fx_throughSecond v_hgatp v_rights ((fx_walkFirst v_hgatp v_rights v_refusedAddress v_refusedEntry m_words a0 a1 a2 ((if ((fx_isVirtual a0)) = 0 then v_atp else v_vsAtp : Int32))).2.1) ((fx_walkFirst v_hgatp v_rights v_refusedAddress v_refusedEntry m_words a0 a1 a2 ((if ((fx_isVirtual a0)) = 0 then v_atp else v_vsAtp : Int32))).2.2) m_words a0 a1 ((fx_walkFirst v_hgatp v_rights v_refusedAddress v_refusedEntry m_words a0 a1 a2 ((if ((fx_isVirtual a0)) = 0 then v_atp else v_vsAtp : Int32))).1) 0).1) < 262144 then ((fx_throughSecond v_hgatp v_rights ((fx_walkFirst v_hgatp v_rights v_refusedAddress v_refusedEntry m_words a0 a1 a2 ((if ((fx_isVirtual a0)) = 0 then v_atp else v_vsAtp : Int32))).2.1) ((fx_walkFirst v_hgatp v_rights v_refusedAddress v_refusedEntry m_words a0 a1 a2 ((if ((fx_isVirtual a0)) = 0 then v_atp else v_vsAtp : Int32))).2.2) m_words a0 a1 ((fx_walkFirst v_hgatp v_rights v_refusedAddress v_refusedEntry m_words a0 a1 a2 ((if ((fx_isVirtual a0)) = 0 then v_atp else v_vsAtp : Int32))).1) 0).1, (fx_throughSecond v_hgatp v_rights ((fx_walkFirst v_hgatp v_rights v_refusedAddress v_refusedEntry m_words a0 a1 a2 ((if ((fx_isVirtual a0)) = 0 then v_atp else v_vsAtp : Int32))).2.1) ((fx_walkFirst v_hgatp v_rights v_refusedAddress v_refusedEntry m_words a0 a1 a2 ((if ((fx_isVirtual a0)) = 0 then v_atp else v_vsAtp : Int32))).2.2) m_words a0 a1 ((fx_walkFirst v_hgatp v_rights v_refusedAddress v_refusedEntry m_words a0 a1 a2 ((if ((fx_isVirtual a0)) = 0 then v_atp else v_vsAtp : Int32))).1) 0).2.1, (fx_throughSecond v_hgatp v_rights ((fx_walkFirst v_hgatp v_rights v_refusedAddress v_refusedEntry m_words a0 a1 a2 ((if ((fx_isVirtual a0)) = 0 then v_atp else v_vsAtp : Int32))).2.1) ((fx_walkFirst v_hgatp v_rights v_refusedAddress v_refusedEntry m_words a0 a1 a2 ((if ((fx_isVirtual a0)) = 0 then v_atp else v_vsAtp : Int32))).2.2) m_words a0 a1 ((fx_walkFirst v_hgatp v_rights v_refusedAddress v_refusedEntry m_words a0 a1 a2 ((if ((fx_isVirtual a0)) = 0 then v_atp else v_vsAtp : Int32))).1) 0).2.2) else ((fx_noMemory a1), (fx_throughSecond v_hgatp v_rights ((fx_walkFirst v_hgatp v_rights v_refusedAddress v_refusedEntry m_words a0 a1 a2 ((if ((fx_isVirtual a0)) = 0 then v_atp else v_vsAtp : Int32))).2.1) ((fx_walkFirst v_hgatp v_rights v_refusedAddress v_refusedEntry m_words a0 a1 a2 ((if ((fx_isVirtual a0)) = 0 then v_atp else v_vsAtp : Int32))).2.2) m_words a0 a1 ((fx_walkFirst v_hgatp v_rights v_refusedAddress v_refusedEntry m_words a0 a1 a2 ((if ((fx_isVirtual a0)) = 0 then v_atp else v_vsAtp : Int32))).1) 0).2.1, (fx_throughSecond v_hgatp v_rights ((fx_walkFirst v_hgatp v_rights v_refusedAddress v_refusedEntry m_words a0 a1 a2 ((if ((fx_isVirtual a0)) = 0 then v_atp else v_vsAtp : Int32))).2.1) ((fx_walkFirst v_hgatp v_rights v_refusedAddress v_refusedEntry m_words a0 a1 a2 ((if ((fx_isVirtual a0)) = 0 then v_atp else v_vsAtp : Int32))).2.2) m_words a0 a1 ((fx_walkFirst v_hgatp v_rights v_refusedAddress v_refusedEntry m_words a0 a1 a2 ((if ((fx_isVirtual a0)) = 0 then v_atp else v_vsAtp : Int32))).1) 0).2.2)
set_option maxHeartbeats 4000000 in
set_option maxRecDepth 100000 in
theorem ctx_lead (l : Launch) (dC : Nat → ClassId) (dI : Nat → Nat → Nat) (h0 : Nat) (q_words : Nat) (k_words : ClassId) (sz : Nat) (v_atp : Int32) (v_vsAtp : Int32) (v_hgatp : Int32) (v_rights : Int32) (v_latestPlace : Int32) (v_latestSecond : Int32) (v_latestEntry : Int32) (v_refusedAddress : Int64) (v_refusedEntry : Int32) (m_words : Nat → Int32) (a0 : Int32) (a1 : Int32) (a2 : Int64) : MWl l yX0_lead wsX0_lead ({ frames := 5, cells := 0, slots := 0, locals := 132 }) (dC, dI) vwCl [(k_words, .int)] [.ref h0, .int a0, .int a1, .long a2] sz (wx h0 q_words k_words v_atp v_vsAtp v_hgatp v_rights v_latestPlace v_latestSecond v_latestEntry v_refusedAddress v_refusedEntry m_words) (fun u : Int64 × Int64 × Int32 => (wx h0 q_words k_words v_atp v_vsAtp v_hgatp v_rights v_latestPlace v_latestSecond v_latestEntry u.2.1 u.2.2 m_words)) (fun u : Int64 × Int64 × Int32 => u.1) (fx_lead v_atp v_vsAtp v_hgatp v_rights v_refusedAddress v_refusedEntry m_words a0 a1 a2) := by
  refine Met.ofW (cc := cX0_lead) (maxL := 10) (ret := (some .long)) (by decide) rfl ?_
  intro p e s m args below meth c s₁ B hml hv
  obtain ⟨rfl, hsz, hP, hK, hD0⟩ := hv
  have hx := B.exec
  have hb := B.bytes
  have hr := B.returns
  have hts := atoms_spec (ws := wsX0_lead) B.pre
  have hown : s.vm.findClass RX0 = some m.cls := findClass_of_methodNamed B.named
  have hlocks := B.notSynchronized
  subst hsz
  have hwX : ∀ w ∈ u_ws RX0 TX0 10, w ∈ wsX0_lead := by decide +kernel
  have hD := hD0.self (sz := s.heap.size)
  generalize hAe : va_A (wx h0 q_words k_words v_atp v_vsAtp v_hgatp v_rights v_latestPlace v_latestSecond v_latestEntry v_refusedAddress v_refusedEntry m_words) s.heap.size = A at hD ⊢
  have hA : ∀ q : Nat, s.heap.size ≤ q → A q := fun q h => by rw [← hAe]; exact Or.inr h
  have hS : va_S A s.heap s.heap [] := va_S.rf
  have hP : va_P (dC, dI) vwCl (wx h0 q_words k_words v_atp v_vsAtp v_hgatp v_rights v_latestPlace v_latestSecond v_latestEntry v_refusedAddress v_refusedEntry m_words) s.heap := hP
  have hl := lv_entry ([.ref h0, .int a0, .int a1, .long a2]) (n := 10) (Nat.le_of_ble_eq_true rfl)
  rw [lg_entry_eq]
  generalize (lg_sl ([.ref h0, .int a0, .int a1, .long a2]) ++ List.replicate (10 - (lg_sl ([.ref h0, .int a0, .int a1, .long a2])).length) Slot.unset).toArray = ls at hl ⊢
  have hl : lv_has ls 10 [(0, .ref h0), (1, .int a0), (2, .int a1), (3, .long a2)] := hl
  refine lv_iload_n hx hb dX0_lead_0 rfl (lv_at hl 1 rfl) ?_
  refine cs_i (va_runS (As := [.int a0]) (rest := []) ⟨hx, hb, hml, hown, hts⟩ (ctx_isVirtual l s.heap.size a0) (va_cwS 1 hts gX0_lead_X0_isVirtual rfl rfl rfl (by decide +kernel) ⟨Nat.le_of_ble_eq_true rfl, Nat.le_of_ble_eq_true rfl⟩) ⟨fun a U g mk q => q, fun U hU hW => ⟨rfl, congrArg Array.size hU⟩⟩ rfl rfl hl.1 rfl (lv_room (Nat.le_of_ble_eq_true rfl)) dX0_lead_1 ⟨Nat.zero_le _, Nat.zero_le _⟩) hA hP hS (fun H locs hP hS => ?_)
  refine lj_i (j := 18) (z0 := if ((fx_isVirtual a0)) = 0 then v_atp else v_vsAtp) (rest := []) hP hS (fun H locs hP hS z_1 ez_1 => ?_) (fun J18_4 => ?_)
  · skip
    refine lv_istore (lv' := [(5, .int z_1), (0, .ref h0), (1, .int a0), (2, .int a1), (3, .long a2)]) hx hb dX0_lead_18 hl (by decide) rfl (fun ls hl => ?_)
    refine lv_iload hx hb dX0_lead_20 (lv_at hl 0 rfl) ?_
    refine lv_if_ge (tgt := 37) hx hb dX0_lead_22 (by decide) (fun c_22 => ?_) (fun c_22 => ?_)
    · skip
      refine lv_lload_n hx hb dX0_lead_37 rfl (lv_at hl 4 rfl) ?_
      refine lv_lstore (lv' := [(6, .long a2), (5, .int z_1), (0, .ref h0), (1, .int a0), (2, .int a1), (3, .long a2)]) hx hb dX0_lead_38 hl (by decide) rfl (fun ls hl => ?_)
      refine lv_aload_n hx hb dX0_lead_40 rfl (lv_at hl 2 rfl) ?_
      refine lv_iload_n hx hb dX0_lead_41 rfl (lv_at hl 3 rfl) ?_
      refine lv_iload_n hx hb dX0_lead_42 rfl (lv_at hl 4 rfl) ?_
      refine lv_lload hx hb dX0_lead_43 (lv_at hl 0 rfl) ?_
      refine lv_iconst (v := 0) hx hb dX0_lead_45 (by decide) ?_
      refine cw_l (va_runV (As := [.int a0, .int a1, .long a2, .int 0]) (rest := []) ⟨hx, hb, hml, hown, hts⟩ (ctx_throughSecond l dC dI h0 q_words k_words H.size v_atp v_vsAtp v_hgatp v_rights v_latestPlace v_latestSecond v_latestEntry v_refusedAddress v_refusedEntry m_words a0 a1 a2 0 (Or.inl rfl)) (cwV 4 hts gX0_lead_X0_throughSecond rfl rfl rfl (by decide +kernel) ⟨Nat.le_of_ble_eq_true rfl, Nat.le_of_ble_eq_true rfl⟩) ⟨fun a U g mk q => ⟨q.1, q.2.1, q.2.2.1, va_K.moved (u := U) (U := U.calling g mk a) (Vm.Alike.refl U.vm) q.2.2.2.1, q.2.2.2.2⟩, va_recv hK hP (ci := 0) (q0 := 0) rfl rfl, fun U hU hW => ⟨rfl, by rw [hU], by rw [hU]; exact hP, va_K.moved hW.alike hK, hD.weaken (fun _ _ _ _ => trivial)⟩⟩ rfl rfl hl.1 rfl (lv_room (Nat.le_of_ble_eq_true rfl)) dX0_lead_46 ⟨Nat.zero_le _, Nat.zero_le _⟩) hA hD hP hS (fun o_2 H locs eo_2 hP hD hS => ?_)
      have hP : va_P (dC, dI) vwCl (wx h0 q_words k_words v_atp v_vsAtp v_hgatp v_rights v_latestPlace v_latestSecond v_latestEntry o_2.2.1 o_2.2.2 m_words) H := hP
      have hD : va_D A (wx h0 q_words k_words v_atp v_vsAtp v_hgatp v_rights v_latestPlace v_latestSecond v_latestEntry o_2.2.1 o_2.2.2 m_words) := hD
      refine lv_topl (fun z_3 ez_3 => ?_)
      refine lv_lstore (lv' := [(8, .long z_3), (6, .long a2), (5, .int z_1), (0, .ref h0), (1, .int a0), (2, .int a1), (3, .long a2)]) hx hb dX0_lead_49 hl (by decide) rfl (fun ls hl => ?_)
      refine lv_lload hx hb dX0_lead_51 (lv_at hl 0 rfl) ?_
      refine lv_ldc2 hx hb hown (hts (.constantLong RX0 83 262144) (by decide +kernel)) dX0_lead_53 ?_
      refine lq_lt (tgt := 67) hx hb dX0_lead_56 dX0_lead_57 (by decide) (fun c_57 => ?_) (fun c_57 => ?_)
      · skip
        refine lv_lload hx hb dX0_lead_67 (lv_at hl 0 rfl) ?_
        exact W.lret (v := z_3) hx hb hr (fun t ht hW => ⟨⟨_, (z_3, o_2.2.1, o_2.2.2), rfl, ⟨rfl, by subst ez_3; subst eo_2; subst ez_1; rw [fx_lead, if_pos c_22, if_pos c_57] <;> rfl⟩, by rw [ht]; exact hP, va_K.moved hW.alike hK, hD⟩, hS.F ht⟩) hS.2.2 dX0_lead_69
      · skip
        refine lv_iload_n hx hb dX0_lead_60 rfl (lv_at hl 5 rfl) ?_
        refine cs_l (va_runS (As := [.int a1]) (rest := []) ⟨hx, hb, hml, hown, hts⟩ (ctx_noMemory l H.size a1) (va_cwS 1 hts gX0_lead_X0_noMemory rfl rfl rfl (by decide +kernel) ⟨Nat.le_of_ble_eq_true rfl, Nat.le_of_ble_eq_true rfl⟩) ⟨fun a U g mk q => q, fun U hU hW => ⟨rfl, congrArg Array.size hU⟩⟩ rfl rfl hl.1 rfl (lv_room (Nat.le_of_ble_eq_true rfl)) dX0_lead_61 ⟨Nat.zero_le _, Nat.zero_le _⟩) hA hP hS (fun H locs hP hS => ?_)
        refine lv_goto (tgt := 69) hx hb dX0_lead_64 (by decide) ?_
        exact W.lret (v := (fx_noMemory a1)) hx hb hr (fun t ht hW => ⟨⟨_, ((fx_noMemory a1), o_2.2.1, o_2.2.2), rfl, ⟨rfl, by subst ez_3; subst eo_2; subst ez_1; rw [fx_lead, if_pos c_22, if_neg c_57] <;> rfl⟩, by rw [ht]; exact hP, va_K.moved hW.alike hK, hD⟩, hS.F ht⟩) hS.2.2 dX0_lead_69
    · skip
      refine lv_aload_n hx hb dX0_lead_25 rfl (lv_at hl 1 rfl) ?_
      refine lv_iload_n hx hb dX0_lead_26 rfl (lv_at hl 2 rfl) ?_
      refine lv_iload_n hx hb dX0_lead_27 rfl (lv_at hl 3 rfl) ?_
      refine lv_lload_n hx hb dX0_lead_28 rfl (lv_at hl 4 rfl) ?_
      refine lv_iload hx hb dX0_lead_29 (lv_at hl 0 rfl) ?_
      refine cw_l (va_runV (As := [.int a0, .int a1, .long a2, .int z_1]) (rest := []) ⟨hx, hb, hml, hown, hts⟩ (ctx_walkFirst l dC dI h0 q_words k_words H.size v_atp v_vsAtp v_hgatp v_rights v_latestPlace v_latestSecond v_latestEntry v_refusedAddress v_refusedEntry m_words a0 a1 a2 z_1) (cwV 4 hts gX0_lead_X0_walkFirst rfl rfl rfl (by decide +kernel) ⟨Nat.le_of_ble_eq_true rfl, Nat.le_of_ble_eq_true rfl⟩) ⟨fun a U g mk q => ⟨q.1, q.2.1, q.2.2.1, va_K.moved (u := U) (U := U.calling g mk a) (Vm.Alike.refl U.vm) q.2.2.2.1, q.2.2.2.2⟩, va_recv hK hP (ci := 0) (q0 := 0) rfl rfl, fun U hU hW => ⟨rfl, by rw [hU], by rw [hU]; exact hP, va_K.moved hW.alike hK, hD.weaken (fun _ _ _ _ => trivial)⟩⟩ rfl rfl hl.1 rfl (lv_room (Nat.le_of_ble_eq_true rfl)) dX0_lead_31 ⟨Nat.zero_le _, Nat.zero_le _⟩) hA hD hP hS (fun o_4 H locs eo_4 hP hD hS => ?_)
      have hP : va_P (dC, dI) vwCl (wx h0 q_words k_words v_atp v_vsAtp v_hgatp v_rights v_latestPlace v_latestSecond v_latestEntry o_4.2.1 o_4.2.2 m_words) H := hP
      have hD : va_D A (wx h0 q_words k_words v_atp v_vsAtp v_hgatp v_rights v_latestPlace v_latestSecond v_latestEntry o_4.2.1 o_4.2.2 m_words) := hD
      refine lv_goto (tgt := 38) hx hb dX0_lead_34 (by decide) ?_
      refine lv_topl (fun z_5 ez_5 => ?_)
      refine lv_lstore (lv' := [(6, .long z_5), (5, .int z_1), (0, .ref h0), (1, .int a0), (2, .int a1), (3, .long a2)]) hx hb dX0_lead_38 hl (by decide) rfl (fun ls hl => ?_)
      refine lv_aload_n hx hb dX0_lead_40 rfl (lv_at hl 2 rfl) ?_
      refine lv_iload_n hx hb dX0_lead_41 rfl (lv_at hl 3 rfl) ?_
      refine lv_iload_n hx hb dX0_lead_42 rfl (lv_at hl 4 rfl) ?_
      refine lv_lload hx hb dX0_lead_43 (lv_at hl 0 rfl) ?_
      refine lv_iconst (v := 0) hx hb dX0_lead_45 (by decide) ?_
      refine cw_l (va_runV (As := [.int a0, .int a1, .long z_5, .int 0]) (rest := []) ⟨hx, hb, hml, hown, hts⟩ (ctx_throughSecond l dC dI h0 q_words k_words H.size v_atp v_vsAtp v_hgatp v_rights v_latestPlace v_latestSecond v_latestEntry o_4.2.1 o_4.2.2 m_words a0 a1 z_5 0 (Or.inl rfl)) (cwV 4 hts gX0_lead_X0_throughSecond rfl rfl rfl (by decide +kernel) ⟨Nat.le_of_ble_eq_true rfl, Nat.le_of_ble_eq_true rfl⟩) ⟨fun a U g mk q => ⟨q.1, q.2.1, q.2.2.1, va_K.moved (u := U) (U := U.calling g mk a) (Vm.Alike.refl U.vm) q.2.2.2.1, q.2.2.2.2⟩, va_recv hK hP (ci := 0) (q0 := 0) rfl rfl, fun U hU hW => ⟨rfl, by rw [hU], by rw [hU]; exact hP, va_K.moved hW.alike hK, hD.weaken (fun _ _ _ _ => trivial)⟩⟩ rfl rfl hl.1 rfl (lv_room (Nat.le_of_ble_eq_true rfl)) dX0_lead_46 ⟨Nat.zero_le _, Nat.zero_le _⟩) hA hD hP hS (fun o_6 H locs eo_6 hP hD hS => ?_)
      have hP : va_P (dC, dI) vwCl (wx h0 q_words k_words v_atp v_vsAtp v_hgatp v_rights v_latestPlace v_latestSecond v_latestEntry o_6.2.1 o_6.2.2 m_words) H := hP
      have hD : va_D A (wx h0 q_words k_words v_atp v_vsAtp v_hgatp v_rights v_latestPlace v_latestSecond v_latestEntry o_6.2.1 o_6.2.2 m_words) := hD
      refine lv_topl (fun z_7 ez_7 => ?_)
      refine lv_lstore (lv' := [(8, .long z_7), (6, .long z_5), (5, .int z_1), (0, .ref h0), (1, .int a0), (2, .int a1), (3, .long a2)]) hx hb dX0_lead_49 hl (by decide) rfl (fun ls hl => ?_)
      refine lv_lload hx hb dX0_lead_51 (lv_at hl 0 rfl) ?_
      refine lv_ldc2 hx hb hown (hts (.constantLong RX0 83 262144) (by decide +kernel)) dX0_lead_53 ?_
      refine lq_lt (tgt := 67) hx hb dX0_lead_56 dX0_lead_57 (by decide) (fun c_57 => ?_) (fun c_57 => ?_)
      · skip
        refine lv_lload hx hb dX0_lead_67 (lv_at hl 0 rfl) ?_
        exact W.lret (v := z_7) hx hb hr (fun t ht hW => ⟨⟨_, (z_7, o_6.2.1, o_6.2.2), rfl, ⟨rfl, by subst ez_7; subst eo_6; subst ez_5; subst eo_4; subst ez_1; rw [fx_lead, if_neg c_22, if_pos c_57] <;> rfl⟩, by rw [ht]; exact hP, va_K.moved hW.alike hK, hD⟩, hS.F ht⟩) hS.2.2 dX0_lead_69
      · skip
        refine lv_iload_n hx hb dX0_lead_60 rfl (lv_at hl 5 rfl) ?_
        refine cs_l (va_runS (As := [.int a1]) (rest := []) ⟨hx, hb, hml, hown, hts⟩ (ctx_noMemory l H.size a1) (va_cwS 1 hts gX0_lead_X0_noMemory rfl rfl rfl (by decide +kernel) ⟨Nat.le_of_ble_eq_true rfl, Nat.le_of_ble_eq_true rfl⟩) ⟨fun a U g mk q => q, fun U hU hW => ⟨rfl, congrArg Array.size hU⟩⟩ rfl rfl hl.1 rfl (lv_room (Nat.le_of_ble_eq_true rfl)) dX0_lead_61 ⟨Nat.zero_le _, Nat.zero_le _⟩) hA hP hS (fun H locs hP hS => ?_)
        refine lv_goto (tgt := 69) hx hb dX0_lead_64 (by decide) ?_
        exact W.lret (v := (fx_noMemory a1)) hx hb hr (fun t ht hW => ⟨⟨_, ((fx_noMemory a1), o_6.2.1, o_6.2.2), rfl, ⟨rfl, by subst ez_7; subst eo_6; subst ez_5; subst eo_4; subst ez_1; rw [fx_lead, if_neg c_22, if_neg c_57] <;> rfl⟩, by rw [ht]; exact hP, va_K.moved hW.alike hK, hD⟩, hS.F ht⟩) hS.2.2 dX0_lead_69
  · skip
    refine lv_if_eq (tgt := 14) hx hb dX0_lead_4 (by decide) (fun c_4 => ?_) (fun c_4 => ?_)
    · skip
      refine lv_aload_n hx hb dX0_lead_14 rfl (lv_at hl 0 rfl) ?_
      refine va_get (D := (dC, dI)) (ci := 0) (v := .int v_atp) (C := RX0) (T := TX0) (N := 10) hx hb hts hwX hown hK hP 0 rfl rfl 1 (by decide) (hts (.fieldLink RX0 24 "StageWalker" "atp" "I") (by decide +kernel)) (fun _ h9 => h9) rfl dX0_lead_15 ?_
      exact W.eq (by rw [if_pos c_4] <;> rfl) (J18_4 _ _ hP hS)
    · skip
      refine lv_aload_n hx hb dX0_lead_7 rfl (lv_at hl 0 rfl) ?_
      refine va_get (D := (dC, dI)) (ci := 0) (v := .int v_vsAtp) (C := RX0) (T := TX0) (N := 10) hx hb hts hwX hown hK hP 0 rfl rfl 2 (by decide) (hts (.fieldLink RX0 27 "StageWalker" "vsAtp" "I") (by decide +kernel)) (fun _ h9 => h9) rfl dX0_lead_8 ?_
      refine lv_goto (tgt := 18) hx hb dX0_lead_11 (by decide) ?_
      exact W.eq (by rw [if_neg c_4] <;> rfl) (J18_4 _ _ hP hS)
end
section
/-! StageWalker.translate, pages -/
def fx_translate (v_atp : Int32) (v_vsAtp : Int32) (v_hgatp : Int32) (v_rights : Int32) (v_latestPlace : Int32) (v_latestSecond : Int32) (v_latestEntry : Int32) (v_refusedAddress : Int64) (v_refusedEntry : Int32) (m_words : Nat → Int32) (a0 : Int32) (a1 : Int32) (a2 : Int32) : Int32 × Int32 × Int32 × Int32 × Int64 × Int32 := if ((fx_isKnown a0 a1)) = 0 then ((-1), v_latestPlace, v_latestSecond, v_latestEntry, v_refusedAddress, v_refusedEntry) else if ((fx_lead v_atp v_vsAtp v_hgatp v_rights v_refusedAddress v_refusedEntry m_words a0 a1 (a2.toInt64 &&& 4294967295)).1) < 0 then ((-((fx_lead v_atp v_vsAtp v_hgatp v_rights v_refusedAddress v_refusedEntry m_words a0 a1 (a2.toInt64 &&& 4294967295)).1)).toInt32, (if ((fx_lead v_atp v_vsAtp v_hgatp v_rights v_refusedAddress v_refusedEntry m_words a0 a1 (a2.toInt64 &&& 4294967295)).1) < 0 then (-1) else ((fx_lead v_atp v_vsAtp v_hgatp v_rights v_refusedAddress v_refusedEntry m_words a0 a1 (a2.toInt64 &&& 4294967295)).1).toInt32 : Int32), (if ((if ((fx_lead v_atp v_vsAtp v_hgatp v_rights v_refusedAddress v_refusedEntry m_words a0 a1 (a2.toInt64 &&& 4294967295)).1) = ((fx_secondFault a1)) then 1 else 0 : Int32)) = 0 then 0 else (jlushr ((fx_lead v_atp v_vsAtp v_hgatp v_rights v_refusedAddress v_refusedEntry m_words a0 a1 (a2.toInt64 &&& 4294967295)).2.1) 2).toInt32 : Int32), (if ((if ((fx_lead v_atp v_vsAtp v_hgatp v_rights v_refusedAddress v_refusedEntry m_words a0 a1 (a2.toInt64 &&& 4294967295)).1) = ((fx_secondFault a1)) then 1 else 0 : Int32)) = 0 then 0 else if ((fx_lead v_atp v_vsAtp v_hgatp v_rights v_refusedAddress v_refusedEntry m_words a0 a1 (a2.toInt64 &&& 4294967295)).2.2) = 0 then 0 else 1 : Int32), (fx_lead v_atp v_vsAtp v_hgatp v_rights v_refusedAddress v_refusedEntry m_words a0 a1 (a2.toInt64 &&& 4294967295)).2.1, (fx_lead v_atp v_vsAtp v_hgatp v_rights v_refusedAddress v_refusedEntry m_words a0 a1 (a2.toInt64 &&& 4294967295)).2.2) else (0, (if ((fx_lead v_atp v_vsAtp v_hgatp v_rights v_refusedAddress v_refusedEntry m_words a0 a1 (a2.toInt64 &&& 4294967295)).1) < 0 then (-1) else ((fx_lead v_atp v_vsAtp v_hgatp v_rights v_refusedAddress v_refusedEntry m_words a0 a1 (a2.toInt64 &&& 4294967295)).1).toInt32 : Int32), (if ((if ((fx_lead v_atp v_vsAtp v_hgatp v_rights v_refusedAddress v_refusedEntry m_words a0 a1 (a2.toInt64 &&& 4294967295)).1) = ((fx_secondFault a1)) then 1 else 0 : Int32)) = 0 then 0 else (jlushr ((fx_lead v_atp v_vsAtp v_hgatp v_rights v_refusedAddress v_refusedEntry m_words a0 a1 (a2.toInt64 &&& 4294967295)).2.1) 2).toInt32 : Int32), (if ((if ((fx_lead v_atp v_vsAtp v_hgatp v_rights v_refusedAddress v_refusedEntry m_words a0 a1 (a2.toInt64 &&& 4294967295)).1) = ((fx_secondFault a1)) then 1 else 0 : Int32)) = 0 then 0 else if ((fx_lead v_atp v_vsAtp v_hgatp v_rights v_refusedAddress v_refusedEntry m_words a0 a1 (a2.toInt64 &&& 4294967295)).2.2) = 0 then 0 else 1 : Int32), (fx_lead v_atp v_vsAtp v_hgatp v_rights v_refusedAddress v_refusedEntry m_words a0 a1 (a2.toInt64 &&& 4294967295)).2.1, (fx_lead v_atp v_vsAtp v_hgatp v_rights v_refusedAddress v_refusedEntry m_words a0 a1 (a2.toInt64 &&& 4294967295)).2.2)
set_option maxHeartbeats 4000000 in
set_option maxRecDepth 100000 in
theorem ctx_translate (l : Launch) (dC : Nat → ClassId) (dI : Nat → Nat → Nat) (h0 : Nat) (q_words : Nat) (k_words : ClassId) (sz : Nat) (v_atp : Int32) (v_vsAtp : Int32) (v_hgatp : Int32) (v_rights : Int32) (v_latestPlace : Int32) (v_latestSecond : Int32) (v_latestEntry : Int32) (v_refusedAddress : Int64) (v_refusedEntry : Int32) (m_words : Nat → Int32) (a0 : Int32) (a1 : Int32) (a2 : Int32) : MWi l yX0_translate wsX0_translate ({ frames := 6, cells := 0, slots := 0, locals := 161 }) (dC, dI) vwCl [(k_words, .int)] [.ref h0, .int a0, .int a1, .int a2] sz (wx h0 q_words k_words v_atp v_vsAtp v_hgatp v_rights v_latestPlace v_latestSecond v_latestEntry v_refusedAddress v_refusedEntry m_words) (fun u : Int32 × Int32 × Int32 × Int32 × Int64 × Int32 => (wx h0 q_words k_words v_atp v_vsAtp v_hgatp v_rights u.2.1 u.2.2.1 u.2.2.2.1 u.2.2.2.2.1 u.2.2.2.2.2 m_words)) (fun u : Int32 × Int32 × Int32 × Int32 × Int64 × Int32 => u.1) (fx_translate v_atp v_vsAtp v_hgatp v_rights v_latestPlace v_latestSecond v_latestEntry v_refusedAddress v_refusedEntry m_words a0 a1 a2) := by
  refine Met.ofW (cc := cX0_translate) (maxL := 7) (ret := (some .int)) (by decide) rfl ?_
  intro p e s m args below meth c s₁ B hml hv
  obtain ⟨rfl, hsz, hP, hK, hD0⟩ := hv
  have hx := B.exec
  have hb := B.bytes
  have hr := B.returns
  have hts := atoms_spec (ws := wsX0_translate) B.pre
  have hown : s.vm.findClass RX0 = some m.cls := findClass_of_methodNamed B.named
  have hlocks := B.notSynchronized
  subst hsz
  have hwX : ∀ w ∈ u_ws RX0 TX0 10, w ∈ wsX0_translate := by decide +kernel
  have hD := hD0.self (sz := s.heap.size)
  generalize hAe : va_A (wx h0 q_words k_words v_atp v_vsAtp v_hgatp v_rights v_latestPlace v_latestSecond v_latestEntry v_refusedAddress v_refusedEntry m_words) s.heap.size = A at hD ⊢
  have hA : ∀ q : Nat, s.heap.size ≤ q → A q := fun q h => by rw [← hAe]; exact Or.inr h
  have hS : va_S A s.heap s.heap [] := va_S.rf
  have hP : va_P (dC, dI) vwCl (wx h0 q_words k_words v_atp v_vsAtp v_hgatp v_rights v_latestPlace v_latestSecond v_latestEntry v_refusedAddress v_refusedEntry m_words) s.heap := hP
  have hl := lv_entry ([.ref h0, .int a0, .int a1, .int a2]) (n := 7) (Nat.le_of_ble_eq_true rfl)
  rw [lg_entry_eq]
  generalize (lg_sl ([.ref h0, .int a0, .int a1, .int a2]) ++ List.replicate (7 - (lg_sl ([.ref h0, .int a0, .int a1, .int a2])).length) Slot.unset).toArray = ls at hl ⊢
  have hl : lv_has ls 7 [(0, .ref h0), (1, .int a0), (2, .int a1), (3, .int a2)] := hl
  refine lv_iload_n hx hb dX0_translate_0 rfl (lv_at hl 1 rfl) ?_
  refine lv_iload_n hx hb dX0_translate_1 rfl (lv_at hl 2 rfl) ?_
  refine cs_i (va_runS (As := [.int a0, .int a1]) (rest := []) ⟨hx, hb, hml, hown, hts⟩ (ctx_isKnown l s.heap.size a0 a1) (va_cwS 2 hts gX0_translate_X0_isKnown rfl rfl rfl (by decide +kernel) ⟨Nat.le_of_ble_eq_true rfl, Nat.le_of_ble_eq_true rfl⟩) ⟨fun a U g mk q => q, fun U hU hW => ⟨rfl, congrArg Array.size hU⟩⟩ rfl rfl hl.1 rfl (lv_room (Nat.le_of_ble_eq_true rfl)) dX0_translate_2 ⟨Nat.zero_le _, Nat.zero_le _⟩) hA hP hS (fun H locs hP hS => ?_)
  refine lv_if_ne (tgt := 10) hx hb dX0_translate_5 (by decide) (fun c_5 => ?_) (fun c_5 => ?_)
  · skip
    refine lv_aload_n hx hb dX0_translate_10 rfl (lv_at hl 0 rfl) ?_
    refine lv_iload_n hx hb dX0_translate_11 rfl (lv_at hl 1 rfl) ?_
    refine lv_iload_n hx hb dX0_translate_12 rfl (lv_at hl 2 rfl) ?_
    refine lv_iload_n hx hb dX0_translate_13 rfl (lv_at hl 3 rfl) ?_
    refine lv_i2l (v := a2.toInt64) hx hb dX0_translate_14 rfl ?_
    refine lv_ldc2 hx hb hown (hts (.constantLong RX0 52 4294967295) (by decide +kernel)) dX0_translate_15 ?_
    refine lv_land hx hb dX0_translate_18 ?_
    refine cw_l (va_runV (As := [.int a0, .int a1, .long (a2.toInt64 &&& 4294967295)]) (rest := []) ⟨hx, hb, hml, hown, hts⟩ (ctx_lead l dC dI h0 q_words k_words H.size v_atp v_vsAtp v_hgatp v_rights v_latestPlace v_latestSecond v_latestEntry v_refusedAddress v_refusedEntry m_words a0 a1 (a2.toInt64 &&& 4294967295)) (cwV 3 hts gX0_translate_X0_lead rfl rfl rfl (by decide +kernel) ⟨Nat.le_of_ble_eq_true rfl, Nat.le_of_ble_eq_true rfl⟩) ⟨fun a U g mk q => ⟨q.1, q.2.1, q.2.2.1, va_K.moved (u := U) (U := U.calling g mk a) (Vm.Alike.refl U.vm) q.2.2.2.1, q.2.2.2.2⟩, va_recv hK hP (ci := 0) (q0 := 0) rfl rfl, fun U hU hW => ⟨rfl, by rw [hU], by rw [hU]; exact hP, va_K.moved hW.alike hK, hD.weaken (fun _ _ _ _ => trivial)⟩⟩ rfl rfl hl.1 rfl (lv_room (Nat.le_of_ble_eq_true rfl)) dX0_translate_19 ⟨Nat.zero_le _, Nat.zero_le _⟩) hA hD hP hS (fun o_1 H locs eo_1 hP hD hS => ?_)
    have hP : va_P (dC, dI) vwCl (wx h0 q_words k_words v_atp v_vsAtp v_hgatp v_rights v_latestPlace v_latestSecond v_latestEntry o_1.2.1 o_1.2.2 m_words) H := hP
    have hD : va_D A (wx h0 q_words k_words v_atp v_vsAtp v_hgatp v_rights v_latestPlace v_latestSecond v_latestEntry o_1.2.1 o_1.2.2 m_words) := hD
    refine lv_topl (fun z_2 ez_2 => ?_)
    refine lv_lstore (lv' := [(4, .long z_2), (0, .ref h0), (1, .int a0), (2, .int a1), (3, .int a2)]) hx hb dX0_translate_22 hl (by decide) rfl (fun ls hl => ?_)
    refine lv_lload hx hb dX0_translate_24 (lv_at hl 0 rfl) ?_
    refine lv_iload_n hx hb dX0_translate_26 rfl (lv_at hl 3 rfl) ?_
    refine cs_l (va_runS (As := [.int a1]) (rest := [.long z_2]) ⟨hx, hb, hml, hown, hts⟩ (ctx_secondFault l H.size a1) (va_cwS 1 hts gX0_translate_X0_secondFault rfl rfl rfl (by decide +kernel) ⟨Nat.le_of_ble_eq_true rfl, Nat.le_of_ble_eq_true rfl⟩) ⟨fun a U g mk q => q, fun U hU hW => ⟨rfl, congrArg Array.size hU⟩⟩ rfl rfl hl.1 rfl (lv_room (Nat.le_of_ble_eq_true rfl)) dX0_translate_27 ⟨Nat.zero_le _, Nat.zero_le _⟩) hA hP hS (fun H locs hP hS => ?_)
    refine lj_i (j := 39) (z0 := if z_2 = ((fx_secondFault a1)) then 1 else 0) (rest := []) hP hS (fun H locs hP hS z_3 ez_3 => ?_) (fun J39_31 => ?_)
    · skip
      have oz_3 : z_3 = 0 ∨ z_3 = 1 := by rw [ez_3]; exact ite01 (Or.inr rfl) (Or.inl rfl)
      refine lv_istore (lv' := [(6, .int z_3), (4, .long z_2), (0, .ref h0), (1, .int a0), (2, .int a1), (3, .int a2)]) hx hb dX0_translate_39 hl (by decide) rfl (fun ls hl => ?_)
      refine lv_aload_n hx hb dX0_translate_41 rfl (lv_at hl 2 rfl) ?_
      refine lv_lload hx hb dX0_translate_42 (lv_at hl 1 rfl) ?_
      refine lv_lconst (v := 0) hx hb dX0_translate_44 (by decide) ?_
      refine lj_i (j := 56) (z0 := if z_2 < 0 then (-1) else z_2.toInt32) (rest := [.ref h0]) hP hS (fun H locs hP hS z_4 ez_4 => ?_) (fun J56_46 => ?_)
      · skip
        refine va_put (D := (dC, dI)) (ci := 0) (v := .int z_4) (ty := .int) (C := RX0) (T := TX0) (N := 10) hx hb hts hwX tyX0 tyX0_ok nmX0 hown hK hP hD hS 0 rfl rfl 5 (by decide) (hts (.fieldLink RX0 14 "StageWalker" "latestPlace" "I") (by decide +kernel)) (fun _ h9 => h9) rfl (by decide +kernel) rfl rfl (Nat.le_of_ble_eq_true rfl) dX0_translate_56 (fun H locs hP hD hS => ?_)
        have hP : va_P (dC, dI) vwCl (wx h0 q_words k_words v_atp v_vsAtp v_hgatp v_rights z_4 v_latestSecond v_latestEntry o_1.2.1 o_1.2.2 m_words) H := hP
        have hD : va_D A (wx h0 q_words k_words v_atp v_vsAtp v_hgatp v_rights z_4 v_latestSecond v_latestEntry o_1.2.1 o_1.2.2 m_words) := hD
        refine lv_aload_n hx hb dX0_translate_59 rfl (lv_at hl 2 rfl) ?_
        refine lv_iload hx hb dX0_translate_60 (lv_at hl 0 rfl) ?_
        refine lj_i (j := 76) (z0 := if z_3 = 0 then 0 else (jlushr o_1.2.1 2).toInt32) (rest := [.ref h0]) hP hS (fun H locs hP hS z_5 ez_5 => ?_) (fun J76_62 => ?_)
        · skip
          refine va_put (D := (dC, dI)) (ci := 0) (v := .int z_5) (ty := .int) (C := RX0) (T := TX0) (N := 10) hx hb hts hwX tyX0 tyX0_ok nmX0 hown hK hP hD hS 0 rfl rfl 6 (by decide) (hts (.fieldLink RX0 36 "StageWalker" "latestSecond" "I") (by decide +kernel)) (fun _ h9 => h9) rfl (by decide +kernel) rfl rfl (Nat.le_of_ble_eq_true rfl) dX0_translate_76 (fun H locs hP hD hS => ?_)
          have hP : va_P (dC, dI) vwCl (wx h0 q_words k_words v_atp v_vsAtp v_hgatp v_rights z_4 z_5 v_latestEntry o_1.2.1 o_1.2.2 m_words) H := hP
          have hD : va_D A (wx h0 q_words k_words v_atp v_vsAtp v_hgatp v_rights z_4 z_5 v_latestEntry o_1.2.1 o_1.2.2 m_words) := hD
          refine lv_aload_n hx hb dX0_translate_79 rfl (lv_at hl 2 rfl) ?_
          refine lv_iload hx hb dX0_translate_80 (lv_at hl 0 rfl) ?_
          refine lj_i (j := 97) (z0 := if z_3 = 0 then 0 else if o_1.2.2 = 0 then 0 else 1) (rest := [.ref h0]) hP hS (fun H locs hP hS z_6 ez_6 => ?_) (fun J97_82 => ?_)
          · skip
            have oz_6 : z_6 = 0 ∨ z_6 = 1 := by rw [ez_6]; exact ite01 (Or.inl rfl) (ite01 (Or.inl rfl) (Or.inr rfl))
            refine va_put (D := (dC, dI)) (ci := 0) (v := .int z_6) (ty := .boolean) (C := RX0) (T := TX0) (N := 10) hx hb hts hwX tyX0 tyX0_ok nmX0 hown hK hP hD hS 0 rfl rfl 7 (by decide) (hts (.fieldLink RX0 39 "StageWalker" "latestEntry" "Z") (by decide +kernel)) (fun _ h9 => h9) rfl (by decide +kernel) (nb_z oz_6) (fb_z oz_6) (Nat.le_of_ble_eq_true rfl) dX0_translate_97 (fun H locs hP hD hS => ?_)
            have hP : va_P (dC, dI) vwCl (wx h0 q_words k_words v_atp v_vsAtp v_hgatp v_rights z_4 z_5 z_6 o_1.2.1 o_1.2.2 m_words) H := hP
            have hD : va_D A (wx h0 q_words k_words v_atp v_vsAtp v_hgatp v_rights z_4 z_5 z_6 o_1.2.1 o_1.2.2 m_words) := hD
            refine lv_lload hx hb dX0_translate_100 (lv_at hl 1 rfl) ?_
            refine lv_lconst (v := 0) hx hb dX0_translate_102 (by decide) ?_
            refine lq_ge (tgt := 114) hx hb dX0_translate_103 dX0_translate_104 (by decide) (fun c_104 => ?_) (fun c_104 => ?_)
            · skip
              refine lv_iconst (v := 0) hx hb dX0_translate_114 (by decide) ?_
              exact W.iret (v := 0) hx hb hr (fun t ht hW => ⟨⟨_, (0, z_4, z_5, z_6, o_1.2.1, o_1.2.2), rfl, ⟨rfl, by subst ez_6; subst ez_5; subst ez_4; subst ez_3; subst ez_2; subst eo_1; first | (rw [fx_translate, if_neg c_5, if_neg c_104]; done) | (simp only [fx_translate, if_neg c_5, if_neg c_104]; done) | (rw [fx_translate, if_neg c_5, if_neg c_104] <;> rfl)⟩, by rw [ht]; exact hP, va_K.moved hW.alike hK, hD⟩, hS.F ht⟩) hS.2.2 dX0_translate_115
            · skip
              refine lv_lload hx hb dX0_translate_107 (lv_at hl 1 rfl) ?_
              refine lv_lneg hx hb dX0_translate_109 ?_
              refine lv_l2i (v := (-z_2).toInt32) hx hb dX0_translate_110 rfl ?_
              refine lv_goto (tgt := 115) hx hb dX0_translate_111 (by decide) ?_
              exact W.iret (v := (-z_2).toInt32) hx hb hr (fun t ht hW => ⟨⟨_, ((-z_2).toInt32, z_4, z_5, z_6, o_1.2.1, o_1.2.2), rfl, ⟨rfl, by subst ez_6; subst ez_5; subst ez_4; subst ez_3; subst ez_2; subst eo_1; first | (rw [fx_translate, if_neg c_5, if_pos c_104]; done) | (simp only [fx_translate, if_neg c_5, if_pos c_104]; done) | (rw [fx_translate, if_neg c_5, if_pos c_104] <;> rfl)⟩, by rw [ht]; exact hP, va_K.moved hW.alike hK, hD⟩, hS.F ht⟩) hS.2.2 dX0_translate_115
          · skip
            refine lv_if_eq (tgt := 96) hx hb dX0_translate_82 (by decide) (fun c_82 => ?_) (fun c_82 => ?_)
            · skip
              refine lv_iconst (v := 0) hx hb dX0_translate_96 (by decide) ?_
              exact W.eq (by rw [if_pos c_82] <;> rfl) (J97_82 _ _ hP hS)
            · skip
              refine lv_aload_n hx hb dX0_translate_85 rfl (lv_at hl 2 rfl) ?_
              refine va_get (D := (dC, dI)) (ci := 0) (v := .int o_1.2.2) (C := RX0) (T := TX0) (N := 10) hx hb hts hwX hown hK hP 0 rfl rfl 9 (by decide) (hts (.fieldLink RX0 66 "StageWalker" "refusedEntry" "Z") (by decide +kernel)) (fun _ h9 => h9) rfl dX0_translate_86 ?_
              refine lv_if_eq (tgt := 96) hx hb dX0_translate_89 (by decide) (fun c_89 => ?_) (fun c_89 => ?_)
              · skip
                refine lv_iconst (v := 0) hx hb dX0_translate_96 (by decide) ?_
                exact W.eq (by rw [if_neg c_82, if_pos c_89] <;> rfl) (J97_82 _ _ hP hS)
              · skip
                refine lv_iconst (v := 1) hx hb dX0_translate_92 (by decide) ?_
                refine lv_goto (tgt := 97) hx hb dX0_translate_93 (by decide) ?_
                exact W.eq (by rw [if_neg c_82, if_neg c_89] <;> rfl) (J97_82 _ _ hP hS)
        · skip
          refine lv_if_eq (tgt := 75) hx hb dX0_translate_62 (by decide) (fun c_62 => ?_) (fun c_62 => ?_)
          · skip
            refine lv_iconst (v := 0) hx hb dX0_translate_75 (by decide) ?_
            exact W.eq (by rw [if_pos c_62] <;> rfl) (J76_62 _ _ hP hS)
          · skip
            refine lv_aload_n hx hb dX0_translate_65 rfl (lv_at hl 2 rfl) ?_
            refine va_get (D := (dC, dI)) (ci := 0) (v := .long o_1.2.1) (C := RX0) (T := TX0) (N := 10) hx hb hts hwX hown hK hP 0 rfl rfl 8 (by decide) (hts (.fieldLink RX0 62 "StageWalker" "refusedAddress" "J") (by decide +kernel)) (fun _ h9 => h9) rfl dX0_translate_66 ?_
            refine lv_iconst (v := 2) hx hb dX0_translate_69 (by decide) ?_
            refine lv_lushr (v := jlushr o_1.2.1 2) hx hb dX0_translate_70 rfl ?_
            refine lv_l2i (v := (jlushr o_1.2.1 2).toInt32) hx hb dX0_translate_71 rfl ?_
            refine lv_goto (tgt := 76) hx hb dX0_translate_72 (by decide) ?_
            exact W.eq (by rw [if_neg c_62] <;> rfl) (J76_62 _ _ hP hS)
      · skip
        refine lq_ge (tgt := 53) hx hb dX0_translate_45 dX0_translate_46 (by decide) (fun c_46 => ?_) (fun c_46 => ?_)
        · skip
          refine lv_lload hx hb dX0_translate_53 (lv_at hl 1 rfl) ?_
          refine lv_l2i (v := z_2.toInt32) hx hb dX0_translate_55 rfl ?_
          exact W.eq (by rw [if_neg c_46] <;> rfl) (J56_46 _ _ hP hS)
        · skip
          refine lv_iconst (v := -1) hx hb dX0_translate_49 (by decide) ?_
          refine lv_goto (tgt := 56) hx hb dX0_translate_50 (by decide) ?_
          exact W.eq (by rw [if_pos c_46] <;> rfl) (J56_46 _ _ hP hS)
    · skip
      refine lq_ne (tgt := 38) hx hb dX0_translate_30 dX0_translate_31 (by decide) (fun c_31 => ?_) (fun c_31 => ?_)
      · skip
        refine lv_iconst (v := 0) hx hb dX0_translate_38 (by decide) ?_
        exact W.eq (by rw [if_neg c_31] <;> rfl) (J39_31 _ _ hP hS)
      · skip
        refine lv_iconst (v := 1) hx hb dX0_translate_34 (by decide) ?_
        refine lv_goto (tgt := 39) hx hb dX0_translate_35 (by decide) ?_
        exact W.eq (by rw [if_pos c_31] <;> rfl) (J39_31 _ _ hP hS)
  · skip
    refine lv_iconst (v := -1) hx hb dX0_translate_8 (by decide) ?_
    exact W.iret (v := (-1)) hx hb hr (fun t ht hW => ⟨⟨_, ((-1), v_latestPlace, v_latestSecond, v_latestEntry, v_refusedAddress, v_refusedEntry), rfl, ⟨rfl, by first | (rw [fx_translate, if_pos c_5]; done) | (simp only [fx_translate, if_pos c_5]; done) | (rw [fx_translate, if_pos c_5] <;> rfl)⟩, by rw [ht]; exact hP, va_K.moved hW.alike hK, hD⟩, hS.F ht⟩) hS.2.2 dX0_translate_9
def fx_pl (v_atp : Int32) (v_vsAtp : Int32) (v_hgatp : Int32) (v_rights : Int32) (m_words : Nat → Int32) (a0 a1 : Int32) (fr : Int64) : Nat → Int32 → Int32 → Int64 → Int32 → Int32 × Int64 × Int32
  | 0, _, cn, ra, re => (cn, ra, re)
  | n + 1, i, cn, ra, re => if 4294967295 < (fr + i.toInt64 * 4096) then fx_pl v_atp v_vsAtp v_hgatp v_rights m_words a0 a1 fr n (i + 1) cn ra re else if (fx_lead v_atp v_vsAtp v_hgatp v_rights ra re m_words a0 a1 (fr + i.toInt64 * 4096)).1 < 0 then fx_pl v_atp v_vsAtp v_hgatp v_rights m_words a0 a1 fr n (i + 1) cn (fx_lead v_atp v_vsAtp v_hgatp v_rights ra re m_words a0 a1 (fr + i.toInt64 * 4096)).2.1 (fx_lead v_atp v_vsAtp v_hgatp v_rights ra re m_words a0 a1 (fr + i.toInt64 * 4096)).2.2 else fx_pl v_atp v_vsAtp v_hgatp v_rights m_words a0 a1 fr n (i + 1) (cn + 1) (fx_lead v_atp v_vsAtp v_hgatp v_rights ra re m_words a0 a1 (fr + i.toInt64 * 4096)).2.1 (fx_lead v_atp v_vsAtp v_hgatp v_rights ra re m_words a0 a1 (fr + i.toInt64 * 4096)).2.2
theorem fx_pl_0 (v_atp : Int32) (v_vsAtp : Int32) (v_hgatp : Int32) (v_rights : Int32) (m_words : Nat → Int32) (a0 a1 : Int32) (fr : Int64) (i cn : Int32) (ra : Int64) (re : Int32) : fx_pl v_atp v_vsAtp v_hgatp v_rights m_words a0 a1 fr 0 i cn ra re = (cn, ra, re) := rfl
theorem fx_pl_s (v_atp : Int32) (v_vsAtp : Int32) (v_hgatp : Int32) (v_rights : Int32) (m_words : Nat → Int32) (a0 a1 : Int32) (fr : Int64) (n : Nat) (i cn : Int32) (ra : Int64) (re : Int32) : fx_pl v_atp v_vsAtp v_hgatp v_rights m_words a0 a1 fr (n + 1) i cn ra re = (if 4294967295 < (fr + i.toInt64 * 4096) then fx_pl v_atp v_vsAtp v_hgatp v_rights m_words a0 a1 fr n (i + 1) cn ra re else if (fx_lead v_atp v_vsAtp v_hgatp v_rights ra re m_words a0 a1 (fr + i.toInt64 * 4096)).1 < 0 then fx_pl v_atp v_vsAtp v_hgatp v_rights m_words a0 a1 fr n (i + 1) cn (fx_lead v_atp v_vsAtp v_hgatp v_rights ra re m_words a0 a1 (fr + i.toInt64 * 4096)).2.1 (fx_lead v_atp v_vsAtp v_hgatp v_rights ra re m_words a0 a1 (fr + i.toInt64 * 4096)).2.2 else fx_pl v_atp v_vsAtp v_hgatp v_rights m_words a0 a1 fr n (i + 1) (cn + 1) (fx_lead v_atp v_vsAtp v_hgatp v_rights ra re m_words a0 a1 (fr + i.toInt64 * 4096)).2.1 (fx_lead v_atp v_vsAtp v_hgatp v_rights ra re m_words a0 a1 (fr + i.toInt64 * 4096)).2.2) := rfl
def fx_pages (v_atp : Int32) (v_vsAtp : Int32) (v_hgatp : Int32) (v_rights : Int32) (v_refusedAddress : Int64) (v_refusedEntry : Int32) (m_words : Nat → Int32) (a0 : Int32) (a1 : Int32) (a2 : Int32) (a3 : Int32) : Int32 × Int64 × Int32 := if a3 < 1 then ((-1), v_refusedAddress, v_refusedEntry) else if 1024 < a3 then ((-1), v_refusedAddress, v_refusedEntry) else if ((fx_isKnown a0 a1)) = 0 then ((-1), v_refusedAddress, v_refusedEntry) else fx_pl v_atp v_vsAtp v_hgatp v_rights m_words a0 a1 (a2.toInt64 &&& 4294967295) a3.toNatClampNeg 0 0 v_refusedAddress v_refusedEntry
set_option maxHeartbeats 4000000 in
set_option maxRecDepth 100000 in
theorem ctx_pages (l : Launch) (dC : Nat → ClassId) (dI : Nat → Nat → Nat) (h0 : Nat) (q_words : Nat) (k_words : ClassId) (sz : Nat) (v_atp : Int32) (v_vsAtp : Int32) (v_hgatp : Int32) (v_rights : Int32) (v_latestPlace : Int32) (v_latestSecond : Int32) (v_latestEntry : Int32) (v_refusedAddress : Int64) (v_refusedEntry : Int32) (m_words : Nat → Int32) (a0 : Int32) (a1 : Int32) (a2 : Int32) (a3 : Int32) : MWi l yX0_pages wsX0_pages ({ frames := 6, cells := 0, slots := 0, locals := 161 }) (dC, dI) vwCl [(k_words, .int)] [.ref h0, .int a0, .int a1, .int a2, .int a3] sz (wx h0 q_words k_words v_atp v_vsAtp v_hgatp v_rights v_latestPlace v_latestSecond v_latestEntry v_refusedAddress v_refusedEntry m_words) (fun u : Int32 × Int64 × Int32 => (wx h0 q_words k_words v_atp v_vsAtp v_hgatp v_rights v_latestPlace v_latestSecond v_latestEntry u.2.1 u.2.2 m_words)) (fun u : Int32 × Int64 × Int32 => u.1) (fx_pages v_atp v_vsAtp v_hgatp v_rights v_refusedAddress v_refusedEntry m_words a0 a1 a2 a3) := by
  refine Met.ofW (cc := cX0_pages) (maxL := 11) (ret := (some .int)) (by decide) rfl ?_
  intro p e s m args below meth c s₁ B hml hv
  obtain ⟨rfl, hsz, hP, hK, hD0⟩ := hv
  have hx := B.exec
  have hb := B.bytes
  have hr := B.returns
  have hts := atoms_spec (ws := wsX0_pages) B.pre
  have hown : s.vm.findClass RX0 = some m.cls := findClass_of_methodNamed B.named
  have hlocks := B.notSynchronized
  subst hsz
  have hD := hD0.self (sz := s.heap.size)
  generalize hAe : va_A (wx h0 q_words k_words v_atp v_vsAtp v_hgatp v_rights v_latestPlace v_latestSecond v_latestEntry v_refusedAddress v_refusedEntry m_words) s.heap.size = A at hD ⊢
  have hA : ∀ q : Nat, s.heap.size ≤ q → A q := fun q h => by rw [← hAe]; exact Or.inr h
  have hS : va_S A s.heap s.heap [] := va_S.rf
  have hP : va_P (dC, dI) vwCl (wx h0 q_words k_words v_atp v_vsAtp v_hgatp v_rights v_latestPlace v_latestSecond v_latestEntry v_refusedAddress v_refusedEntry m_words) s.heap := hP
  have hl := lv_entry ([.ref h0, .int a0, .int a1, .int a2, .int a3]) (n := 11) (Nat.le_of_ble_eq_true rfl)
  rw [lg_entry_eq]
  generalize (lg_sl ([.ref h0, .int a0, .int a1, .int a2, .int a3]) ++ List.replicate (11 - (lg_sl ([.ref h0, .int a0, .int a1, .int a2, .int a3])).length) Slot.unset).toArray = ls at hl ⊢
  have hl : lv_has ls 11 [(0, .ref h0), (1, .int a0), (2, .int a1), (3, .int a2), (4, .int a3)] := hl
  refine lv_iload hx hb dX0_pages_0 (lv_at hl 4 rfl) ?_
  refine lv_iconst (v := 1) hx hb dX0_pages_2 (by decide) ?_
  refine lv_icmp_lt (tgt := 22) hx hb dX0_pages_3 (by decide) (fun c_3 => ?_) (fun c_3 => ?_)
  · skip
    refine lv_iconst (v := -1) hx hb dX0_pages_22 (by decide) ?_
    exact W.iret (v := (-1)) hx hb hr (fun t ht hW => ⟨⟨_, ((-1), v_refusedAddress, v_refusedEntry), rfl, ⟨rfl, by first | (rw [fx_pages, if_pos c_3]; done) | (simp only [fx_pages, if_pos c_3]; done) | (rw [fx_pages, if_pos c_3] <;> rfl)⟩, by rw [ht]; exact hP, va_K.moved hW.alike hK, hD⟩, hS.F ht⟩) hS.2.2 dX0_pages_23
  · skip
    refine lv_iload hx hb dX0_pages_6 (lv_at hl 4 rfl) ?_
    refine lv_sipush (v := 1024) hx hb dX0_pages_8 (by decide) ?_
    refine lv_icmp_gt (tgt := 22) hx hb dX0_pages_11 (by decide) (fun c_11 => ?_) (fun c_11 => ?_)
    · skip
      refine lv_iconst (v := -1) hx hb dX0_pages_22 (by decide) ?_
      exact W.iret (v := (-1)) hx hb hr (fun t ht hW => ⟨⟨_, ((-1), v_refusedAddress, v_refusedEntry), rfl, ⟨rfl, by first | (rw [fx_pages, if_neg c_3, if_pos c_11]; done) | (simp only [fx_pages, if_neg c_3, if_pos c_11]; done) | (rw [fx_pages, if_neg c_3, if_pos c_11] <;> rfl)⟩, by rw [ht]; exact hP, va_K.moved hW.alike hK, hD⟩, hS.F ht⟩) hS.2.2 dX0_pages_23
    · skip
      refine lv_iload_n hx hb dX0_pages_14 rfl (lv_at hl 1 rfl) ?_
      refine lv_iload_n hx hb dX0_pages_15 rfl (lv_at hl 2 rfl) ?_
      refine cs_i (va_runS (As := [.int a0, .int a1]) (rest := []) ⟨hx, hb, hml, hown, hts⟩ (ctx_isKnown l s.heap.size a0 a1) (va_cwS 2 hts gX0_pages_X0_isKnown rfl rfl rfl (by decide +kernel) ⟨Nat.le_of_ble_eq_true rfl, Nat.le_of_ble_eq_true rfl⟩) ⟨fun a U g mk q => q, fun U hU hW => ⟨rfl, congrArg Array.size hU⟩⟩ rfl rfl hl.1 rfl (lv_room (Nat.le_of_ble_eq_true rfl)) dX0_pages_16 ⟨Nat.zero_le _, Nat.zero_le _⟩) hA hP hS (fun H locs hP hS => ?_)
      refine lv_if_ne (tgt := 24) hx hb dX0_pages_19 (by decide) (fun c_19 => ?_) (fun c_19 => ?_)
      · skip
        refine lv_iload_n hx hb dX0_pages_24 rfl (lv_at hl 3 rfl) ?_
        refine lv_i2l (v := a2.toInt64) hx hb dX0_pages_25 rfl ?_
        refine lv_ldc2 hx hb hown (hts (.constantLong RX0 52 4294967295) (by decide +kernel)) dX0_pages_26 ?_
        refine lv_land hx hb dX0_pages_29 ?_
        refine lv_topl (fun z_1 ez_1 => ?_)
        refine lv_lstore (lv' := [(5, .long z_1), (0, .ref h0), (1, .int a0), (2, .int a1), (3, .int a2), (4, .int a3)]) hx hb dX0_pages_30 hl (by decide) rfl (fun ls hl => ?_)
        refine lv_iconst (v := 0) hx hb dX0_pages_32 (by decide) ?_
        refine lv_istore (lv' := [(7, .int 0), (5, .long z_1), (0, .ref h0), (1, .int a0), (2, .int a1), (3, .int a2), (4, .int a3)]) hx hb dX0_pages_33 hl (by decide) rfl (fun ls hl => ?_)
        refine lv_iconst (v := 0) hx hb dX0_pages_35 (by decide) ?_
        refine lv_istore (lv' := [(8, .int 0), (7, .int 0), (5, .long z_1), (0, .ref h0), (1, .int a0), (2, .int a1), (3, .int a2), (4, .int a3)]) hx hb dX0_pages_36 hl (by decide) rfl (fun ls hl => ?_)
        obtain ⟨N, hN1, hN2, eN⟩ := pg_N c_3 c_11
        refine lw_loop (σ := (Int32 × Int32 × Int64 × Int32) × Heap × List Loc × Array Slot) (fun x => x.2.1) (fun x => x.2.2.1) (fun x => x.2.2.2) (fun n x => ∃ i : Nat, i + n = N ∧ x.1.1 = nI i ∧ fx_pl v_atp v_vsAtp v_hgatp v_rights m_words a0 a1 z_1 n x.1.1 x.1.2.1 x.1.2.2.1 x.1.2.2.2 = fx_pl v_atp v_vsAtp v_hgatp v_rights m_words a0 a1 z_1 N 0 0 v_refusedAddress v_refusedEntry ∧ va_P (dC, dI) vwCl (wx h0 q_words k_words v_atp v_vsAtp v_hgatp v_rights v_latestPlace v_latestSecond v_latestEntry x.1.2.2.1 x.1.2.2.2 m_words) x.2.1 ∧ va_D A (wx h0 q_words k_words v_atp v_vsAtp v_hgatp v_rights v_latestPlace v_latestSecond v_latestEntry x.1.2.2.1 x.1.2.2.2 m_words) ∧ va_S A s.heap x.2.1 x.2.2.1 ∧ lv_has x.2.2.2 11 [(8, .int x.1.1), (7, .int x.1.2.1), (5, .long z_1), (0, .ref h0), (1, .int a0), (2, .int a1), (3, .int a2), (4, .int a3)]) ?_ N ((0, 0, v_refusedAddress, v_refusedEntry), H, locs, ls) ⟨0, Nat.zero_add N, nI_0.symm, rfl, hP, hD, hS, hl⟩
        intro n x hI ih
        obtain ⟨⟨xi, xc, xa, xe⟩, H, locs, ls⟩ := x
        obtain ⟨i, hin, exi, hfp, hP, hD, hS, hl⟩ := hI
        have exi : xi = nI i := exi
        have hfp : fx_pl v_atp v_vsAtp v_hgatp v_rights m_words a0 a1 z_1 n xi xc xa xe = fx_pl v_atp v_vsAtp v_hgatp v_rights m_words a0 a1 z_1 N 0 0 v_refusedAddress v_refusedEntry := hfp
        have hP : va_P (dC, dI) vwCl (wx h0 q_words k_words v_atp v_vsAtp v_hgatp v_rights v_latestPlace v_latestSecond v_latestEntry xa xe m_words) H := hP
        have hD : va_D A (wx h0 q_words k_words v_atp v_vsAtp v_hgatp v_rights v_latestPlace v_latestSecond v_latestEntry xa xe m_words) := hD
        have hS : va_S A s.heap H locs := hS
        have hl : lv_has ls 11 [(8, .int xi), (7, .int xc), (5, .long z_1), (0, .ref h0), (1, .int a0), (2, .int a1), (3, .int a2), (4, .int a3)] := hl
        refine lv_iload hx hb dX0_pages_38 (lv_at hl 0 rfl) ?_
        refine lv_iload hx hb dX0_pages_40 (lv_at hl 7 rfl) ?_
        refine lv_icmp_ge (tgt := 88) hx hb dX0_pages_42 (by decide) (fun c_42 => ?_) (fun c_42 => ?_)
        · have hi : i = N := by
            have := (nI_leI (a := N) (b := i) (by omega) (by omega)).mp (by rw [← eN, ← exi]; exact c_42)
            omega
          have hn : n = 0 := by omega
          subst hn
          refine lv_iload hx hb dX0_pages_88 (lv_at hl 1 rfl) ?_
          exact W.iret (v := xc) hx hb hr (fun t ht hW => ⟨⟨_, (xc, xa, xe), rfl, ⟨rfl, by rw [fx_pages, if_neg c_3, if_neg c_11, if_neg c_19, show a3.toNatClampNeg = N from by rw [eN]; exact nI_clamp (by omega), ← ez_1]; exact hfp⟩, by rw [ht]; exact hP, va_K.moved hW.alike hK, hD⟩, hS.F ht⟩) hS.2.2 dX0_pages_90
        · have hlt : i < N := by
            rcases Nat.lt_or_ge i N with q | q
            · exact q
            · exact absurd (by rw [eN, exi]; exact nI_le q (by omega)) c_42
          obtain ⟨n', rfl⟩ : ∃ n', n = n' + 1 := ⟨n - 1, by omega⟩
          refine lv_lload hx hb dX0_pages_45 (lv_at hl 2 rfl) ?_
          refine lv_iload hx hb dX0_pages_47 (lv_at hl 0 rfl) ?_
          refine lv_i2l (v := xi.toInt64) hx hb dX0_pages_49 rfl ?_
          refine lv_ldc2 hx hb hown (hts (.constantLong RX0 69 4096) (by decide +kernel)) dX0_pages_50 ?_
          refine lv_lmul hx hb dX0_pages_53 ?_
          refine lv_ladd hx hb dX0_pages_54 ?_
          refine lv_topl (fun z_2 ez_2 => ?_)
          refine lv_lstore (lv' := [(9, .long z_2), (8, .int xi), (7, .int xc), (5, .long z_1), (0, .ref h0), (1, .int a0), (2, .int a1), (3, .int a2), (4, .int a3)]) hx hb dX0_pages_55 hl (by decide) rfl (fun ls hl => ?_)
          refine lv_lload hx hb dX0_pages_57 (lv_at hl 0 rfl) ?_
          refine lv_ldc2 hx hb hown (hts (.constantLong RX0 52 4294967295) (by decide +kernel)) dX0_pages_59 ?_
          refine lq_gt (tgt := 82) hx hb dX0_pages_62 dX0_pages_63 (by decide) (fun c_63 => ?_) (fun c_63 => ?_)
          · skip
            obtain ⟨z_3, ez_3⟩ : ∃ y : Int32, y = xi + 1 := ⟨_, rfl⟩
            refine lv_iinc (v := z_3) (lv' := [(8, .int z_3), (9, .long z_2), (7, .int xc), (5, .long z_1), (0, .ref h0), (1, .int a0), (2, .int a1), (3, .int a2), (4, .int a3)]) hx hb dX0_pages_82 hl (k := 1) rfl (by rw [ez_3]; rfl) (by decide) rfl (fun ls hl => ?_)
            refine lv_goto (tgt := 38) hx hb dX0_pages_85 (by decide) ?_
            exact ih n' ((z_3, xc, xa, xe), H, locs, ls) (Nat.lt_succ_self n') ⟨i + 1, by omega, by rw [ez_3, exi]; exact nI_1 i, by rw [← hfp]; subst ez_3; subst ez_2; rw [fx_pl_s, if_pos c_63] <;> rfl, hP, hD, hS, lv_sub hl [0, 2, 3, 4, 5, 6, 7, 8] rfl⟩
          · skip
            refine lv_aload_n hx hb dX0_pages_66 rfl (lv_at hl 4 rfl) ?_
            refine lv_iload_n hx hb dX0_pages_67 rfl (lv_at hl 5 rfl) ?_
            refine lv_iload_n hx hb dX0_pages_68 rfl (lv_at hl 6 rfl) ?_
            refine lv_lload hx hb dX0_pages_69 (lv_at hl 0 rfl) ?_
            refine cw_l (va_runV (As := [.int a0, .int a1, .long z_2]) (rest := []) ⟨hx, hb, hml, hown, hts⟩ (ctx_lead l dC dI h0 q_words k_words H.size v_atp v_vsAtp v_hgatp v_rights v_latestPlace v_latestSecond v_latestEntry xa xe m_words a0 a1 z_2) (cwV 3 hts gX0_pages_X0_lead rfl rfl rfl (by decide +kernel) ⟨Nat.le_of_ble_eq_true rfl, Nat.le_of_ble_eq_true rfl⟩) ⟨fun a U g mk q => ⟨q.1, q.2.1, q.2.2.1, va_K.moved (u := U) (U := U.calling g mk a) (Vm.Alike.refl U.vm) q.2.2.2.1, q.2.2.2.2⟩, va_recv hK hP (ci := 0) (q0 := 0) rfl rfl, fun U hU hW => ⟨rfl, by rw [hU], by rw [hU]; exact hP, va_K.moved hW.alike hK, hD.weaken (fun _ _ _ _ => trivial)⟩⟩ rfl rfl hl.1 rfl (lv_room (Nat.le_of_ble_eq_true rfl)) dX0_pages_71 ⟨Nat.zero_le _, Nat.zero_le _⟩) hA hD hP hS (fun o_4 H locs eo_4 hP hD hS => ?_)
            have hP : va_P (dC, dI) vwCl (wx h0 q_words k_words v_atp v_vsAtp v_hgatp v_rights v_latestPlace v_latestSecond v_latestEntry o_4.2.1 o_4.2.2 m_words) H := hP
            have hD : va_D A (wx h0 q_words k_words v_atp v_vsAtp v_hgatp v_rights v_latestPlace v_latestSecond v_latestEntry o_4.2.1 o_4.2.2 m_words) := hD
            refine lv_lconst (v := 0) hx hb dX0_pages_74 (by decide) ?_
            refine lq_lt (tgt := 82) hx hb dX0_pages_75 dX0_pages_76 (by decide) (fun c_76 => ?_) (fun c_76 => ?_)
            · skip
              obtain ⟨z_5, ez_5⟩ : ∃ y : Int32, y = xi + 1 := ⟨_, rfl⟩
              refine lv_iinc (v := z_5) (lv' := [(8, .int z_5), (9, .long z_2), (7, .int xc), (5, .long z_1), (0, .ref h0), (1, .int a0), (2, .int a1), (3, .int a2), (4, .int a3)]) hx hb dX0_pages_82 hl (k := 1) rfl (by rw [ez_5]; rfl) (by decide) rfl (fun ls hl => ?_)
              refine lv_goto (tgt := 38) hx hb dX0_pages_85 (by decide) ?_
              exact ih n' ((z_5, xc, o_4.2.1, o_4.2.2), H, locs, ls) (Nat.lt_succ_self n') ⟨i + 1, by omega, by rw [ez_5, exi]; exact nI_1 i, by rw [← hfp]; subst ez_5; subst eo_4; subst ez_2; rw [fx_pl_s, if_neg c_63, if_pos c_76] <;> rfl, hP, hD, hS, lv_sub hl [0, 2, 3, 4, 5, 6, 7, 8] rfl⟩
            · skip
              obtain ⟨z_6, ez_6⟩ : ∃ y : Int32, y = xc + 1 := ⟨_, rfl⟩
              refine lv_iinc (v := z_6) (lv' := [(7, .int z_6), (9, .long z_2), (8, .int xi), (5, .long z_1), (0, .ref h0), (1, .int a0), (2, .int a1), (3, .int a2), (4, .int a3)]) hx hb dX0_pages_79 hl (k := 2) rfl (by rw [ez_6]; rfl) (by decide) rfl (fun ls hl => ?_)
              obtain ⟨z_7, ez_7⟩ : ∃ y : Int32, y = xi + 1 := ⟨_, rfl⟩
              refine lv_iinc (v := z_7) (lv' := [(8, .int z_7), (7, .int z_6), (9, .long z_2), (5, .long z_1), (0, .ref h0), (1, .int a0), (2, .int a1), (3, .int a2), (4, .int a3)]) hx hb dX0_pages_82 hl (k := 2) rfl (by rw [ez_7]; rfl) (by decide) rfl (fun ls hl => ?_)
              refine lv_goto (tgt := 38) hx hb dX0_pages_85 (by decide) ?_
              exact ih n' ((z_7, z_6, o_4.2.1, o_4.2.2), H, locs, ls) (Nat.lt_succ_self n') ⟨i + 1, by omega, by rw [ez_7, exi]; exact nI_1 i, by rw [← hfp]; subst ez_7; subst ez_6; subst eo_4; subst ez_2; rw [fx_pl_s, if_neg c_63, if_neg c_76] <;> rfl, hP, hD, hS, lv_sub hl [0, 1, 3, 4, 5, 6, 7, 8] rfl⟩
      · skip
        refine lv_iconst (v := -1) hx hb dX0_pages_22 (by decide) ?_
        exact W.iret (v := (-1)) hx hb hr (fun t ht hW => ⟨⟨_, ((-1), v_refusedAddress, v_refusedEntry), rfl, ⟨rfl, by first | (rw [fx_pages, if_neg c_3, if_neg c_11, if_pos c_19]; done) | (simp only [fx_pages, if_neg c_3, if_neg c_11, if_pos c_19]; done) | (rw [fx_pages, if_neg c_3, if_neg c_11, if_pos c_19] <;> rfl)⟩, by rw [ht]; exact hP, va_K.moved hW.alike hK, hD⟩, hS.F ht⟩) hS.2.2 dX0_pages_23
end
section
theorem vc_zero (cA : ClassId) (N : Nat) : vp_cell cA (N, .inl (fun _ => 0)) = arrV cA N (fun _ => defaultValue .int) := rfl
/-! where poke and word lay their hands -/
theorem wm_of {a : Int32} (h : ¬ fx_isWordOfMemory a = 0) : ∃ j : Nat, j < 262144 ∧ a = nI j ∧ j % 4 = 0 := by
  unfold fx_isWordOfMemory at h
  split at h
  · exact absurd rfl h
  · rename_i h0
    split at h
    · exact absurd rfl h
    · rename_i h1
      obtain ⟨j, hj, rfl⟩ := ii_of (n := 262144) rfl (by decide) h0 h1
      split at h
      · rename_i h2
        refine ⟨j, hj, rfl, ?_⟩
        rw [i4, pk_rem (by omega) (by decide) (by decide)] at h2
        exact (nI_eq (a := j % 4) (b := 0) (by omega) (by decide)).mp h2
      · exact absurd rfl h
theorem vi_word {a : Int32} (h : ¬ fx_isWordOfMemory a = 0) : vp_in (a / 4) 65536 := by
  obtain ⟨j, hj, rfl, -⟩ := wm_of h
  rw [i4, pk_div (by omega) (by decide) (by decide)]
  exact vp_in_nI (by omega) (by decide)
theorem pk_of {a z : Int32} (ez : z = a / 4) (h : ¬ fx_isWordOfMemory a = 0) (h2 : a ≤ 262124) : ∃ j : Nat, j ≤ 65531 ∧ z = nI j ∧ a = nI (4 * j) := by
  obtain ⟨j, hj, rfl, hm⟩ := wm_of h
  have : j ≤ 262124 := (nI_leI (a := j) (b := 262124) (by omega) (by decide)).mp h2
  refine ⟨j / 4, by omega, ?_, by congr 1; omega⟩
  rw [ez, i4, pk_div (by omega) (by decide) (by decide)]
theorem vi_poke0 {a z : Int32} (ez : z = a / 4) (h : ¬ fx_isWordOfMemory a = 0) (h2 : a ≤ 262124) : vp_in z 65536 := by
  obtain ⟨j, hj, rfl, -⟩ := pk_of ez h h2
  exact vp_in_nI (by omega) (by decide)
theorem vi_poke1 {a z : Int32} (ez : z = a / 4) (h : ¬ fx_isWordOfMemory a = 0) (h2 : a ≤ 262124) : vp_in (z + 1) 65536 := by
  obtain ⟨j, hj, rfl, -⟩ := pk_of ez h h2
  rw [show (1 : Int32) = nI 1 from rfl, nI_add]
  exact vp_in_nI (by omega) (by decide)
theorem vi_poke2 {a z : Int32} (ez : z = a / 4) (h : ¬ fx_isWordOfMemory a = 0) (h2 : a ≤ 262124) : vp_in (z + 2) 65536 := by
  obtain ⟨j, hj, rfl, -⟩ := pk_of ez h h2
  rw [show (2 : Int32) = nI 2 from rfl, nI_add]
  exact vp_in_nI (by omega) (by decide)
theorem vi_poke3 {a z : Int32} (ez : z = a / 4) (h : ¬ fx_isWordOfMemory a = 0) (h2 : a ≤ 262124) : vp_in (z + 3) 65536 := by
  obtain ⟨j, hj, rfl, -⟩ := pk_of ez h h2
  rw [show (3 : Int32) = nI 3 from rfl, nI_add]
  exact vp_in_nI (by omega) (by decide)
theorem vi_poke4 {a z : Int32} (ez : z = a / 4) (h : ¬ fx_isWordOfMemory a = 0) (h2 : a ≤ 262124) : vp_in (z + 4) 65536 := by
  obtain ⟨j, hj, rfl, -⟩ := pk_of ez h h2
  rw [show (4 : Int32) = nI 4 from rfl, nI_add]
  exact vp_in_nI (by omega) (by decide)
def fx_word (m_words : Nat → Int32) (a0 : Int32) : Int32 := if ((fx_isWordOfMemory a0)) = 0 then 0 else m_words (a0 / 4).toNatClampNeg
set_option maxHeartbeats 4000000 in
set_option maxRecDepth 100000 in
theorem ctx_word (l : Launch) (dC : Nat → ClassId) (dI : Nat → Nat → Nat) (h0 : Nat) (q_words : Nat) (k_words : ClassId) (sz : Nat) (v_atp : Int32) (v_vsAtp : Int32) (v_hgatp : Int32) (v_rights : Int32) (v_latestPlace : Int32) (v_latestSecond : Int32) (v_latestEntry : Int32) (v_refusedAddress : Int64) (v_refusedEntry : Int32) (m_words : Nat → Int32) (a0 : Int32) : MRi l yX0_word wsX0_word ({ frames := 1, cells := 0, slots := 0, locals := 20 }) (dC, dI) vwCl [(k_words, .int)] [.ref h0, .int a0] sz (wx h0 q_words k_words v_atp v_vsAtp v_hgatp v_rights v_latestPlace v_latestSecond v_latestEntry v_refusedAddress v_refusedEntry m_words) (fx_word m_words a0) := by
  refine Met.ofW (cc := cX0_word) (maxL := 2) (ret := (some .int)) (by decide) rfl ?_
  intro p e s m args below meth c s₁ B hml hv
  obtain ⟨rfl, hsz, hP, hK, hD0⟩ := hv
  have hx := B.exec
  have hb := B.bytes
  have hr := B.returns
  have hts := atoms_spec (ws := wsX0_word) B.pre
  have hown : s.vm.findClass RX0 = some m.cls := findClass_of_methodNamed B.named
  have hlocks := B.notSynchronized
  subst hsz
  have hwX : ∀ w ∈ u_ws RX0 TX0 10, w ∈ wsX0_word := by decide +kernel
  have hD := hD0.self (sz := s.heap.size)
  generalize hAe : va_A (wx h0 q_words k_words v_atp v_vsAtp v_hgatp v_rights v_latestPlace v_latestSecond v_latestEntry v_refusedAddress v_refusedEntry m_words) s.heap.size = A at hD ⊢
  have hA : ∀ q : Nat, s.heap.size ≤ q → A q := fun q h => by rw [← hAe]; exact Or.inr h
  have hS : va_S A s.heap s.heap [] := va_S.rf
  have hP : va_P (dC, dI) vwCl (wx h0 q_words k_words v_atp v_vsAtp v_hgatp v_rights v_latestPlace v_latestSecond v_latestEntry v_refusedAddress v_refusedEntry m_words) s.heap := hP
  have hl := lv_entry ([.ref h0, .int a0]) (n := 2) (Nat.le_of_ble_eq_true rfl)
  rw [lg_entry_eq]
  generalize (lg_sl ([.ref h0, .int a0]) ++ List.replicate (2 - (lg_sl ([.ref h0, .int a0])).length) Slot.unset).toArray = ls at hl ⊢
  have hl : lv_has ls 2 [(0, .ref h0), (1, .int a0)] := hl
  refine lv_iload_n hx hb dX0_word_0 rfl (lv_at hl 1 rfl) ?_
  refine cs_i (va_runS (As := [.int a0]) (rest := []) ⟨hx, hb, hml, hown, hts⟩ (ctx_isWordOfMemory l s.heap.size a0) (va_cwS 1 hts gX0_word_X0_isWordOfMemory rfl rfl rfl (by decide +kernel) ⟨Nat.le_of_ble_eq_true rfl, Nat.le_of_ble_eq_true rfl⟩) ⟨fun a U g mk q => q, fun U hU hW => ⟨rfl, congrArg Array.size hU⟩⟩ rfl rfl hl.1 rfl (lv_room (Nat.le_of_ble_eq_true rfl)) dX0_word_1 ⟨Nat.zero_le _, Nat.zero_le _⟩) hA hP hS (fun H locs hP hS => ?_)
  refine lv_if_eq (tgt := 18) hx hb dX0_word_4 (by decide) (fun c_4 => ?_) (fun c_4 => ?_)
  · skip
    refine lv_iconst (v := 0) hx hb dX0_word_18 (by decide) ?_
    exact W.iret (v := 0) hx hb hr (fun t ht hW => ⟨⟨_, (), rfl, by first | (rw [fx_word, if_pos c_4]; done) | (simp only [fx_word, if_pos c_4]; done) | (rw [fx_word, if_pos c_4] <;> rfl), by rw [ht]; exact hP, va_K.moved hW.alike hK, hD⟩, hS.F ht⟩) hS.2.2 dX0_word_19
  · skip
    refine lv_aload_n hx hb dX0_word_7 rfl (lv_at hl 0 rfl) ?_
    refine va_get (D := (dC, dI)) (ci := 0) (v := .ref q_words) (C := RX0) (T := TX0) (N := 10) hx hb hts hwX hown hK hP 0 rfl rfl 0 (by decide) (hts (.fieldLink RX0 10 "StageWalker" "words" "[I") (by decide +kernel)) (fun _ h9 => h9) rfl dX0_word_8 ?_
    refine lv_iload_n hx hb dX0_word_11 rfl (lv_at hl 1 rfl) ?_
    refine lv_iconst (v := 4) hx hb dX0_word_12 (by decide) ?_
    refine lv_idiv hx hb dX0_word_13 (by decide) ?_
    refine va_iald (cA := k_words) (f := m_words) hx hb hK hP 1 0 rfl rfl (i := a0 / 4) (vi_word c_4) dX0_word_14 ?_
    refine lv_goto (tgt := 19) hx hb dX0_word_15 (by decide) ?_
    exact W.iret (v := m_words (a0 / 4).toNatClampNeg) hx hb hr (fun t ht hW => ⟨⟨_, (), rfl, by first | (rw [fx_word, if_neg c_4]; done) | (simp only [fx_word, if_neg c_4]; done) | (rw [fx_word, if_neg c_4] <;> rfl), by rw [ht]; exact hP, va_K.moved hW.alike hK, hD⟩, hS.F ht⟩) hS.2.2 dX0_word_19
def fx_poke (m_words : Nat → Int32) (a0 : Int32) (a1 : Int32) (a2 : Int32) (a3 : Int32) (a4 : Int32) (a5 : Int32) : Int32 × (Nat → Int32) := if ((fx_isWordOfMemory a0)) = 0 then ((-1), m_words) else if a0 ≤ 262124 then (a0 + 20, upd (upd (upd (upd (upd m_words (a0 / 4).toNatClampNeg a1) ((a0 / 4) + 1).toNatClampNeg a2) ((a0 / 4) + 2).toNatClampNeg a3) ((a0 / 4) + 3).toNatClampNeg a4) ((a0 / 4) + 4).toNatClampNeg a5) else ((-1), m_words)
set_option maxHeartbeats 4000000 in
set_option maxRecDepth 100000 in
theorem ctx_poke (l : Launch) (dC : Nat → ClassId) (dI : Nat → Nat → Nat) (h0 : Nat) (q_words : Nat) (k_words : ClassId) (sz : Nat) (v_atp : Int32) (v_vsAtp : Int32) (v_hgatp : Int32) (v_rights : Int32) (v_latestPlace : Int32) (v_latestSecond : Int32) (v_latestEntry : Int32) (v_refusedAddress : Int64) (v_refusedEntry : Int32) (m_words : Nat → Int32) (a0 : Int32) (a1 : Int32) (a2 : Int32) (a3 : Int32) (a4 : Int32) (a5 : Int32) : MWi l yX0_poke wsX0_poke ({ frames := 1, cells := 0, slots := 0, locals := 20 }) (dC, dI) vwCl [(k_words, .int)] [.ref h0, .int a0, .int a1, .int a2, .int a3, .int a4, .int a5] sz (wx h0 q_words k_words v_atp v_vsAtp v_hgatp v_rights v_latestPlace v_latestSecond v_latestEntry v_refusedAddress v_refusedEntry m_words) (fun u : Int32 × (Nat → Int32) => (wx h0 q_words k_words v_atp v_vsAtp v_hgatp v_rights v_latestPlace v_latestSecond v_latestEntry v_refusedAddress v_refusedEntry u.2)) (fun u : Int32 × (Nat → Int32) => u.1) (fx_poke m_words a0 a1 a2 a3 a4 a5) := by
  refine Met.ofW (cc := cX0_poke) (maxL := 8) (ret := (some .int)) (by decide) rfl ?_
  intro p e s m args below meth c s₁ B hml hv
  obtain ⟨rfl, hsz, hP, hK, hD0⟩ := hv
  have hx := B.exec
  have hb := B.bytes
  have hr := B.returns
  have hts := atoms_spec (ws := wsX0_poke) B.pre
  have hown : s.vm.findClass RX0 = some m.cls := findClass_of_methodNamed B.named
  have hlocks := B.notSynchronized
  subst hsz
  have hwX : ∀ w ∈ u_ws RX0 TX0 10, w ∈ wsX0_poke := by decide +kernel
  have hD := hD0.self (sz := s.heap.size)
  generalize hAe : va_A (wx h0 q_words k_words v_atp v_vsAtp v_hgatp v_rights v_latestPlace v_latestSecond v_latestEntry v_refusedAddress v_refusedEntry m_words) s.heap.size = A at hD ⊢
  have hA : ∀ q : Nat, s.heap.size ≤ q → A q := fun q h => by rw [← hAe]; exact Or.inr h
  have hS : va_S A s.heap s.heap [] := va_S.rf
  have hP : va_P (dC, dI) vwCl (wx h0 q_words k_words v_atp v_vsAtp v_hgatp v_rights v_latestPlace v_latestSecond v_latestEntry v_refusedAddress v_refusedEntry m_words) s.heap := hP
  have hl := lv_entry ([.ref h0, .int a0, .int a1, .int a2, .int a3, .int a4, .int a5]) (n := 8) (Nat.le_of_ble_eq_true rfl)
  rw [lg_entry_eq]
  generalize (lg_sl ([.ref h0, .int a0, .int a1, .int a2, .int a3, .int a4, .int a5]) ++ List.replicate (8 - (lg_sl ([.ref h0, .int a0, .int a1, .int a2, .int a3, .int a4, .int a5])).length) Slot.unset).toArray = ls at hl ⊢
  have hl : lv_has ls 8 [(0, .ref h0), (1, .int a0), (2, .int a1), (3, .int a2), (4, .int a3), (5, .int a4), (6, .int a5)] := hl
  refine lv_iload_n hx hb dX0_poke_0 rfl (lv_at hl 1 rfl) ?_
  refine cs_i (va_runS (As := [.int a0]) (rest := []) ⟨hx, hb, hml, hown, hts⟩ (ctx_isWordOfMemory l s.heap.size a0) (va_cwS 1 hts gX0_poke_X0_isWordOfMemory rfl rfl rfl (by decide +kernel) ⟨Nat.le_of_ble_eq_true rfl, Nat.le_of_ble_eq_true rfl⟩) ⟨fun a U g mk q => q, fun U hU hW => ⟨rfl, congrArg Array.size hU⟩⟩ rfl rfl hl.1 rfl (lv_room (Nat.le_of_ble_eq_true rfl)) dX0_poke_1 ⟨Nat.zero_le _, Nat.zero_le _⟩) hA hP hS (fun H locs hP hS => ?_)
  refine lv_if_eq (tgt := 13) hx hb dX0_poke_4 (by decide) (fun c_4 => ?_) (fun c_4 => ?_)
  · skip
    refine lv_iconst (v := -1) hx hb dX0_poke_13 (by decide) ?_
    exact W.iret (v := (-1)) hx hb hr (fun t ht hW => ⟨⟨_, ((-1), m_words), rfl, ⟨rfl, by first | (rw [fx_poke, if_pos c_4]; done) | (simp only [fx_poke, if_pos c_4]; done) | (rw [fx_poke, if_pos c_4] <;> rfl)⟩, by rw [ht]; exact hP, va_K.moved hW.alike hK, hD⟩, hS.F ht⟩) hS.2.2 dX0_poke_14
  · skip
    refine lv_iload_n hx hb dX0_poke_7 rfl (lv_at hl 1 rfl) ?_
    refine lv_ldc hx hb hown (hts (.constant RX0 47 262124) (by decide +kernel)) dX0_poke_8 ?_
    refine lv_icmp_le (tgt := 15) hx hb dX0_poke_10 (by decide) (fun c_10 => ?_) (fun c_10 => ?_)
    · skip
      refine lv_iload_n hx hb dX0_poke_15 rfl (lv_at hl 1 rfl) ?_
      refine lv_iconst (v := 4) hx hb dX0_poke_16 (by decide) ?_
      refine lv_idiv hx hb dX0_poke_17 (by decide) ?_
      refine lv_topi (fun z_1 ez_1 => ?_)
      refine lv_istore (lv' := [(7, .int z_1), (0, .ref h0), (1, .int a0), (2, .int a1), (3, .int a2), (4, .int a3), (5, .int a4), (6, .int a5)]) hx hb dX0_poke_18 hl (by decide) rfl (fun ls hl => ?_)
      refine lv_aload_n hx hb dX0_poke_20 rfl (lv_at hl 1 rfl) ?_
      refine va_get (D := (dC, dI)) (ci := 0) (v := .ref q_words) (C := RX0) (T := TX0) (N := 10) hx hb hts hwX hown hK hP 0 rfl rfl 0 (by decide) (hts (.fieldLink RX0 10 "StageWalker" "words" "[I") (by decide +kernel)) (fun _ h9 => h9) rfl dX0_poke_21 ?_
      refine lv_iload hx hb dX0_poke_24 (lv_at hl 0 rfl) ?_
      refine lv_iload_n hx hb dX0_poke_26 rfl (lv_at hl 3 rfl) ?_
      refine va_iast (cA := k_words) (f := m_words) hx hb hK hP hD hS 1 0 rfl rfl (i := z_1) (x := a1) (vi_poke0 ez_1 c_4 c_10) dX0_poke_27 (fun H locs hP hD hS => ?_)
      have hP : va_P (dC, dI) vwCl (wx h0 q_words k_words v_atp v_vsAtp v_hgatp v_rights v_latestPlace v_latestSecond v_latestEntry v_refusedAddress v_refusedEntry (upd m_words z_1.toNatClampNeg a1)) H := hP
      have hD : va_D A (wx h0 q_words k_words v_atp v_vsAtp v_hgatp v_rights v_latestPlace v_latestSecond v_latestEntry v_refusedAddress v_refusedEntry (upd m_words z_1.toNatClampNeg a1)) := hD
      refine lv_aload_n hx hb dX0_poke_28 rfl (lv_at hl 1 rfl) ?_
      refine va_get (D := (dC, dI)) (ci := 0) (v := .ref q_words) (C := RX0) (T := TX0) (N := 10) hx hb hts hwX hown hK hP 0 rfl rfl 0 (by decide) (hts (.fieldLink RX0 10 "StageWalker" "words" "[I") (by decide +kernel)) (fun _ h9 => h9) rfl dX0_poke_29 ?_
      refine lv_iload hx hb dX0_poke_32 (lv_at hl 0 rfl) ?_
      refine lv_iconst (v := 1) hx hb dX0_poke_34 (by decide) ?_
      refine lv_iadd hx hb dX0_poke_35 ?_
      refine lv_iload_n hx hb dX0_poke_36 rfl (lv_at hl 4 rfl) ?_
      refine va_iast (cA := k_words) (f := upd m_words z_1.toNatClampNeg a1) hx hb hK hP hD hS 1 0 rfl rfl (i := z_1 + 1) (x := a2) (vi_poke1 ez_1 c_4 c_10) dX0_poke_37 (fun H locs hP hD hS => ?_)
      have hP : va_P (dC, dI) vwCl (wx h0 q_words k_words v_atp v_vsAtp v_hgatp v_rights v_latestPlace v_latestSecond v_latestEntry v_refusedAddress v_refusedEntry (upd (upd m_words z_1.toNatClampNeg a1) (z_1 + 1).toNatClampNeg a2)) H := hP
      have hD : va_D A (wx h0 q_words k_words v_atp v_vsAtp v_hgatp v_rights v_latestPlace v_latestSecond v_latestEntry v_refusedAddress v_refusedEntry (upd (upd m_words z_1.toNatClampNeg a1) (z_1 + 1).toNatClampNeg a2)) := hD
      refine lv_aload_n hx hb dX0_poke_38 rfl (lv_at hl 1 rfl) ?_
      refine va_get (D := (dC, dI)) (ci := 0) (v := .ref q_words) (C := RX0) (T := TX0) (N := 10) hx hb hts hwX hown hK hP 0 rfl rfl 0 (by decide) (hts (.fieldLink RX0 10 "StageWalker" "words" "[I") (by decide +kernel)) (fun _ h9 => h9) rfl dX0_poke_39 ?_
      refine lv_iload hx hb dX0_poke_42 (lv_at hl 0 rfl) ?_
      refine lv_iconst (v := 2) hx hb dX0_poke_44 (by decide) ?_
      refine lv_iadd hx hb dX0_poke_45 ?_
      refine lv_iload hx hb dX0_poke_46 (lv_at hl 5 rfl) ?_
      refine va_iast (cA := k_words) (f := upd (upd m_words z_1.toNatClampNeg a1) (z_1 + 1).toNatClampNeg a2) hx hb hK hP hD hS 1 0 rfl rfl (i := z_1 + 2) (x := a3) (vi_poke2 ez_1 c_4 c_10) dX0_poke_48 (fun H locs hP hD hS => ?_)
      have hP : va_P (dC, dI) vwCl (wx h0 q_words k_words v_atp v_vsAtp v_hgatp v_rights v_latestPlace v_latestSecond v_latestEntry v_refusedAddress v_refusedEntry (upd (upd (upd m_words z_1.toNatClampNeg a1) (z_1 + 1).toNatClampNeg a2) (z_1 + 2).toNatClampNeg a3)) H := hP
      have hD : va_D A (wx h0 q_words k_words v_atp v_vsAtp v_hgatp v_rights v_latestPlace v_latestSecond v_latestEntry v_refusedAddress v_refusedEntry (upd (upd (upd m_words z_1.toNatClampNeg a1) (z_1 + 1).toNatClampNeg a2) (z_1 + 2).toNatClampNeg a3)) := hD
      refine lv_aload_n hx hb dX0_poke_49 rfl (lv_at hl 1 rfl) ?_
      refine va_get (D := (dC, dI)) (ci := 0) (v := .ref q_words) (C := RX0) (T := TX0) (N := 10) hx hb hts hwX hown hK hP 0 rfl rfl 0 (by decide) (hts (.fieldLink RX0 10 "StageWalker" "words" "[I") (by decide +kernel)) (fun _ h9 => h9) rfl dX0_poke_50 ?_
      refine lv_iload hx hb dX0_poke_53 (lv_at hl 0 rfl) ?_
      refine lv_iconst (v := 3) hx hb dX0_poke_55 (by decide) ?_
      refine lv_iadd hx hb dX0_poke_56 ?_
      refine lv_iload hx hb dX0_poke_57 (lv_at hl 6 rfl) ?_
      refine va_iast (cA := k_words) (f := upd (upd (upd m_words z_1.toNatClampNeg a1) (z_1 + 1).toNatClampNeg a2) (z_1 + 2).toNatClampNeg a3) hx hb hK hP hD hS 1 0 rfl rfl (i := z_1 + 3) (x := a4) (vi_poke3 ez_1 c_4 c_10) dX0_poke_59 (fun H locs hP hD hS => ?_)
      have hP : va_P (dC, dI) vwCl (wx h0 q_words k_words v_atp v_vsAtp v_hgatp v_rights v_latestPlace v_latestSecond v_latestEntry v_refusedAddress v_refusedEntry (upd (upd (upd (upd m_words z_1.toNatClampNeg a1) (z_1 + 1).toNatClampNeg a2) (z_1 + 2).toNatClampNeg a3) (z_1 + 3).toNatClampNeg a4)) H := hP
      have hD : va_D A (wx h0 q_words k_words v_atp v_vsAtp v_hgatp v_rights v_latestPlace v_latestSecond v_latestEntry v_refusedAddress v_refusedEntry (upd (upd (upd (upd m_words z_1.toNatClampNeg a1) (z_1 + 1).toNatClampNeg a2) (z_1 + 2).toNatClampNeg a3) (z_1 + 3).toNatClampNeg a4)) := hD
      refine lv_aload_n hx hb dX0_poke_60 rfl (lv_at hl 1 rfl) ?_
      refine va_get (D := (dC, dI)) (ci := 0) (v := .ref q_words) (C := RX0) (T := TX0) (N := 10) hx hb hts hwX hown hK hP 0 rfl rfl 0 (by decide) (hts (.fieldLink RX0 10 "StageWalker" "words" "[I") (by decide +kernel)) (fun _ h9 => h9) rfl dX0_poke_61 ?_
      refine lv_iload hx hb dX0_poke_64 (lv_at hl 0 rfl) ?_
      refine lv_iconst (v := 4) hx hb dX0_poke_66 (by decide) ?_
      refine lv_iadd hx hb dX0_poke_67 ?_
      refine lv_iload hx hb dX0_poke_68 (lv_at hl 7 rfl) ?_
      refine va_iast (cA := k_words) (f := upd (upd (upd (upd m_words z_1.toNatClampNeg a1) (z_1 + 1).toNatClampNeg a2) (z_1 + 2).toNatClampNeg a3) (z_1 + 3).toNatClampNeg a4) hx hb hK hP hD hS 1 0 rfl rfl (i := z_1 + 4) (x := a5) (vi_poke4 ez_1 c_4 c_10) dX0_poke_70 (fun H locs hP hD hS => ?_)
      have hP : va_P (dC, dI) vwCl (wx h0 q_words k_words v_atp v_vsAtp v_hgatp v_rights v_latestPlace v_latestSecond v_latestEntry v_refusedAddress v_refusedEntry (upd (upd (upd (upd (upd m_words z_1.toNatClampNeg a1) (z_1 + 1).toNatClampNeg a2) (z_1 + 2).toNatClampNeg a3) (z_1 + 3).toNatClampNeg a4) (z_1 + 4).toNatClampNeg a5)) H := hP
      have hD : va_D A (wx h0 q_words k_words v_atp v_vsAtp v_hgatp v_rights v_latestPlace v_latestSecond v_latestEntry v_refusedAddress v_refusedEntry (upd (upd (upd (upd (upd m_words z_1.toNatClampNeg a1) (z_1 + 1).toNatClampNeg a2) (z_1 + 2).toNatClampNeg a3) (z_1 + 3).toNatClampNeg a4) (z_1 + 4).toNatClampNeg a5)) := hD
      refine lv_iload_n hx hb dX0_poke_71 rfl (lv_at hl 2 rfl) ?_
      refine lv_bipush (v := 20) hx hb dX0_poke_72 (by decide) ?_
      refine lv_iadd hx hb dX0_poke_74 ?_
      exact W.iret (v := a0 + 20) hx hb hr (fun t ht hW => ⟨⟨_, (a0 + 20, upd (upd (upd (upd (upd m_words z_1.toNatClampNeg a1) (z_1 + 1).toNatClampNeg a2) (z_1 + 2).toNatClampNeg a3) (z_1 + 3).toNatClampNeg a4) (z_1 + 4).toNatClampNeg a5), rfl, ⟨rfl, by subst ez_1; first | (rw [fx_poke, if_neg c_4, if_pos c_10]; done) | (simp only [fx_poke, if_neg c_4, if_pos c_10]; done) | (rw [fx_poke, if_neg c_4, if_pos c_10] <;> rfl)⟩, by rw [ht]; exact hP, va_K.moved hW.alike hK, hD⟩, hS.F ht⟩) hS.2.2 dX0_poke_75
    · skip
      refine lv_iconst (v := -1) hx hb dX0_poke_13 (by decide) ?_
      exact W.iret (v := (-1)) hx hb hr (fun t ht hW => ⟨⟨_, ((-1), m_words), rfl, ⟨rfl, by first | (rw [fx_poke, if_neg c_4, if_neg c_10]; done) | (simp only [fx_poke, if_neg c_4, if_neg c_10]; done) | (rw [fx_poke, if_neg c_4, if_neg c_10] <;> rfl)⟩, by rw [ht]; exact hP, va_K.moved hW.alike hK, hD⟩, hS.F ht⟩) hS.2.2 dX0_poke_14
set_option maxHeartbeats 4000000 in
set_option maxRecDepth 100000 in
theorem ctj_fill (l : Launch) (dC : Nat → ClassId) (dI : Nat → Nat → Nat) (q0 : Nat) (kA : ClassId) (N : Nat) (hN : N < 2 ^ 31) (sz : Nat) (f0 : Nat → Int32) (v0 : Int32) : MWv (U := Unit) l yJ7_fill_53178 wsJ7_fill_53178 ({ frames := 0, cells := 0, slots := 0, locals := 0 }) (dC, dI) vwCl [(kA, .int)] [.ref q0, .int v0] sz [(q0, .inl (kA, N, .inl f0))] (fun _ => [(q0, .inl (kA, N, .inl (fun _ => v0)))]) () := by
  refine Met.ofW (cc := cJ7_fill_53178) (maxL := 4) (ret := none) (by decide) rfl ?_
  intro p e s m args below meth c s₁ B hml hv
  obtain ⟨rfl, hsz, hP, hK, hD0⟩ := hv
  have hx := B.exec
  have hb := B.bytes
  have hr := B.returns
  have hlocks := B.notSynchronized
  subst hsz
  have hD := hD0.self (sz := s.heap.size)
  generalize hAe : va_A [(q0, .inl (kA, N, .inl f0))] s.heap.size = A at hD ⊢
  have hA : ∀ q : Nat, s.heap.size ≤ q → A q := fun q h => by rw [← hAe]; exact Or.inr h
  have hS : va_S A s.heap s.heap [] := va_S.rf
  have hP : va_P (dC, dI) vwCl [(q0, .inl (kA, N, .inl f0))] s.heap := hP
  have hl := lv_entry ([.ref q0, .int v0]) (n := 4) (Nat.le_of_ble_eq_true rfl)
  rw [lg_entry_eq]
  generalize (lg_sl ([.ref q0, .int v0]) ++ List.replicate (4 - (lg_sl ([.ref q0, .int v0])).length) Slot.unset).toArray = ls at hl ⊢
  have hl : lv_has ls 4 [(0, .ref q0), (1, .int v0)] := hl
  refine lv_iconst (v := 0) hx hb dJ7_fill_53178_0 (by decide) ?_
  refine lv_istore_n (lv' := [(2, .int 0), (0, .ref q0), (1, .int v0)]) hx hb dJ7_fill_53178_1 rfl hl (by decide) rfl (fun ls hl => ?_)
  refine lv_aload_n hx hb dJ7_fill_53178_2 rfl (lv_at hl 1 rfl) ?_
  refine va_alen (v := nI N) hx hb hK hP 0 0 rfl rfl rfl dJ7_fill_53178_3 ?_
  refine lv_istore_n (lv' := [(3, .int (nI N)), (2, .int 0), (0, .ref q0), (1, .int v0)]) hx hb dJ7_fill_53178_4 rfl hl (by decide) rfl (fun ls hl => ?_)
  refine lw_loop (σ := (Nat → Int32) × Heap × List Loc × Array Slot) (fun x => x.2.1) (fun x => x.2.2.1) (fun x => x.2.2.2) (fun n x => ∃ i : Nat, i + n = N ∧ (∀ j, j < i → x.1 j = v0) ∧ va_P (dC, dI) vwCl [(q0, .inl (kA, N, .inl x.1))] x.2.1 ∧ va_D A [(q0, .inl (kA, N, .inl x.1))] ∧ va_S A s.heap x.2.1 x.2.2.1 ∧ lv_has x.2.2.2 4 [(3, .int (nI N)), (2, .int (nI i)), (0, .ref q0), (1, .int v0)]) ?_ N (f0, s.heap, [], ls) ⟨0, Nat.zero_add N, fun j hj => absurd hj (Nat.not_lt_zero j), hP, hD, hS, hl⟩
  intro n x hI ih
  obtain ⟨f, H, locs, ls⟩ := x
  obtain ⟨i, hin, hf, hP, hD, hS, hl⟩ := hI
  have hf : ∀ j, j < i → f j = v0 := hf
  have hP : va_P (dC, dI) vwCl [(q0, .inl (kA, N, .inl f))] H := hP
  have hD : va_D A [(q0, .inl (kA, N, .inl f))] := hD
  have hS : va_S A s.heap H locs := hS
  have hl : lv_has ls 4 [(3, .int (nI N)), (2, .int (nI i)), (0, .ref q0), (1, .int v0)] := hl
  refine lv_iload_n hx hb dJ7_fill_53178_5 rfl (lv_at hl 1 rfl) ?_
  refine lv_iload_n hx hb dJ7_fill_53178_6 rfl (lv_at hl 0 rfl) ?_
  refine lv_icmp_ge (tgt := 20) hx hb dJ7_fill_53178_7 (by decide) (fun c_7 => ?_) (fun c_7 => ?_)
  · have hi : i = N := by
      have := (nI_leI hN (by omega)).mp c_7
      omega
    subst hi
    have hP : va_P (dC, dI) vwCl [(q0, .inl (kA, i, .inl (fun _ => v0)))] H := by
      intro k q hk
      match k, hk with
      | 0, hk =>
        cases hk
        have := hP 0 _ rfl
        show H[q0]? = some (vp_cell kA (i, .inl (fun _ => v0)))
        rw [← vc_congr (f := f) (g := fun _ => v0) (fun j hj => hf j hj)]
        exact this
      | k + 1, hk => simp at hk
    have hD : va_D A [(q0, .inl (kA, i, .inl (fun _ => v0)))] := by
      refine ⟨fun a b p q h1 h2 _ => ?_, fun k q hk => ?_⟩
      · match a, b, h1, h2 with
        | 0, 0, _, _ => rfl
        | 0, b + 1, _, h2 => simp at h2
        | a + 1, _, h1, _ => simp at h1
      · match k, hk with
        | 0, hk => cases hk; exact hD.2 0 (q0, .inl (kA, i, .inl f)) rfl
        | k + 1, hk => simp at hk
    exact W.vret hx hb hr (fun t ht hW => ⟨⟨(), rfl, rfl, by rw [ht]; exact hP, va_K.moved hW.alike hK, hD⟩, hS.F ht⟩) hS.2.2 dJ7_fill_53178_20
  · have hi : i < N := by
      rcases Nat.lt_or_ge i N with q | q
      · exact q
      · exact absurd ((nI_leI hN (by omega)).mpr q) c_7
    refine lv_aload_n hx hb dJ7_fill_53178_10 rfl (lv_at hl 2 rfl) ?_
    refine lv_iload_n hx hb dJ7_fill_53178_11 rfl (lv_at hl 1 rfl) ?_
    refine lv_iload_n hx hb dJ7_fill_53178_12 rfl (lv_at hl 3 rfl) ?_
    refine va_iast (cA := kA) (f := f) hx hb hK hP hD hS 0 0 rfl rfl (i := nI i) (x := v0) (vp_in_nI hi hN) dJ7_fill_53178_13 (fun H locs hP hD hS => ?_)
    have hcl : (nI i).toNatClampNeg = i := nI_clamp (by omega)
    rw [hcl] at hP hD
    have hP : va_P (dC, dI) vwCl [(q0, .inl (kA, N, .inl (upd f i v0)))] H := hP
    have hD : va_D A [(q0, .inl (kA, N, .inl (upd f i v0)))] := hD
    refine lv_iinc (v := nI (i + 1)) (lv' := [(2, .int (nI (i + 1))), (3, .int (nI N)), (0, .ref q0), (1, .int v0)]) hx hb dJ7_fill_53178_14 hl (k := 1) rfl (nI_1 i) (by decide) rfl (fun ls hl => ?_)
    refine lv_goto (tgt := 5) hx hb dJ7_fill_53178_17 (by decide) ?_
    exact ih (n - 1) (upd f i v0, H, locs, ls) (by omega) ⟨i + 1, by omega, fun j hj => by
      show upd f i v0 j = v0
      unfold upd
      by_cases h : j = i
      · rw [if_pos h]
      · rw [if_neg h]; exact hf j (by omega), hP, hD, hS, lv_sub hl [1, 0, 2, 3] rfl⟩
def fx_begin : Int32 × Int32 × Int32 × Int32 × Int32 × Int32 × Int32 × (Nat → Int32) := (0, 0, 0, 0, (-1), 0, 0, (fun _ => 0))
set_option maxHeartbeats 4000000 in
set_option maxRecDepth 100000 in
theorem ctx_begin (l : Launch) (dC : Nat → ClassId) (dI : Nat → Nat → Nat) (h0 : Nat) (q_words : Nat) (k_words : ClassId) (sz : Nat) (v_atp : Int32) (v_vsAtp : Int32) (v_hgatp : Int32) (v_rights : Int32) (v_latestPlace : Int32) (v_latestSecond : Int32) (v_latestEntry : Int32) (v_refusedAddress : Int64) (v_refusedEntry : Int32) (m_words : Nat → Int32) : MWv l yX0_begin wsX0_begin ({ frames := 1, cells := 0, slots := 0, locals := 23 }) (dC, dI) vwCl [(k_words, .int)] [.ref h0] sz (wx h0 q_words k_words v_atp v_vsAtp v_hgatp v_rights v_latestPlace v_latestSecond v_latestEntry v_refusedAddress v_refusedEntry m_words) (fun u : Int32 × Int32 × Int32 × Int32 × Int32 × Int32 × Int32 × (Nat → Int32) => (wx h0 q_words k_words u.1 u.2.1 u.2.2.1 u.2.2.2.1 u.2.2.2.2.1 u.2.2.2.2.2.1 u.2.2.2.2.2.2.1 v_refusedAddress v_refusedEntry u.2.2.2.2.2.2.2)) (fx_begin) := by
  refine Met.ofW (cc := cX0_begin) (maxL := 1) (ret := none) (by decide) rfl ?_
  intro p e s m args below meth c s₁ B hml hv
  obtain ⟨rfl, hsz, hP, hK, hD0⟩ := hv
  have hx := B.exec
  have hb := B.bytes
  have hr := B.returns
  have hts := atoms_spec (ws := wsX0_begin) B.pre
  have hown : s.vm.findClass RX0 = some m.cls := findClass_of_methodNamed B.named
  have hlocks := B.notSynchronized
  subst hsz
  have hwX : ∀ w ∈ u_ws RX0 TX0 10, w ∈ wsX0_begin := by decide +kernel
  have hD := hD0.self (sz := s.heap.size)
  generalize hAe : va_A (wx h0 q_words k_words v_atp v_vsAtp v_hgatp v_rights v_latestPlace v_latestSecond v_latestEntry v_refusedAddress v_refusedEntry m_words) s.heap.size = A at hD ⊢
  have hA : ∀ q : Nat, s.heap.size ≤ q → A q := fun q h => by rw [← hAe]; exact Or.inr h
  have hS : va_S A s.heap s.heap [] := va_S.rf
  have hP : va_P (dC, dI) vwCl (wx h0 q_words k_words v_atp v_vsAtp v_hgatp v_rights v_latestPlace v_latestSecond v_latestEntry v_refusedAddress v_refusedEntry m_words) s.heap := hP
  have hl := lv_entry ([.ref h0]) (n := 1) (Nat.le_of_ble_eq_true rfl)
  rw [lg_entry_eq]
  generalize (lg_sl ([.ref h0]) ++ List.replicate (1 - (lg_sl ([.ref h0])).length) Slot.unset).toArray = ls at hl ⊢
  have hl : lv_has ls 1 [(0, .ref h0)] := hl
  refine lv_aload_n hx hb dX0_begin_0 rfl (lv_at hl 0 rfl) ?_
  refine va_get (D := (dC, dI)) (ci := 0) (v := .ref q_words) (C := RX0) (T := TX0) (N := 10) hx hb hts hwX hown hK hP 0 rfl rfl 0 (by decide) (hts (.fieldLink RX0 10 "StageWalker" "words" "[I") (by decide +kernel)) (fun _ h9 => h9) rfl dX0_begin_1 ?_
  refine lv_iconst (v := 0) hx hb dX0_begin_4 (by decide) ?_
  have hPc := hP.sub (ws' := [(q_words, .inl (k_words, 65536, .inl m_words))]) [1] rfl
  have hDc := hD.sub (ws' := [(q_words, .inl (k_words, 65536, .inl m_words))]) [1] (by decide) rfl
  have hFc := va_free (wc := [(q_words, .inl (k_words, 65536, .inl m_words))]) hD hS hA [1] rfl
  refine va_callv (va_runS (As := [.ref q_words, .int 0]) (rest := []) ⟨hx, hb, hml, hown, hts⟩ (ctj_fill l dC dI q_words k_words 65536 (by decide) s.heap.size m_words 0) (va_cwS 2 hts gX0_begin_J7_fill_53178 rfl rfl rfl (by decide +kernel) ⟨Nat.le_of_ble_eq_true rfl, Nat.le_of_ble_eq_true rfl⟩) ⟨fun a U g mk q => ⟨q.1, q.2.1, q.2.2.1, va_K.moved (u := U) (U := U.calling g mk a) (Vm.Alike.refl U.vm) q.2.2.2.1, q.2.2.2.2⟩, fun U hU hW => ⟨rfl, by rw [hU], by rw [hU]; exact hPc, va_K.moved hW.alike hK, hDc.weaken (fun _ _ _ _ => trivial)⟩⟩ rfl rfl hl.1 rfl (lv_room (Nat.le_of_ble_eq_true rfl)) dX0_begin_5 ⟨Nat.zero_le _, Nat.zero_le _⟩) hS (fun q _ h => hFc q h) hFc (fun u t H1 locs ht hvm hw hB hz1 hk1 hS => ?_)
  obtain ⟨hP1, hK1, hD1⟩ := hB
  rw [ht] at hP1
  obtain ⟨hP, hD⟩ := va_join (wr := [(h0, .inr (0, [.ref q_words, .int v_atp, .int v_vsAtp, .int v_hgatp, .int v_rights, .int v_latestPlace, .int v_latestSecond, .int v_latestEntry, .long v_refusedAddress, .int v_refusedEntry]))]) (w1 := [(q_words, .inl (k_words, 65536, .inl (fun _ => 0)))]) hP hD [1] [0] rfl rfl (by decide) (by decide) hk1 hFc hP1 hD1
  generalize H1 = H at hP hS ⊢
  have hP : va_P (dC, dI) vwCl (wx h0 q_words k_words v_atp v_vsAtp v_hgatp v_rights v_latestPlace v_latestSecond v_latestEntry v_refusedAddress v_refusedEntry ((fun _ => 0))) H := hP
  have hD : va_D A (wx h0 q_words k_words v_atp v_vsAtp v_hgatp v_rights v_latestPlace v_latestSecond v_latestEntry v_refusedAddress v_refusedEntry ((fun _ => 0))) := hD
  refine lv_aload_n hx hb dX0_begin_8 rfl (lv_at hl 0 rfl) ?_
  refine lv_iconst (v := 0) hx hb dX0_begin_9 (by decide) ?_
  refine va_put (D := (dC, dI)) (ci := 0) (v := .int 0) (ty := .int) (C := RX0) (T := TX0) (N := 10) hx hb hts hwX tyX0 tyX0_ok nmX0 hown hK hP hD hS 0 rfl rfl 1 (by decide) (hts (.fieldLink RX0 24 "StageWalker" "atp" "I") (by decide +kernel)) (fun _ h9 => h9) rfl (by decide +kernel) rfl rfl (Nat.le_of_ble_eq_true rfl) dX0_begin_10 (fun H locs hP hD hS => ?_)
  have hP : va_P (dC, dI) vwCl (wx h0 q_words k_words 0 v_vsAtp v_hgatp v_rights v_latestPlace v_latestSecond v_latestEntry v_refusedAddress v_refusedEntry ((fun _ => 0))) H := hP
  have hD : va_D A (wx h0 q_words k_words 0 v_vsAtp v_hgatp v_rights v_latestPlace v_latestSecond v_latestEntry v_refusedAddress v_refusedEntry ((fun _ => 0))) := hD
  refine lv_aload_n hx hb dX0_begin_13 rfl (lv_at hl 0 rfl) ?_
  refine lv_iconst (v := 0) hx hb dX0_begin_14 (by decide) ?_
  refine va_put (D := (dC, dI)) (ci := 0) (v := .int 0) (ty := .int) (C := RX0) (T := TX0) (N := 10) hx hb hts hwX tyX0 tyX0_ok nmX0 hown hK hP hD hS 0 rfl rfl 2 (by decide) (hts (.fieldLink RX0 27 "StageWalker" "vsAtp" "I") (by decide +kernel)) (fun _ h9 => h9) rfl (by decide +kernel) rfl rfl (Nat.le_of_ble_eq_true rfl) dX0_begin_15 (fun H locs hP hD hS => ?_)
  have hP : va_P (dC, dI) vwCl (wx h0 q_words k_words 0 0 v_hgatp v_rights v_latestPlace v_latestSecond v_latestEntry v_refusedAddress v_refusedEntry ((fun _ => 0))) H := hP
  have hD : va_D A (wx h0 q_words k_words 0 0 v_hgatp v_rights v_latestPlace v_latestSecond v_latestEntry v_refusedAddress v_refusedEntry ((fun _ => 0))) := hD
  refine lv_aload_n hx hb dX0_begin_18 rfl (lv_at hl 0 rfl) ?_
  refine lv_iconst (v := 0) hx hb dX0_begin_19 (by decide) ?_
  refine va_put (D := (dC, dI)) (ci := 0) (v := .int 0) (ty := .int) (C := RX0) (T := TX0) (N := 10) hx hb hts hwX tyX0 tyX0_ok nmX0 hown hK hP hD hS 0 rfl rfl 3 (by decide) (hts (.fieldLink RX0 30 "StageWalker" "hgatp" "I") (by decide +kernel)) (fun _ h9 => h9) rfl (by decide +kernel) rfl rfl (Nat.le_of_ble_eq_true rfl) dX0_begin_20 (fun H locs hP hD hS => ?_)
  have hP : va_P (dC, dI) vwCl (wx h0 q_words k_words 0 0 0 v_rights v_latestPlace v_latestSecond v_latestEntry v_refusedAddress v_refusedEntry ((fun _ => 0))) H := hP
  have hD : va_D A (wx h0 q_words k_words 0 0 0 v_rights v_latestPlace v_latestSecond v_latestEntry v_refusedAddress v_refusedEntry ((fun _ => 0))) := hD
  refine lv_aload_n hx hb dX0_begin_23 rfl (lv_at hl 0 rfl) ?_
  refine lv_iconst (v := 0) hx hb dX0_begin_24 (by decide) ?_
  refine va_put (D := (dC, dI)) (ci := 0) (v := .int 0) (ty := .int) (C := RX0) (T := TX0) (N := 10) hx hb hts hwX tyX0 tyX0_ok nmX0 hown hK hP hD hS 0 rfl rfl 4 (by decide) (hts (.fieldLink RX0 33 "StageWalker" "rights" "I") (by decide +kernel)) (fun _ h9 => h9) rfl (by decide +kernel) rfl rfl (Nat.le_of_ble_eq_true rfl) dX0_begin_25 (fun H locs hP hD hS => ?_)
  have hP : va_P (dC, dI) vwCl (wx h0 q_words k_words 0 0 0 0 v_latestPlace v_latestSecond v_latestEntry v_refusedAddress v_refusedEntry ((fun _ => 0))) H := hP
  have hD : va_D A (wx h0 q_words k_words 0 0 0 0 v_latestPlace v_latestSecond v_latestEntry v_refusedAddress v_refusedEntry ((fun _ => 0))) := hD
  refine lv_aload_n hx hb dX0_begin_28 rfl (lv_at hl 0 rfl) ?_
  refine lv_iconst (v := -1) hx hb dX0_begin_29 (by decide) ?_
  refine va_put (D := (dC, dI)) (ci := 0) (v := .int ((-1))) (ty := .int) (C := RX0) (T := TX0) (N := 10) hx hb hts hwX tyX0 tyX0_ok nmX0 hown hK hP hD hS 0 rfl rfl 5 (by decide) (hts (.fieldLink RX0 14 "StageWalker" "latestPlace" "I") (by decide +kernel)) (fun _ h9 => h9) rfl (by decide +kernel) rfl rfl (Nat.le_of_ble_eq_true rfl) dX0_begin_30 (fun H locs hP hD hS => ?_)
  have hP : va_P (dC, dI) vwCl (wx h0 q_words k_words 0 0 0 0 ((-1)) v_latestSecond v_latestEntry v_refusedAddress v_refusedEntry ((fun _ => 0))) H := hP
  have hD : va_D A (wx h0 q_words k_words 0 0 0 0 ((-1)) v_latestSecond v_latestEntry v_refusedAddress v_refusedEntry ((fun _ => 0))) := hD
  refine lv_aload_n hx hb dX0_begin_33 rfl (lv_at hl 0 rfl) ?_
  refine lv_iconst (v := 0) hx hb dX0_begin_34 (by decide) ?_
  refine va_put (D := (dC, dI)) (ci := 0) (v := .int 0) (ty := .int) (C := RX0) (T := TX0) (N := 10) hx hb hts hwX tyX0 tyX0_ok nmX0 hown hK hP hD hS 0 rfl rfl 6 (by decide) (hts (.fieldLink RX0 36 "StageWalker" "latestSecond" "I") (by decide +kernel)) (fun _ h9 => h9) rfl (by decide +kernel) rfl rfl (Nat.le_of_ble_eq_true rfl) dX0_begin_35 (fun H locs hP hD hS => ?_)
  have hP : va_P (dC, dI) vwCl (wx h0 q_words k_words 0 0 0 0 ((-1)) 0 v_latestEntry v_refusedAddress v_refusedEntry ((fun _ => 0))) H := hP
  have hD : va_D A (wx h0 q_words k_words 0 0 0 0 ((-1)) 0 v_latestEntry v_refusedAddress v_refusedEntry ((fun _ => 0))) := hD
  refine lv_aload_n hx hb dX0_begin_38 rfl (lv_at hl 0 rfl) ?_
  refine lv_iconst (v := 0) hx hb dX0_begin_39 (by decide) ?_
  refine va_put (D := (dC, dI)) (ci := 0) (v := .int 0) (ty := .boolean) (C := RX0) (T := TX0) (N := 10) hx hb hts hwX tyX0 tyX0_ok nmX0 hown hK hP hD hS 0 rfl rfl 7 (by decide) (hts (.fieldLink RX0 39 "StageWalker" "latestEntry" "Z") (by decide +kernel)) (fun _ h9 => h9) rfl (by decide +kernel) nb_0 (by decide) (Nat.le_of_ble_eq_true rfl) dX0_begin_40 (fun H locs hP hD hS => ?_)
  have hP : va_P (dC, dI) vwCl (wx h0 q_words k_words 0 0 0 0 ((-1)) 0 0 v_refusedAddress v_refusedEntry ((fun _ => 0))) H := hP
  have hD : va_D A (wx h0 q_words k_words 0 0 0 0 ((-1)) 0 0 v_refusedAddress v_refusedEntry ((fun _ => 0))) := hD
  exact W.vret hx hb hr (fun t ht hW => ⟨⟨(0, 0, 0, 0, (-1), 0, 0, (fun _ => 0)), rfl, by rfl, by rw [ht]; exact hP, va_K.moved hW.alike hK, hD⟩, hS.F ht⟩) hS.2.2 dX0_begin_43
end
section
set_option maxHeartbeats 4000000 in
set_option maxRecDepth 100000 in
theorem ctx_init (l : Launch) (dC : Nat → ClassId) (dI : Nat → Nat → Nat) (h0 : Nat) (sz : Nat) : Met l yX0_init wsX0_init ({ frames := 1, cells := 1, slots := 65536, locals := 20 }) (va_Pc [.ref h0] (fun U => U.heap.size = sz ∧ va_P (dC, dI) vwCl [(h0, .inr (0, [.null, .int 0, .int 0, .int 0, .int 0, .int 0, .int 0, .int 0, .long 0, .int 0]))] U.heap ∧ va_K (dC, dI) vwCl [] U ∧ va_D (fun _ => True) [(h0, .inr (0, [.null, .int 0, .int 0, .int 0, .int 0, .int 0, .int 0, .int 0, .long 0, .int 0]))])) (va_Qv (fun (_ : Nat × ClassId) => True) (fun u t => va_P (dC, dI) vwCl (wx h0 u.1 u.2 0 0 0 0 (-1) 0 0 0 0 (fun _ => 0)) t.heap ∧ va_K (dC, dI) vwCl [(u.2, .int)] t ∧ va_D (va_A [(h0, .inr (0, [.null, .int 0, .int 0, .int 0, .int 0, .int 0, .int 0, .int 0, .long 0, .int 0]))] sz) (wx h0 u.1 u.2 0 0 0 0 (-1) 0 0 0 0 (fun _ => 0))) (va_A [(h0, .inr (0, [.null, .int 0, .int 0, .int 0, .int 0, .int 0, .int 0, .int 0, .long 0, .int 0]))] sz)) 1 65536 (va_A [(h0, .inr (0, [.null, .int 0, .int 0, .int 0, .int 0, .int 0, .int 0, .int 0, .long 0, .int 0]))] sz) := by
  refine Met.ofW (cc := cX0_init) (maxL := 1) (ret := none) (by decide) rfl ?_
  intro p e s m args below meth c s₁ B hml hv
  obtain ⟨rfl, hsz, hP, hK, hD0⟩ := hv
  have hx := B.exec
  have hb := B.bytes
  have hr := B.returns
  have hts := atoms_spec (ws := wsX0_init) B.pre
  have hown : s.vm.findClass RX0 = some m.cls := findClass_of_methodNamed B.named
  have hlocks := B.notSynchronized
  have hin : meth.name = "<init>" := (name_of_methodNamed B.named B.method).1
  subst hsz
  have hwX : ∀ w ∈ u_ws RX0 TX0 10, w ∈ wsX0_init := by decide +kernel
  have hD := hD0.self (sz := s.heap.size)
  generalize hAe : va_A [(h0, .inr (0, [.null, .int 0, .int 0, .int 0, .int 0, .int 0, .int 0, .int 0, .long 0, .int 0]))] s.heap.size = A at hD ⊢
  have hA : ∀ q : Nat, s.heap.size ≤ q → A q := fun q h => by rw [← hAe]; exact Or.inr h
  have hS : va_S A s.heap s.heap [] := va_S.rf
  have hP : va_P (dC, dI) vwCl [(h0, .inr (0, [.null, .int 0, .int 0, .int 0, .int 0, .int 0, .int 0, .int 0, .long 0, .int 0]))] s.heap := hP
  have hl := lv_entry ([.ref h0]) (n := 1) (Nat.le_of_ble_eq_true rfl)
  rw [lg_entry_eq]
  generalize (lg_sl ([.ref h0]) ++ List.replicate (1 - (lg_sl ([.ref h0])).length) Slot.unset).toArray = ls at hl ⊢
  have hl : lv_has ls 1 [(0, .ref h0)] := hl
  refine lv_aload_n hx hb dX0_init_0 rfl (lv_at hl 0 rfl) ?_
  refine W.objInit hx hb hown (hts (.methodLink RX0 3 objectInit) (by decide +kernel)) (hts (.instanceMethod objectInit) (by decide +kernel)) (hts _ (List.mem_cons_of_mem _ (List.mem_append_left _ (List.mem_of_getElem? (i := 2) rfl)))) rfl (by rw [hml]; exact hl.1) rfl dX0_init_1 (Nat.le_of_ble_eq_true rfl) (Nat.le_of_ble_eq_true rfl) ?_
  refine W.eq (g2 := F0 m 4 ls []) rfl ?_
  refine lv_aload_n hx hb dX0_init_4 rfl (lv_at hl 0 rfl) ?_
  refine lv_ldc hx hb hown (hts (.constant RX0 9 65536) (by decide +kernel)) dX0_init_5 ?_
  refine va_newa (atype := .int) (ty := .int) (N' := 65536) (a0 := (65536, .inl (fun _ => 0))) hx hb (hts (.arrayClass .int) (by decide +kernel)) rfl hK hP hD hS hA (fun cA => vc_zero cA 65536) (by decide) (by decide) (by decide) (show 0 + 1 ≤ 1 from Nat.le_refl _) (show 0 + 65536 ≤ 65536 from Nat.le_refl _) dX0_init_7 (fun q5 k5 H hK hP hD hS => ?_)
  have hP : va_P (dC, dI) vwCl [(h0, .inr (0, [.null, .int 0, .int 0, .int 0, .int 0, .int 0, .int 0, .int 0, .long 0, .int 0])), (q5, .inl (k5, 65536, .inl (fun _ => 0)))] H := hP
  have hD : va_D A [(h0, .inr (0, [.null, .int 0, .int 0, .int 0, .int 0, .int 0, .int 0, .int 0, .long 0, .int 0])), (q5, .inl (k5, 65536, .inl (fun _ => 0)))] := hD
  have hK : va_K (dC, dI) vwCl [(k5, .int)] s := hK
  refine W.widen (k := 1) (n := 65536) (show 0 + 1 ≤ 1 from Nat.le_refl _) (show 0 + 65536 ≤ 65536 from Nat.le_refl _) ?_
  refine va_putF (D := (dC, dI)) (ci := 0) (v := .ref q5) (ty := .array .int) (C := RX0) (T := TX0) (N := 10) hx hb hts hwX tyX0 tyX0_ok nmX0 hown hK hP hD hS 0 rfl rfl 0 (by decide) (hts (.fieldLink RX0 10 "StageWalker" "words" "[I") (by decide +kernel)) (fun _ h9 => h9) rfl hin rfl (by decide +kernel) rfl rfl (Nat.le_of_ble_eq_true rfl) dX0_init_9 (fun H locs hP hD hS => ?_)
  have hP : va_P (dC, dI) vwCl [(h0, .inr (0, [.ref q5, .int 0, .int 0, .int 0, .int 0, .int 0, .int 0, .int 0, .long 0, .int 0])), (q5, .inl (k5, 65536, .inl (fun _ => 0)))] H := hP
  have hD : va_D A [(h0, .inr (0, [.ref q5, .int 0, .int 0, .int 0, .int 0, .int 0, .int 0, .int 0, .long 0, .int 0])), (q5, .inl (k5, 65536, .inl (fun _ => 0)))] := hD
  refine lv_aload_n hx hb dX0_init_12 rfl (lv_at hl 0 rfl) ?_
  refine lv_iconst (v := -1) hx hb dX0_init_13 (by decide) ?_
  refine va_put (D := (dC, dI)) (ci := 0) (v := .int (-1)) (ty := .int) (C := RX0) (T := TX0) (N := 10) hx hb hts hwX tyX0 tyX0_ok nmX0 hown hK hP hD hS 0 rfl rfl 5 (by decide) (hts (.fieldLink RX0 14 "StageWalker" "latestPlace" "I") (by decide +kernel)) (fun _ h9 => h9) rfl (by decide +kernel) rfl rfl (Nat.le_of_ble_eq_true rfl) dX0_init_14 (fun H locs hP hD hS => ?_)
  have hP : va_P (dC, dI) vwCl [(h0, .inr (0, [.ref q5, .int 0, .int 0, .int 0, .int 0, .int (-1), .int 0, .int 0, .long 0, .int 0])), (q5, .inl (k5, 65536, .inl (fun _ => 0)))] H := hP
  have hD : va_D A [(h0, .inr (0, [.ref q5, .int 0, .int 0, .int 0, .int 0, .int (-1), .int 0, .int 0, .long 0, .int 0])), (q5, .inl (k5, 65536, .inl (fun _ => 0)))] := hD
  exact W.vret hx hb hr (fun t ht hW => ⟨⟨(q5, k5), rfl, trivial, by rw [ht]; exact hP, va_K.moved hW.alike hK, hD⟩, hS.F ht⟩) hS.2.2 dX0_init_17
end
section
/-! names of the reference's methods that NAMES.whole leaves out, by the same form -/
abbrev cX1_rights : ByteArray := prog_3_method_6_code
def yX1_rights : MethodName := ⟨RX1, "rights", "(I)I"⟩
abbrev cX1_has : ByteArray := prog_3_method_7_code
def yX1_has : MethodName := ⟨RX1, "has", "(I)Z"⟩
abbrev cX1_raise : ByteArray := prog_3_method_8_code
def yX1_raise : MethodName := ⟨RX1, "raise", "(IIII)V"⟩
abbrev cX1_inMemory : ByteArray := prog_3_method_9_code
def yX1_inMemory : MethodName := ⟨RX1, "inMemory", "(IJ)J"⟩
abbrev cX1_isSet : ByteArray := prog_3_method_10_code
def yX1_isSet : MethodName := ⟨RX1, "isSet", "(II)Z"⟩
abbrev cX1_isLeaf : ByteArray := prog_3_method_11_code
def yX1_isLeaf : MethodName := ⟨RX1, "isLeaf", "(I)Z"⟩
abbrev cX1_stands : ByteArray := prog_3_method_12_code
def yX1_stands : MethodName := ⟨RX1, "stands", "(I)Z"⟩
abbrev cX1_allows : ByteArray := prog_3_method_13_code
def yX1_allows : MethodName := ⟨RX1, "allows", "(IIZ)Z"⟩
abbrev cX1_result : ByteArray := prog_3_method_14_code
def yX1_result : MethodName := ⟨RX1, "result", "(IZJ)J"⟩
abbrev cX1_second_w : ByteArray := prog_3_method_15_code
def yX1_second_w : MethodName := ⟨RX1, "second", "(JIIZ)J"⟩
abbrev cX1_userFits : ByteArray := prog_3_method_16_code
def yX1_userFits : MethodName := ⟨RX1, "userFits", "(IZIZ)Z"⟩
abbrev cX1_first : ByteArray := prog_3_method_17_code
def yX1_first : MethodName := ⟨RX1, "first", "(IJIZZZZ)J"⟩
abbrev cX1_isKind : ByteArray := prog_3_method_18_code
def yX1_isKind : MethodName := ⟨RX1, "isKind", "(II)Z"⟩
abbrev cX1_go : ByteArray := prog_3_method_19_code
def yX1_go : MethodName := ⟨RX1, "go", "(III)V"⟩
abbrev cX1_translate : ByteArray := prog_3_method_20_code
def yX1_translate : MethodName := ⟨RX1, "translate", "(III)I"⟩
abbrev cX1_place : ByteArray := prog_3_method_21_code
def yX1_place : MethodName := ⟨RX1, "place", "()I"⟩
abbrev cX1_second : ByteArray := prog_3_method_22_code
def yX1_second : MethodName := ⟨RX1, "second", "()I"⟩
abbrev cX1_entry : ByteArray := prog_3_method_23_code
def yX1_entry : MethodName := ⟨RX1, "entry", "()Z"⟩
abbrev cX1_pages : ByteArray := prog_3_method_24_code
def yX1_pages : MethodName := ⟨RX1, "pages", "(IIII)I"⟩
def wsX1_rights : List Cond := .code yX1_rights cX1_rights 3 (some .int) :: ([.fieldLink RX1 27 "StageWalkerModel" "rights" "I"] ++ wsX10)
def wsX1_has : List Cond := .code yX1_has cX1_has 2 (some .boolean) :: ([.fieldLink RX1 27 "StageWalkerModel" "rights" "I"] ++ wsX10)
def wsX1_raise : List Cond := .code yX1_raise cX1_raise 5 none :: ([.fieldLink RX1 14 "StageWalkerModel" "code" "I"] ++ wsX10)
def wsX1_inMemory : List Cond := .code yX1_inMemory cX1_inMemory 4 (some .long) :: ([.constantLong RX1 32 (262144), .methodLink RX1 34 yX1_raise, .instanceMethod yX1_raise, .selects RX1 yX1_raise yX1_raise, .initialized RX1, .code yX1_raise cX1_raise 5 none, .fieldLink RX1 14 "StageWalkerModel" "code" "I"] ++ wsX10)
set_option maxRecDepth 20000 in
theorem ggX1_inMemory_X1_raise : GoodIn wsX1_inMemory wsX1_raise := goodIn_r _ [6, 7, 8, 9, 10, 11, 12, 13, 14, 15, 16] (by decide +kernel) (by decide +kernel)
set_option maxRecDepth 20000 in
theorem gX1_inMemory_X1_raise : GoodIn wsX1_inMemory (wsV RX1 34 RX1 yX1_raise wsX1_raise) := goodIn_app (goodIn_of _ (by decide +kernel)) ggX1_inMemory_X1_raise
def wsX1_isSet : List Cond := .code yX1_isSet cX1_isSet 2 (some .boolean) :: ([])
def wsX1_isLeaf : List Cond := .code yX1_isLeaf cX1_isLeaf 1 (some .boolean) :: ([])
def wsX1_stands : List Cond := .code yX1_stands cX1_stands 1 (some .boolean) :: ([.methodLink RX1 38 yX1_isSet, .static yX1_isSet, .initialized RX1, .code yX1_isSet cX1_isSet 2 (some .boolean)])
set_option maxRecDepth 20000 in
theorem ggX1_stands_X1_isSet : GoodIn wsX1_stands wsX1_isSet := goodIn_r _ [4] (by decide +kernel) (by decide +kernel)
set_option maxRecDepth 20000 in
theorem gX1_stands_X1_isSet : GoodIn wsX1_stands (va_wsS RX1 38 yX1_isSet wsX1_isSet) := goodIn_app (goodIn_of _ (by decide +kernel)) ggX1_stands_X1_isSet
def wsX1_allows : List Cond := .code yX1_allows cX1_allows 6 (some .boolean) :: ([.methodLink RX1 38 yX1_isSet, .static yX1_isSet, .initialized RX1, .code yX1_isSet cX1_isSet 2 (some .boolean)])
set_option maxRecDepth 20000 in
theorem ggX1_allows_X1_isSet : GoodIn wsX1_allows wsX1_isSet := goodIn_r _ [4] (by decide +kernel) (by decide +kernel)
set_option maxRecDepth 20000 in
theorem gX1_allows_X1_isSet : GoodIn wsX1_allows (va_wsS RX1 38 yX1_isSet wsX1_isSet) := goodIn_app (goodIn_of _ (by decide +kernel)) ggX1_allows_X1_isSet
def wsX1_result : List Cond := .code yX1_result cX1_result 6 (some .long) :: ([.constantLong RX1 42 (-1024), .constantLong RX1 44 (1023), .constantLong RX1 46 (4095)])
def wsX1_second_w : List Cond := .code yX1_second_w cX1_second_w 14 (some .long) :: ([.fieldLink RX1 24 "StageWalkerModel" "hgatp" "I", .methodLink RX1 48 yX1_inMemory, .instanceMethod yX1_inMemory, .selects RX1 yX1_inMemory yX1_inMemory, .initialized RX1, .code yX1_inMemory cX1_inMemory 4 (some .long), .constantLong RX1 32 (262144), .methodLink RX1 34 yX1_raise, .instanceMethod yX1_raise, .selects RX1 yX1_raise yX1_raise, .code yX1_raise cX1_raise 5 none, .fieldLink RX1 14 "StageWalkerModel" "code" "I", .constant RX1 52 (4194300), .constantLong RX1 53 (4), .constantLong RX1 46 (4095), .constantLong RX1 44 (1023), .fieldLink RX1 8 "StageWalkerModel" "memory" "[I", .methodLink RX1 55 yX1_stands, .static yX1_stands, .code yX1_stands cX1_stands 1 (some .boolean), .methodLink RX1 38 yX1_isSet, .static yX1_isSet, .code yX1_isSet cX1_isSet 2 (some .boolean), .methodLink RX1 59 yX1_isLeaf, .static yX1_isLeaf, .code yX1_isLeaf cX1_isLeaf 1 (some .boolean), .methodLink RX1 62 yX1_has, .instanceMethod yX1_has, .selects RX1 yX1_has yX1_has, .code yX1_has cX1_has 2 (some .boolean), .fieldLink RX1 27 "StageWalkerModel" "rights" "I", .methodLink RX1 65 yX1_allows, .static yX1_allows, .code yX1_allows cX1_allows 6 (some .boolean), .methodLink RX1 69 yX1_result, .static yX1_result, .code yX1_result cX1_result 6 (some .long), .constantLong RX1 42 (-1024), .fieldLink RX1 73 "StageWalkerModel" "wanted" "J", .fieldLink RX1 77 "StageWalkerModel" "ofEntry" "Z"] ++ wsX10)
set_option maxRecDepth 20000 in
theorem ggX1_second_w_X1_inMemory : GoodIn wsX1_second_w wsX1_inMemory := goodIn_r _ [6, 7, 8, 9, 10, 5, 11, 12, 41, 42, 43, 44, 45, 46, 47, 48, 49] (by decide +kernel) (by decide +kernel)
set_option maxRecDepth 20000 in
theorem gX1_second_w_X1_inMemory : GoodIn wsX1_second_w (wsV RX1 48 RX1 yX1_inMemory wsX1_inMemory) := goodIn_app (goodIn_of _ (by decide +kernel)) ggX1_second_w_X1_inMemory
set_option maxRecDepth 20000 in
theorem ggX1_second_w_X1_stands : GoodIn wsX1_second_w wsX1_stands := goodIn_r _ [20, 21, 22, 5, 23] (by decide +kernel) (by decide +kernel)
set_option maxRecDepth 20000 in
theorem gX1_second_w_X1_stands : GoodIn wsX1_second_w (va_wsS RX1 55 yX1_stands wsX1_stands) := goodIn_app (goodIn_of _ (by decide +kernel)) ggX1_second_w_X1_stands
set_option maxRecDepth 20000 in
theorem ggX1_second_w_X1_isLeaf : GoodIn wsX1_second_w wsX1_isLeaf := goodIn_r _ [26] (by decide +kernel) (by decide +kernel)
set_option maxRecDepth 20000 in
theorem gX1_second_w_X1_isLeaf : GoodIn wsX1_second_w (va_wsS RX1 59 yX1_isLeaf wsX1_isLeaf) := goodIn_app (goodIn_of _ (by decide +kernel)) ggX1_second_w_X1_isLeaf
set_option maxRecDepth 20000 in
theorem ggX1_second_w_X1_isSet : GoodIn wsX1_second_w wsX1_isSet := goodIn_r _ [23] (by decide +kernel) (by decide +kernel)
set_option maxRecDepth 20000 in
theorem gX1_second_w_X1_isSet : GoodIn wsX1_second_w (va_wsS RX1 38 yX1_isSet wsX1_isSet) := goodIn_app (goodIn_of _ (by decide +kernel)) ggX1_second_w_X1_isSet
set_option maxRecDepth 20000 in
theorem ggX1_second_w_X1_has : GoodIn wsX1_second_w wsX1_has := goodIn_r _ [30, 31, 41, 42, 43, 44, 45, 46, 47, 48, 49] (by decide +kernel) (by decide +kernel)
set_option maxRecDepth 20000 in
theorem gX1_second_w_X1_has : GoodIn wsX1_second_w (wsV RX1 62 RX1 yX1_has wsX1_has) := goodIn_app (goodIn_of _ (by decide +kernel)) ggX1_second_w_X1_has
set_option maxRecDepth 20000 in
theorem ggX1_second_w_X1_allows : GoodIn wsX1_second_w wsX1_allows := goodIn_r _ [34, 21, 22, 5, 23] (by decide +kernel) (by decide +kernel)
set_option maxRecDepth 20000 in
theorem gX1_second_w_X1_allows : GoodIn wsX1_second_w (va_wsS RX1 65 yX1_allows wsX1_allows) := goodIn_app (goodIn_of _ (by decide +kernel)) ggX1_second_w_X1_allows
set_option maxRecDepth 20000 in
theorem ggX1_second_w_X1_result : GoodIn wsX1_second_w wsX1_result := goodIn_r _ [37, 38, 16, 15] (by decide +kernel) (by decide +kernel)
set_option maxRecDepth 20000 in
theorem gX1_second_w_X1_result : GoodIn wsX1_second_w (va_wsS RX1 69 yX1_result wsX1_result) := goodIn_app (goodIn_of _ (by decide +kernel)) ggX1_second_w_X1_result
set_option maxRecDepth 20000 in
theorem ggX1_second_w_X1_raise : GoodIn wsX1_second_w wsX1_raise := goodIn_r _ [11, 12, 41, 42, 43, 44, 45, 46, 47, 48, 49] (by decide +kernel) (by decide +kernel)
set_option maxRecDepth 20000 in
theorem gX1_second_w_X1_raise : GoodIn wsX1_second_w (wsV RX1 34 RX1 yX1_raise wsX1_raise) := goodIn_app (goodIn_of _ (by decide +kernel)) ggX1_second_w_X1_raise
def wsX1_userFits : List Cond := .code yX1_userFits cX1_userFits 6 (some .boolean) :: ([.methodLink RX1 38 yX1_isSet, .static yX1_isSet, .initialized RX1, .code yX1_isSet cX1_isSet 2 (some .boolean)])
set_option maxRecDepth 20000 in
theorem ggX1_userFits_X1_isSet : GoodIn wsX1_userFits wsX1_isSet := goodIn_r _ [4] (by decide +kernel) (by decide +kernel)
set_option maxRecDepth 20000 in
theorem gX1_userFits_X1_isSet : GoodIn wsX1_userFits (va_wsS RX1 38 yX1_isSet wsX1_isSet) := goodIn_app (goodIn_of _ (by decide +kernel)) ggX1_userFits_X1_isSet
def wsX1_first : List Cond := .code yX1_first cX1_first 17 (some .long) :: ([.constant RX1 81 (4194303), .constantLong RX1 53 (4), .constantLong RX1 44 (1023), .methodLink RX1 82 yX1_second_w, .instanceMethod yX1_second_w, .selects RX1 yX1_second_w yX1_second_w, .initialized RX1, .code yX1_second_w cX1_second_w 14 (some .long), .fieldLink RX1 24 "StageWalkerModel" "hgatp" "I", .methodLink RX1 48 yX1_inMemory, .instanceMethod yX1_inMemory, .selects RX1 yX1_inMemory yX1_inMemory, .code yX1_inMemory cX1_inMemory 4 (some .long), .constantLong RX1 32 (262144), .methodLink RX1 34 yX1_raise, .instanceMethod yX1_raise, .selects RX1 yX1_raise yX1_raise, .code yX1_raise cX1_raise 5 none, .fieldLink RX1 14 "StageWalkerModel" "code" "I", .constant RX1 52 (4194300), .constantLong RX1 46 (4095), .fieldLink RX1 8 "StageWalkerModel" "memory" "[I", .methodLink RX1 55 yX1_stands, .static yX1_stands, .code yX1_stands cX1_stands 1 (some .boolean), .methodLink RX1 38 yX1_isSet, .static yX1_isSet, .code yX1_isSet cX1_isSet 2 (some .boolean), .methodLink RX1 59 yX1_isLeaf, .static yX1_isLeaf, .code yX1_isLeaf cX1_isLeaf 1 (some .boolean), .methodLink RX1 62 yX1_has, .instanceMethod yX1_has, .selects RX1 yX1_has yX1_has, .code yX1_has cX1_has 2 (some .boolean), .fieldLink RX1 27 "StageWalkerModel" "rights" "I", .methodLink RX1 65 yX1_allows, .static yX1_allows, .code yX1_allows cX1_allows 6 (some .boolean), .methodLink RX1 69 yX1_result, .static yX1_result, .code yX1_result cX1_result 6 (some .long), .constantLong RX1 42 (-1024), .fieldLink RX1 73 "StageWalkerModel" "wanted" "J", .fieldLink RX1 77 "StageWalkerModel" "ofEntry" "Z", .methodLink RX1 86 yX1_userFits, .instanceMethod yX1_userFits, .selects RX1 yX1_userFits yX1_userFits, .code yX1_userFits cX1_userFits 6 (some .boolean)] ++ wsX10)
set_option maxRecDepth 20000 in
theorem ggX1_first_X1_second_w : GoodIn wsX1_first wsX1_second_w := goodIn_r _ [8, 9, 10, 11, 12, 7, 13, 14, 15, 16, 17, 18, 19, 20, 2, 21, 3, 22, 23, 24, 25, 26, 27, 28, 29, 30, 31, 32, 33, 34, 35, 36, 37, 38, 39, 40, 41, 42, 43, 44, 45, 50, 51, 52, 53, 54, 55, 56, 57, 58] (by decide +kernel) (by decide +kernel)
set_option maxRecDepth 20000 in
theorem gX1_first_X1_second_w : GoodIn wsX1_first (wsV RX1 82 RX1 yX1_second_w wsX1_second_w) := goodIn_app (goodIn_of _ (by decide +kernel)) ggX1_first_X1_second_w
set_option maxRecDepth 20000 in
theorem ggX1_first_X1_inMemory : GoodIn wsX1_first wsX1_inMemory := goodIn_r _ [13, 14, 15, 16, 17, 7, 18, 19, 50, 51, 52, 53, 54, 55, 56, 57, 58] (by decide +kernel) (by decide +kernel)
set_option maxRecDepth 20000 in
theorem gX1_first_X1_inMemory : GoodIn wsX1_first (wsV RX1 48 RX1 yX1_inMemory wsX1_inMemory) := goodIn_app (goodIn_of _ (by decide +kernel)) ggX1_first_X1_inMemory
set_option maxRecDepth 20000 in
theorem ggX1_first_X1_stands : GoodIn wsX1_first wsX1_stands := goodIn_r _ [25, 26, 27, 7, 28] (by decide +kernel) (by decide +kernel)
set_option maxRecDepth 20000 in
theorem gX1_first_X1_stands : GoodIn wsX1_first (va_wsS RX1 55 yX1_stands wsX1_stands) := goodIn_app (goodIn_of _ (by decide +kernel)) ggX1_first_X1_stands
set_option maxRecDepth 20000 in
theorem ggX1_first_X1_isLeaf : GoodIn wsX1_first wsX1_isLeaf := goodIn_r _ [31] (by decide +kernel) (by decide +kernel)
set_option maxRecDepth 20000 in
theorem gX1_first_X1_isLeaf : GoodIn wsX1_first (va_wsS RX1 59 yX1_isLeaf wsX1_isLeaf) := goodIn_app (goodIn_of _ (by decide +kernel)) ggX1_first_X1_isLeaf
set_option maxRecDepth 20000 in
theorem ggX1_first_X1_userFits : GoodIn wsX1_first wsX1_userFits := goodIn_r _ [49, 26, 27, 7, 28] (by decide +kernel) (by decide +kernel)
set_option maxRecDepth 20000 in
theorem gX1_first_X1_userFits : GoodIn wsX1_first (wsV RX1 86 RX1 yX1_userFits wsX1_userFits) := goodIn_app (goodIn_of _ (by decide +kernel)) ggX1_first_X1_userFits
set_option maxRecDepth 20000 in
theorem ggX1_first_X1_allows : GoodIn wsX1_first wsX1_allows := goodIn_r _ [39, 26, 27, 7, 28] (by decide +kernel) (by decide +kernel)
set_option maxRecDepth 20000 in
theorem gX1_first_X1_allows : GoodIn wsX1_first (va_wsS RX1 65 yX1_allows wsX1_allows) := goodIn_app (goodIn_of _ (by decide +kernel)) ggX1_first_X1_allows
set_option maxRecDepth 20000 in
theorem ggX1_first_X1_result : GoodIn wsX1_first wsX1_result := goodIn_r _ [42, 43, 3, 21] (by decide +kernel) (by decide +kernel)
set_option maxRecDepth 20000 in
theorem gX1_first_X1_result : GoodIn wsX1_first (va_wsS RX1 69 yX1_result wsX1_result) := goodIn_app (goodIn_of _ (by decide +kernel)) ggX1_first_X1_result
set_option maxRecDepth 20000 in
theorem ggX1_first_X1_isSet : GoodIn wsX1_first wsX1_isSet := goodIn_r _ [28] (by decide +kernel) (by decide +kernel)
set_option maxRecDepth 20000 in
theorem gX1_first_X1_isSet : GoodIn wsX1_first (va_wsS RX1 38 yX1_isSet wsX1_isSet) := goodIn_app (goodIn_of _ (by decide +kernel)) ggX1_first_X1_isSet
set_option maxRecDepth 20000 in
theorem ggX1_first_X1_raise : GoodIn wsX1_first wsX1_raise := goodIn_r _ [18, 19, 50, 51, 52, 53, 54, 55, 56, 57, 58] (by decide +kernel) (by decide +kernel)
set_option maxRecDepth 20000 in
theorem gX1_first_X1_raise : GoodIn wsX1_first (wsV RX1 34 RX1 yX1_raise wsX1_raise) := goodIn_app (goodIn_of _ (by decide +kernel)) ggX1_first_X1_raise
def wsX1_isKind : List Cond := .code yX1_isKind cX1_isKind 2 (some .boolean) :: ([])
def wsX1_go : List Cond := .code yX1_go cX1_go 10 none :: ([.constantLong RX1 90 (4294967295), .fieldLink RX1 14 "StageWalkerModel" "code" "I", .fieldLink RX1 73 "StageWalkerModel" "wanted" "J", .fieldLink RX1 77 "StageWalkerModel" "ofEntry" "Z", .fieldLink RX1 21 "StageWalkerModel" "vsAtp" "I", .methodLink RX1 62 yX1_has, .instanceMethod yX1_has, .selects RX1 yX1_has yX1_has, .initialized RX1, .code yX1_has cX1_has 2 (some .boolean), .fieldLink RX1 27 "StageWalkerModel" "rights" "I", .methodLink RX1 92 yX1_first, .instanceMethod yX1_first, .selects RX1 yX1_first yX1_first, .code yX1_first cX1_first 17 (some .long), .constant RX1 81 (4194303), .constantLong RX1 53 (4), .constantLong RX1 44 (1023), .methodLink RX1 82 yX1_second_w, .instanceMethod yX1_second_w, .selects RX1 yX1_second_w yX1_second_w, .code yX1_second_w cX1_second_w 14 (some .long), .fieldLink RX1 24 "StageWalkerModel" "hgatp" "I", .methodLink RX1 48 yX1_inMemory, .instanceMethod yX1_inMemory, .selects RX1 yX1_inMemory yX1_inMemory, .code yX1_inMemory cX1_inMemory 4 (some .long), .constantLong RX1 32 (262144), .methodLink RX1 34 yX1_raise, .instanceMethod yX1_raise, .selects RX1 yX1_raise yX1_raise, .code yX1_raise cX1_raise 5 none, .constant RX1 52 (4194300), .constantLong RX1 46 (4095), .fieldLink RX1 8 "StageWalkerModel" "memory" "[I", .methodLink RX1 55 yX1_stands, .static yX1_stands, .code yX1_stands cX1_stands 1 (some .boolean), .methodLink RX1 38 yX1_isSet, .static yX1_isSet, .code yX1_isSet cX1_isSet 2 (some .boolean), .methodLink RX1 59 yX1_isLeaf, .static yX1_isLeaf, .code yX1_isLeaf cX1_isLeaf 1 (some .boolean), .methodLink RX1 65 yX1_allows, .static yX1_allows, .code yX1_allows cX1_allows 6 (some .boolean), .methodLink RX1 69 yX1_result, .static yX1_result, .code yX1_result cX1_result 6 (some .long), .constantLong RX1 42 (-1024), .methodLink RX1 86 yX1_userFits, .instanceMethod yX1_userFits, .selects RX1 yX1_userFits yX1_userFits, .code yX1_userFits cX1_userFits 6 (some .boolean), .fieldLink RX1 18 "StageWalkerModel" "atp" "I", .fieldLink RX1 96 "StageWalkerModel" "found" "J"] ++ wsX10)
set_option maxRecDepth 20000 in
theorem ggX1_go_X1_has : GoodIn wsX1_go wsX1_has := goodIn_r _ [10, 11, 58, 59, 60, 61, 62, 63, 64, 65, 66] (by decide +kernel) (by decide +kernel)
set_option maxRecDepth 20000 in
theorem gX1_go_X1_has : GoodIn wsX1_go (wsV RX1 62 RX1 yX1_has wsX1_has) := goodIn_app (goodIn_of _ (by decide +kernel)) ggX1_go_X1_has
set_option maxRecDepth 20000 in
theorem ggX1_go_X1_first : GoodIn wsX1_go wsX1_first := goodIn_r _ [15, 16, 17, 18, 19, 20, 21, 9, 22, 23, 24, 25, 26, 27, 28, 29, 30, 31, 32, 2, 33, 34, 35, 36, 37, 38, 39, 40, 41, 42, 43, 44, 6, 7, 8, 10, 11, 45, 46, 47, 48, 49, 50, 51, 3, 4, 52, 53, 54, 55, 58, 59, 60, 61, 62, 63, 64, 65, 66] (by decide +kernel) (by decide +kernel)
set_option maxRecDepth 20000 in
theorem gX1_go_X1_first : GoodIn wsX1_go (wsV RX1 92 RX1 yX1_first wsX1_first) := goodIn_app (goodIn_of _ (by decide +kernel)) ggX1_go_X1_first
set_option maxRecDepth 20000 in
theorem ggX1_go_X1_second_w : GoodIn wsX1_go wsX1_second_w := goodIn_r _ [22, 23, 24, 25, 26, 9, 27, 28, 29, 30, 31, 32, 2, 33, 17, 34, 18, 35, 36, 37, 38, 39, 40, 41, 42, 43, 44, 6, 7, 8, 10, 11, 45, 46, 47, 48, 49, 50, 51, 3, 4, 58, 59, 60, 61, 62, 63, 64, 65, 66] (by decide +kernel) (by decide +kernel)
set_option maxRecDepth 20000 in
theorem gX1_go_X1_second_w : GoodIn wsX1_go (wsV RX1 82 RX1 yX1_second_w wsX1_second_w) := goodIn_app (goodIn_of _ (by decide +kernel)) ggX1_go_X1_second_w
set_option maxRecDepth 20000 in
theorem ggX1_go_X1_inMemory : GoodIn wsX1_go wsX1_inMemory := goodIn_r _ [27, 28, 29, 30, 31, 9, 32, 2, 58, 59, 60, 61, 62, 63, 64, 65, 66] (by decide +kernel) (by decide +kernel)
set_option maxRecDepth 20000 in
theorem gX1_go_X1_inMemory : GoodIn wsX1_go (wsV RX1 48 RX1 yX1_inMemory wsX1_inMemory) := goodIn_app (goodIn_of _ (by decide +kernel)) ggX1_go_X1_inMemory
def wsX1_translate : List Cond := .code yX1_translate cX1_translate 4 (some .int) :: ([.methodLink RX1 99 yX1_isKind, .static yX1_isKind, .initialized RX1, .code yX1_isKind cX1_isKind 2 (some .boolean), .methodLink RX1 102 yX1_go, .instanceMethod yX1_go, .selects RX1 yX1_go yX1_go, .code yX1_go cX1_go 10 none, .constantLong RX1 90 (4294967295), .fieldLink RX1 14 "StageWalkerModel" "code" "I", .fieldLink RX1 73 "StageWalkerModel" "wanted" "J", .fieldLink RX1 77 "StageWalkerModel" "ofEntry" "Z", .fieldLink RX1 21 "StageWalkerModel" "vsAtp" "I", .methodLink RX1 62 yX1_has, .instanceMethod yX1_has, .selects RX1 yX1_has yX1_has, .code yX1_has cX1_has 2 (some .boolean), .fieldLink RX1 27 "StageWalkerModel" "rights" "I", .methodLink RX1 92 yX1_first, .instanceMethod yX1_first, .selects RX1 yX1_first yX1_first, .code yX1_first cX1_first 17 (some .long), .constant RX1 81 (4194303), .constantLong RX1 53 (4), .constantLong RX1 44 (1023), .methodLink RX1 82 yX1_second_w, .instanceMethod yX1_second_w, .selects RX1 yX1_second_w yX1_second_w, .code yX1_second_w cX1_second_w 14 (some .long), .fieldLink RX1 24 "StageWalkerModel" "hgatp" "I", .methodLink RX1 48 yX1_inMemory, .instanceMethod yX1_inMemory, .selects RX1 yX1_inMemory yX1_inMemory, .code yX1_inMemory cX1_inMemory 4 (some .long), .constantLong RX1 32 (262144), .methodLink RX1 34 yX1_raise, .instanceMethod yX1_raise, .selects RX1 yX1_raise yX1_raise, .code yX1_raise cX1_raise 5 none, .constant RX1 52 (4194300), .constantLong RX1 46 (4095), .fieldLink RX1 8 "StageWalkerModel" "memory" "[I", .methodLink RX1 55 yX1_stands, .static yX1_stands, .code yX1_stands cX1_stands 1 (some .boolean), .methodLink RX1 38 yX1_isSet, .static yX1_isSet, .code yX1_isSet cX1_isSet 2 (some .boolean), .methodLink RX1 59 yX1_isLeaf, .static yX1_isLeaf, .code yX1_isLeaf cX1_isLeaf 1 (some .boolean), .methodLink RX1 65 yX1_allows, .static yX1_allows, .code yX1_allows cX1_allows 6 (some .boolean), .methodLink RX1 69 yX1_result, .static yX1_result, .code yX1_result cX1_result 6 (some .long), .constantLong RX1 42 (-1024), .methodLink RX1 86 yX1_userFits, .instanceMethod yX1_userFits, .selects RX1 yX1_userFits yX1_userFits, .code yX1_userFits cX1_userFits 6 (some .boolean), .fieldLink RX1 18 "StageWalkerModel" "atp" "I", .fieldLink RX1 96 "StageWalkerModel" "found" "J"] ++ wsX10)
set_option maxRecDepth 20000 in
theorem ggX1_translate_X1_isKind : GoodIn wsX1_translate wsX1_isKind := goodIn_r _ [4] (by decide +kernel) (by decide +kernel)
set_option maxRecDepth 20000 in
theorem gX1_translate_X1_isKind : GoodIn wsX1_translate (va_wsS RX1 99 yX1_isKind wsX1_isKind) := goodIn_app (goodIn_of _ (by decide +kernel)) ggX1_translate_X1_isKind
set_option maxRecDepth 20000 in
theorem ggX1_translate_X1_go : GoodIn wsX1_translate wsX1_go := goodIn_r _ [8, 9, 10, 11, 12, 13, 14, 15, 16, 3, 17, 18, 19, 20, 21, 22, 23, 24, 25, 26, 27, 28, 29, 30, 31, 32, 33, 34, 35, 36, 37, 38, 39, 40, 41, 42, 43, 44, 45, 46, 47, 48, 49, 50, 51, 52, 53, 54, 55, 56, 57, 58, 59, 60, 61, 62, 63, 64, 65, 66, 67, 68, 69, 70, 71, 72, 73] (by decide +kernel) (by decide +kernel)
set_option maxRecDepth 20000 in
theorem gX1_translate_X1_go : GoodIn wsX1_translate (wsV RX1 102 RX1 yX1_go wsX1_go) := goodIn_app (goodIn_of _ (by decide +kernel)) ggX1_translate_X1_go
def wsX1_place : List Cond := .code yX1_place cX1_place 1 (some .int) :: ([.fieldLink RX1 14 "StageWalkerModel" "code" "I", .fieldLink RX1 96 "StageWalkerModel" "found" "J"] ++ wsX10)
def wsX1_second : List Cond := .code yX1_second cX1_second 1 (some .int) :: ([.fieldLink RX1 14 "StageWalkerModel" "code" "I", .fieldLink RX1 73 "StageWalkerModel" "wanted" "J"] ++ wsX10)
def wsX1_entry : List Cond := .code yX1_entry cX1_entry 1 (some .boolean) :: ([.fieldLink RX1 14 "StageWalkerModel" "code" "I", .fieldLink RX1 77 "StageWalkerModel" "ofEntry" "Z"] ++ wsX10)
def wsX1_pages : List Cond := .code yX1_pages cX1_pages 15 (some .int) :: ([.methodLink RX1 99 yX1_isKind, .static yX1_isKind, .initialized RX1, .code yX1_isKind cX1_isKind 2 (some .boolean), .fieldLink RX1 14 "StageWalkerModel" "code" "I", .fieldLink RX1 96 "StageWalkerModel" "found" "J", .fieldLink RX1 73 "StageWalkerModel" "wanted" "J", .fieldLink RX1 77 "StageWalkerModel" "ofEntry" "Z", .constantLong RX1 90 (4294967295), .methodLink RX1 102 yX1_go, .instanceMethod yX1_go, .selects RX1 yX1_go yX1_go, .code yX1_go cX1_go 10 none, .fieldLink RX1 21 "StageWalkerModel" "vsAtp" "I", .methodLink RX1 62 yX1_has, .instanceMethod yX1_has, .selects RX1 yX1_has yX1_has, .code yX1_has cX1_has 2 (some .boolean), .fieldLink RX1 27 "StageWalkerModel" "rights" "I", .methodLink RX1 92 yX1_first, .instanceMethod yX1_first, .selects RX1 yX1_first yX1_first, .code yX1_first cX1_first 17 (some .long), .constant RX1 81 (4194303), .constantLong RX1 53 (4), .constantLong RX1 44 (1023), .methodLink RX1 82 yX1_second_w, .instanceMethod yX1_second_w, .selects RX1 yX1_second_w yX1_second_w, .code yX1_second_w cX1_second_w 14 (some .long), .fieldLink RX1 24 "StageWalkerModel" "hgatp" "I", .methodLink RX1 48 yX1_inMemory, .instanceMethod yX1_inMemory, .selects RX1 yX1_inMemory yX1_inMemory, .code yX1_inMemory cX1_inMemory 4 (some .long), .constantLong RX1 32 (262144), .methodLink RX1 34 yX1_raise, .instanceMethod yX1_raise, .selects RX1 yX1_raise yX1_raise, .code yX1_raise cX1_raise 5 none, .constant RX1 52 (4194300), .constantLong RX1 46 (4095), .fieldLink RX1 8 "StageWalkerModel" "memory" "[I", .methodLink RX1 55 yX1_stands, .static yX1_stands, .code yX1_stands cX1_stands 1 (some .boolean), .methodLink RX1 38 yX1_isSet, .static yX1_isSet, .code yX1_isSet cX1_isSet 2 (some .boolean), .methodLink RX1 59 yX1_isLeaf, .static yX1_isLeaf, .code yX1_isLeaf cX1_isLeaf 1 (some .boolean), .methodLink RX1 65 yX1_allows, .static yX1_allows, .code yX1_allows cX1_allows 6 (some .boolean), .methodLink RX1 69 yX1_result, .static yX1_result, .code yX1_result cX1_result 6 (some .long), .constantLong RX1 42 (-1024), .methodLink RX1 86 yX1_userFits, .instanceMethod yX1_userFits, .selects RX1 yX1_userFits yX1_userFits, .code yX1_userFits cX1_userFits 6 (some .boolean), .fieldLink RX1 18 "StageWalkerModel" "atp" "I", .constantLong RX1 106 (4096)] ++ wsX10)
set_option maxRecDepth 20000 in
theorem ggX1_pages_X1_isKind : GoodIn wsX1_pages wsX1_isKind := goodIn_r _ [4] (by decide +kernel) (by decide +kernel)
set_option maxRecDepth 20000 in
theorem gX1_pages_X1_isKind : GoodIn wsX1_pages (va_wsS RX1 99 yX1_isKind wsX1_isKind) := goodIn_app (goodIn_of _ (by decide +kernel)) ggX1_pages_X1_isKind
set_option maxRecDepth 20000 in
theorem ggX1_pages_X1_go : GoodIn wsX1_pages wsX1_go := goodIn_r _ [13, 9, 5, 7, 8, 14, 15, 16, 17, 3, 18, 19, 20, 21, 22, 23, 24, 25, 26, 27, 28, 29, 30, 31, 32, 33, 34, 35, 36, 37, 38, 39, 40, 41, 42, 43, 44, 45, 46, 47, 48, 49, 50, 51, 52, 53, 54, 55, 56, 57, 58, 59, 60, 61, 62, 63, 64, 6, 66, 67, 68, 69, 70, 71, 72, 73, 74] (by decide +kernel) (by decide +kernel)
set_option maxRecDepth 20000 in
theorem gX1_pages_X1_go : GoodIn wsX1_pages (wsV RX1 102 RX1 yX1_go wsX1_go) := goodIn_app (goodIn_of _ (by decide +kernel)) ggX1_pages_X1_go
theorem dX1_rights_0 : decode cX1_rights 0 = .ok (.aload_n 0, 1) := by decide +kernel
theorem dX1_rights_1 : decode cX1_rights 1 = .ok (.getfield 27, 3) := by decide +kernel
theorem dX1_rights_4 : decode cX1_rights 4 = .ok (.istore_n 2, 1) := by decide +kernel
theorem dX1_rights_5 : decode cX1_rights 5 = .ok (.aload_n 0, 1) := by decide +kernel
theorem dX1_rights_6 : decode cX1_rights 6 = .ok (.iload_n 1, 1) := by decide +kernel
theorem dX1_rights_7 : decode cX1_rights 7 = .ok (.bipush 15, 2) := by decide +kernel
theorem dX1_rights_9 : decode cX1_rights 9 = .ok (.iand, 1) := by decide +kernel
theorem dX1_rights_10 : decode cX1_rights 10 = .ok (.putfield 27, 3) := by decide +kernel
theorem dX1_rights_13 : decode cX1_rights 13 = .ok (.iload_n 2, 1) := by decide +kernel
theorem dX1_rights_14 : decode cX1_rights 14 = .ok (.ireturn, 1) := by decide +kernel
theorem dX1_has_0 : decode cX1_has 0 = .ok (.aload_n 0, 1) := by decide +kernel
theorem dX1_has_1 : decode cX1_has 1 = .ok (.getfield 27, 3) := by decide +kernel
theorem dX1_has_4 : decode cX1_has 4 = .ok (.iload_n 1, 1) := by decide +kernel
theorem dX1_has_5 : decode cX1_has 5 = .ok (.ishr, 1) := by decide +kernel
theorem dX1_has_6 : decode cX1_has 6 = .ok (.iconst 1, 1) := by decide +kernel
theorem dX1_has_7 : decode cX1_has 7 = .ok (.iand, 1) := by decide +kernel
theorem dX1_has_8 : decode cX1_has 8 = .ok (.iconst 1, 1) := by decide +kernel
theorem dX1_has_9 : decode cX1_has 9 = .ok (.if_icmp .ne 7, 3) := by decide +kernel
theorem dX1_has_12 : decode cX1_has 12 = .ok (.iconst 1, 1) := by decide +kernel
theorem dX1_has_13 : decode cX1_has 13 = .ok (.goto 4, 3) := by decide +kernel
theorem dX1_has_16 : decode cX1_has 16 = .ok (.iconst 0, 1) := by decide +kernel
theorem dX1_has_17 : decode cX1_has 17 = .ok (.ireturn, 1) := by decide +kernel
theorem dX1_raise_0 : decode cX1_raise 0 = .ok (.aload_n 0, 1) := by decide +kernel
theorem dX1_raise_1 : decode cX1_raise 1 = .ok (.iload_n 1, 1) := by decide +kernel
theorem dX1_raise_2 : decode cX1_raise 2 = .ok (.ifCond .ne 7, 3) := by decide +kernel
theorem dX1_raise_5 : decode cX1_raise 5 = .ok (.iload_n 2, 1) := by decide +kernel
theorem dX1_raise_6 : decode cX1_raise 6 = .ok (.goto 14, 3) := by decide +kernel
theorem dX1_raise_9 : decode cX1_raise 9 = .ok (.iload_n 1, 1) := by decide +kernel
theorem dX1_raise_10 : decode cX1_raise 10 = .ok (.iconst 2, 1) := by decide +kernel
theorem dX1_raise_11 : decode cX1_raise 11 = .ok (.if_icmp .ne 8, 3) := by decide +kernel
theorem dX1_raise_14 : decode cX1_raise 14 = .ok (.iload 4, 2) := by decide +kernel
theorem dX1_raise_16 : decode cX1_raise 16 = .ok (.goto 4, 3) := by decide +kernel
theorem dX1_raise_19 : decode cX1_raise 19 = .ok (.iload_n 3, 1) := by decide +kernel
theorem dX1_raise_20 : decode cX1_raise 20 = .ok (.putfield 14, 3) := by decide +kernel
theorem dX1_raise_23 : decode cX1_raise 23 = .ok (.return_, 1) := by decide +kernel
theorem dX1_inMemory_0 : decode cX1_inMemory 0 = .ok (.lload_n 2, 1) := by decide +kernel
theorem dX1_inMemory_1 : decode cX1_inMemory 1 = .ok (.ldc2_w 32, 3) := by decide +kernel
theorem dX1_inMemory_4 : decode cX1_inMemory 4 = .ok (.lcmp, 1) := by decide +kernel
theorem dX1_inMemory_5 : decode cX1_inMemory 5 = .ok (.ifCond .lt 12, 3) := by decide +kernel
theorem dX1_inMemory_8 : decode cX1_inMemory 8 = .ok (.aload_n 0, 1) := by decide +kernel
theorem dX1_inMemory_9 : decode cX1_inMemory 9 = .ok (.iload_n 1, 1) := by decide +kernel
theorem dX1_inMemory_10 : decode cX1_inMemory 10 = .ok (.iconst 1, 1) := by decide +kernel
theorem dX1_inMemory_11 : decode cX1_inMemory 11 = .ok (.iconst 5, 1) := by decide +kernel
theorem dX1_inMemory_12 : decode cX1_inMemory 12 = .ok (.bipush 7, 2) := by decide +kernel
theorem dX1_inMemory_14 : decode cX1_inMemory 14 = .ok (.invokevirtual 34, 3) := by decide +kernel
theorem dX1_inMemory_17 : decode cX1_inMemory 17 = .ok (.lload_n 2, 1) := by decide +kernel
theorem dX1_inMemory_18 : decode cX1_inMemory 18 = .ok (.lreturn, 1) := by decide +kernel
theorem dX1_isSet_0 : decode cX1_isSet 0 = .ok (.iload_n 0, 1) := by decide +kernel
theorem dX1_isSet_1 : decode cX1_isSet 1 = .ok (.iload_n 1, 1) := by decide +kernel
theorem dX1_isSet_2 : decode cX1_isSet 2 = .ok (.ishr, 1) := by decide +kernel
theorem dX1_isSet_3 : decode cX1_isSet 3 = .ok (.iconst 1, 1) := by decide +kernel
theorem dX1_isSet_4 : decode cX1_isSet 4 = .ok (.iand, 1) := by decide +kernel
theorem dX1_isSet_5 : decode cX1_isSet 5 = .ok (.iconst 1, 1) := by decide +kernel
theorem dX1_isSet_6 : decode cX1_isSet 6 = .ok (.if_icmp .ne 7, 3) := by decide +kernel
theorem dX1_isSet_9 : decode cX1_isSet 9 = .ok (.iconst 1, 1) := by decide +kernel
theorem dX1_isSet_10 : decode cX1_isSet 10 = .ok (.goto 4, 3) := by decide +kernel
theorem dX1_isSet_13 : decode cX1_isSet 13 = .ok (.iconst 0, 1) := by decide +kernel
theorem dX1_isSet_14 : decode cX1_isSet 14 = .ok (.ireturn, 1) := by decide +kernel
theorem dX1_isLeaf_0 : decode cX1_isLeaf 0 = .ok (.iload_n 0, 1) := by decide +kernel
theorem dX1_isLeaf_1 : decode cX1_isLeaf 1 = .ok (.bipush 14, 2) := by decide +kernel
theorem dX1_isLeaf_3 : decode cX1_isLeaf 3 = .ok (.iand, 1) := by decide +kernel
theorem dX1_isLeaf_4 : decode cX1_isLeaf 4 = .ok (.ifCond .eq 7, 3) := by decide +kernel
theorem dX1_isLeaf_7 : decode cX1_isLeaf 7 = .ok (.iconst 1, 1) := by decide +kernel
theorem dX1_isLeaf_8 : decode cX1_isLeaf 8 = .ok (.goto 4, 3) := by decide +kernel
theorem dX1_isLeaf_11 : decode cX1_isLeaf 11 = .ok (.iconst 0, 1) := by decide +kernel
theorem dX1_isLeaf_12 : decode cX1_isLeaf 12 = .ok (.ireturn, 1) := by decide +kernel
theorem dX1_stands_0 : decode cX1_stands 0 = .ok (.iload_n 0, 1) := by decide +kernel
theorem dX1_stands_1 : decode cX1_stands 1 = .ok (.iconst 0, 1) := by decide +kernel
theorem dX1_stands_2 : decode cX1_stands 2 = .ok (.invokestatic 38, 3) := by decide +kernel
theorem dX1_stands_5 : decode cX1_stands 5 = .ok (.ifCond .eq 23, 3) := by decide +kernel
theorem dX1_stands_8 : decode cX1_stands 8 = .ok (.iload_n 0, 1) := by decide +kernel
theorem dX1_stands_9 : decode cX1_stands 9 = .ok (.iconst 2, 1) := by decide +kernel
theorem dX1_stands_10 : decode cX1_stands 10 = .ok (.invokestatic 38, 3) := by decide +kernel
theorem dX1_stands_13 : decode cX1_stands 13 = .ok (.ifCond .eq 11, 3) := by decide +kernel
theorem dX1_stands_16 : decode cX1_stands 16 = .ok (.iload_n 0, 1) := by decide +kernel
theorem dX1_stands_17 : decode cX1_stands 17 = .ok (.iconst 1, 1) := by decide +kernel
theorem dX1_stands_18 : decode cX1_stands 18 = .ok (.invokestatic 38, 3) := by decide +kernel
theorem dX1_stands_21 : decode cX1_stands 21 = .ok (.ifCond .eq 7, 3) := by decide +kernel
theorem dX1_stands_24 : decode cX1_stands 24 = .ok (.iconst 1, 1) := by decide +kernel
theorem dX1_stands_25 : decode cX1_stands 25 = .ok (.goto 4, 3) := by decide +kernel
theorem dX1_stands_28 : decode cX1_stands 28 = .ok (.iconst 0, 1) := by decide +kernel
theorem dX1_stands_29 : decode cX1_stands 29 = .ok (.ireturn, 1) := by decide +kernel
theorem dX1_allows_0 : decode cX1_allows 0 = .ok (.iload_n 0, 1) := by decide +kernel
theorem dX1_allows_1 : decode cX1_allows 1 = .ok (.iconst 1, 1) := by decide +kernel
theorem dX1_allows_2 : decode cX1_allows 2 = .ok (.invokestatic 38, 3) := by decide +kernel
theorem dX1_allows_5 : decode cX1_allows 5 = .ok (.istore_n 3, 1) := by decide +kernel
theorem dX1_allows_6 : decode cX1_allows 6 = .ok (.iload_n 0, 1) := by decide +kernel
theorem dX1_allows_7 : decode cX1_allows 7 = .ok (.iconst 3, 1) := by decide +kernel
theorem dX1_allows_8 : decode cX1_allows 8 = .ok (.invokestatic 38, 3) := by decide +kernel
theorem dX1_allows_11 : decode cX1_allows 11 = .ok (.istore 4, 2) := by decide +kernel
theorem dX1_allows_13 : decode cX1_allows 13 = .ok (.iload_n 1, 1) := by decide +kernel
theorem dX1_allows_14 : decode cX1_allows 14 = .ok (.ifCond .eq 8, 3) := by decide +kernel
theorem dX1_allows_17 : decode cX1_allows 17 = .ok (.iload_n 1, 1) := by decide +kernel
theorem dX1_allows_18 : decode cX1_allows 18 = .ok (.iconst 3, 1) := by decide +kernel
theorem dX1_allows_19 : decode cX1_allows 19 = .ok (.if_icmp .ne 8, 3) := by decide +kernel
theorem dX1_allows_22 : decode cX1_allows 22 = .ok (.iload 4, 2) := by decide +kernel
theorem dX1_allows_24 : decode cX1_allows 24 = .ok (.goto 34, 3) := by decide +kernel
theorem dX1_allows_27 : decode cX1_allows 27 = .ok (.iload_n 1, 1) := by decide +kernel
theorem dX1_allows_28 : decode cX1_allows 28 = .ok (.iconst 1, 1) := by decide +kernel
theorem dX1_allows_29 : decode cX1_allows 29 = .ok (.if_icmp .ne 24, 3) := by decide +kernel
theorem dX1_allows_32 : decode cX1_allows 32 = .ok (.iload_n 3, 1) := by decide +kernel
theorem dX1_allows_33 : decode cX1_allows 33 = .ok (.ifCond .ne 12, 3) := by decide +kernel
theorem dX1_allows_36 : decode cX1_allows 36 = .ok (.iload_n 2, 1) := by decide +kernel
theorem dX1_allows_37 : decode cX1_allows 37 = .ok (.ifCond .eq 12, 3) := by decide +kernel
theorem dX1_allows_40 : decode cX1_allows 40 = .ok (.iload 4, 2) := by decide +kernel
theorem dX1_allows_42 : decode cX1_allows 42 = .ok (.ifCond .eq 7, 3) := by decide +kernel
theorem dX1_allows_45 : decode cX1_allows 45 = .ok (.iconst 1, 1) := by decide +kernel
theorem dX1_allows_46 : decode cX1_allows 46 = .ok (.goto 12, 3) := by decide +kernel
theorem dX1_allows_49 : decode cX1_allows 49 = .ok (.iconst 0, 1) := by decide +kernel
theorem dX1_allows_50 : decode cX1_allows 50 = .ok (.goto 8, 3) := by decide +kernel
theorem dX1_allows_53 : decode cX1_allows 53 = .ok (.iload_n 0, 1) := by decide +kernel
theorem dX1_allows_54 : decode cX1_allows 54 = .ok (.iconst 2, 1) := by decide +kernel
theorem dX1_allows_55 : decode cX1_allows 55 = .ok (.invokestatic 38, 3) := by decide +kernel
theorem dX1_allows_58 : decode cX1_allows 58 = .ok (.istore 5, 2) := by decide +kernel
theorem dX1_allows_60 : decode cX1_allows 60 = .ok (.iload 5, 2) := by decide +kernel
theorem dX1_allows_62 : decode cX1_allows 62 = .ok (.ifCond .eq 30, 3) := by decide +kernel
theorem dX1_allows_65 : decode cX1_allows 65 = .ok (.iload_n 0, 1) := by decide +kernel
theorem dX1_allows_66 : decode cX1_allows 66 = .ok (.bipush 6, 2) := by decide +kernel
theorem dX1_allows_68 : decode cX1_allows 68 = .ok (.invokestatic 38, 3) := by decide +kernel
theorem dX1_allows_71 : decode cX1_allows 71 = .ok (.ifCond .eq 21, 3) := by decide +kernel
theorem dX1_allows_74 : decode cX1_allows 74 = .ok (.iload_n 1, 1) := by decide +kernel
theorem dX1_allows_75 : decode cX1_allows 75 = .ok (.iconst 2, 1) := by decide +kernel
theorem dX1_allows_76 : decode cX1_allows 76 = .ok (.if_icmp .ne 12, 3) := by decide +kernel
theorem dX1_allows_79 : decode cX1_allows 79 = .ok (.iload_n 0, 1) := by decide +kernel
theorem dX1_allows_80 : decode cX1_allows 80 = .ok (.bipush 7, 2) := by decide +kernel
theorem dX1_allows_82 : decode cX1_allows 82 = .ok (.invokestatic 38, 3) := by decide +kernel
theorem dX1_allows_85 : decode cX1_allows 85 = .ok (.ifCond .eq 7, 3) := by decide +kernel
theorem dX1_allows_88 : decode cX1_allows 88 = .ok (.iconst 1, 1) := by decide +kernel
theorem dX1_allows_89 : decode cX1_allows 89 = .ok (.goto 4, 3) := by decide +kernel
theorem dX1_allows_92 : decode cX1_allows 92 = .ok (.iconst 0, 1) := by decide +kernel
theorem dX1_allows_93 : decode cX1_allows 93 = .ok (.ireturn, 1) := by decide +kernel
theorem dX1_result_0 : decode cX1_result 0 = .ok (.iload_n 0, 1) := by decide +kernel
theorem dX1_result_1 : decode cX1_result 1 = .ok (.bipush 10, 2) := by decide +kernel
theorem dX1_result_3 : decode cX1_result 3 = .ok (.iushr, 1) := by decide +kernel
theorem dX1_result_4 : decode cX1_result 4 = .ok (.i2l, 1) := by decide +kernel
theorem dX1_result_5 : decode cX1_result 5 = .ok (.lstore 4, 2) := by decide +kernel
theorem dX1_result_7 : decode cX1_result 7 = .ok (.iload_n 1, 1) := by decide +kernel
theorem dX1_result_8 : decode cX1_result 8 = .ok (.ifCond .eq 21, 3) := by decide +kernel
theorem dX1_result_11 : decode cX1_result 11 = .ok (.lload 4, 2) := by decide +kernel
theorem dX1_result_13 : decode cX1_result 13 = .ok (.ldc2_w 42, 3) := by decide +kernel
theorem dX1_result_16 : decode cX1_result 16 = .ok (.land, 1) := by decide +kernel
theorem dX1_result_17 : decode cX1_result 17 = .ok (.lload_n 2, 1) := by decide +kernel
theorem dX1_result_18 : decode cX1_result 18 = .ok (.bipush 12, 2) := by decide +kernel
theorem dX1_result_20 : decode cX1_result 20 = .ok (.lshr, 1) := by decide +kernel
theorem dX1_result_21 : decode cX1_result 21 = .ok (.ldc2_w 44, 3) := by decide +kernel
theorem dX1_result_24 : decode cX1_result 24 = .ok (.land, 1) := by decide +kernel
theorem dX1_result_25 : decode cX1_result 25 = .ok (.lor, 1) := by decide +kernel
theorem dX1_result_26 : decode cX1_result 26 = .ok (.goto 5, 3) := by decide +kernel
theorem dX1_result_29 : decode cX1_result 29 = .ok (.lload 4, 2) := by decide +kernel
theorem dX1_result_31 : decode cX1_result 31 = .ok (.lstore 4, 2) := by decide +kernel
theorem dX1_result_33 : decode cX1_result 33 = .ok (.lload 4, 2) := by decide +kernel
theorem dX1_result_35 : decode cX1_result 35 = .ok (.bipush 12, 2) := by decide +kernel
theorem dX1_result_37 : decode cX1_result 37 = .ok (.lshl, 1) := by decide +kernel
theorem dX1_result_38 : decode cX1_result 38 = .ok (.lload_n 2, 1) := by decide +kernel
theorem dX1_result_39 : decode cX1_result 39 = .ok (.ldc2_w 46, 3) := by decide +kernel
theorem dX1_result_42 : decode cX1_result 42 = .ok (.land, 1) := by decide +kernel
theorem dX1_result_43 : decode cX1_result 43 = .ok (.lor, 1) := by decide +kernel
theorem dX1_result_44 : decode cX1_result 44 = .ok (.lreturn, 1) := by decide +kernel
theorem dX1_userFits_0 : decode cX1_userFits 0 = .ok (.iload_n 1, 1) := by decide +kernel
theorem dX1_userFits_1 : decode cX1_userFits 1 = .ok (.iconst 4, 1) := by decide +kernel
theorem dX1_userFits_2 : decode cX1_userFits 2 = .ok (.invokestatic 38, 3) := by decide +kernel
theorem dX1_userFits_5 : decode cX1_userFits 5 = .ok (.istore 5, 2) := by decide +kernel
theorem dX1_userFits_7 : decode cX1_userFits 7 = .ok (.iload_n 2, 1) := by decide +kernel
theorem dX1_userFits_8 : decode cX1_userFits 8 = .ok (.ifCond .eq 8, 3) := by decide +kernel
theorem dX1_userFits_11 : decode cX1_userFits 11 = .ok (.iload 5, 2) := by decide +kernel
theorem dX1_userFits_13 : decode cX1_userFits 13 = .ok (.goto 22, 3) := by decide +kernel
theorem dX1_userFits_16 : decode cX1_userFits 16 = .ok (.iload 5, 2) := by decide +kernel
theorem dX1_userFits_18 : decode cX1_userFits 18 = .ok (.ifCond .eq 12, 3) := by decide +kernel
theorem dX1_userFits_21 : decode cX1_userFits 21 = .ok (.iload 4, 2) := by decide +kernel
theorem dX1_userFits_23 : decode cX1_userFits 23 = .ok (.ifCond .eq 11, 3) := by decide +kernel
theorem dX1_userFits_26 : decode cX1_userFits 26 = .ok (.iload_n 3, 1) := by decide +kernel
theorem dX1_userFits_27 : decode cX1_userFits 27 = .ok (.ifCond .eq 7, 3) := by decide +kernel
theorem dX1_userFits_30 : decode cX1_userFits 30 = .ok (.iconst 1, 1) := by decide +kernel
theorem dX1_userFits_31 : decode cX1_userFits 31 = .ok (.goto 4, 3) := by decide +kernel
theorem dX1_userFits_34 : decode cX1_userFits 34 = .ok (.iconst 0, 1) := by decide +kernel
theorem dX1_userFits_35 : decode cX1_userFits 35 = .ok (.ireturn, 1) := by decide +kernel
theorem dX1_isKind_0 : decode cX1_isKind 0 = .ok (.iload_n 0, 1) := by decide +kernel
theorem dX1_isKind_1 : decode cX1_isKind 1 = .ok (.ifCond .lt 30, 3) := by decide +kernel
theorem dX1_isKind_4 : decode cX1_isKind 4 = .ok (.iload_n 0, 1) := by decide +kernel
theorem dX1_isKind_5 : decode cX1_isKind 5 = .ok (.iconst 4, 1) := by decide +kernel
theorem dX1_isKind_6 : decode cX1_isKind 6 = .ok (.if_icmp .ge 25, 3) := by decide +kernel
theorem dX1_isKind_9 : decode cX1_isKind 9 = .ok (.iload_n 1, 1) := by decide +kernel
theorem dX1_isKind_10 : decode cX1_isKind 10 = .ok (.ifCond .lt 21, 3) := by decide +kernel
theorem dX1_isKind_13 : decode cX1_isKind 13 = .ok (.iload_n 1, 1) := by decide +kernel
theorem dX1_isKind_14 : decode cX1_isKind 14 = .ok (.iload_n 0, 1) := by decide +kernel
theorem dX1_isKind_15 : decode cX1_isKind 15 = .ok (.iconst 2, 1) := by decide +kernel
theorem dX1_isKind_16 : decode cX1_isKind 16 = .ok (.if_icmp .ge 7, 3) := by decide +kernel
theorem dX1_isKind_19 : decode cX1_isKind 19 = .ok (.iconst 2, 1) := by decide +kernel
theorem dX1_isKind_20 : decode cX1_isKind 20 = .ok (.goto 4, 3) := by decide +kernel
theorem dX1_isKind_23 : decode cX1_isKind 23 = .ok (.iconst 3, 1) := by decide +kernel
theorem dX1_isKind_24 : decode cX1_isKind 24 = .ok (.if_icmp .gt 7, 3) := by decide +kernel
theorem dX1_isKind_27 : decode cX1_isKind 27 = .ok (.iconst 1, 1) := by decide +kernel
theorem dX1_isKind_28 : decode cX1_isKind 28 = .ok (.goto 4, 3) := by decide +kernel
theorem dX1_isKind_31 : decode cX1_isKind 31 = .ok (.iconst 0, 1) := by decide +kernel
theorem dX1_isKind_32 : decode cX1_isKind 32 = .ok (.ireturn, 1) := by decide +kernel
theorem dX1_translate_0 : decode cX1_translate 0 = .ok (.iload_n 1, 1) := by decide +kernel
theorem dX1_translate_1 : decode cX1_translate 1 = .ok (.iload_n 2, 1) := by decide +kernel
theorem dX1_translate_2 : decode cX1_translate 2 = .ok (.invokestatic 99, 3) := by decide +kernel
theorem dX1_translate_5 : decode cX1_translate 5 = .ok (.ifCond .ne 5, 3) := by decide +kernel
theorem dX1_translate_8 : decode cX1_translate 8 = .ok (.iconst (-1), 1) := by decide +kernel
theorem dX1_translate_9 : decode cX1_translate 9 = .ok (.ireturn, 1) := by decide +kernel
theorem dX1_translate_10 : decode cX1_translate 10 = .ok (.aload_n 0, 1) := by decide +kernel
theorem dX1_translate_11 : decode cX1_translate 11 = .ok (.iload_n 1, 1) := by decide +kernel
theorem dX1_translate_12 : decode cX1_translate 12 = .ok (.iload_n 2, 1) := by decide +kernel
theorem dX1_translate_13 : decode cX1_translate 13 = .ok (.iload_n 3, 1) := by decide +kernel
theorem dX1_translate_14 : decode cX1_translate 14 = .ok (.invokevirtual 102, 3) := by decide +kernel
theorem dX1_translate_17 : decode cX1_translate 17 = .ok (.aload_n 0, 1) := by decide +kernel
theorem dX1_translate_18 : decode cX1_translate 18 = .ok (.getfield 14, 3) := by decide +kernel
theorem dX1_translate_21 : decode cX1_translate 21 = .ok (.ireturn, 1) := by decide +kernel
theorem dX1_place_0 : decode cX1_place 0 = .ok (.aload_n 0, 1) := by decide +kernel
theorem dX1_place_1 : decode cX1_place 1 = .ok (.getfield 14, 3) := by decide +kernel
theorem dX1_place_4 : decode cX1_place 4 = .ok (.ifCond .ne 11, 3) := by decide +kernel
theorem dX1_place_7 : decode cX1_place 7 = .ok (.aload_n 0, 1) := by decide +kernel
theorem dX1_place_8 : decode cX1_place 8 = .ok (.getfield 96, 3) := by decide +kernel
theorem dX1_place_11 : decode cX1_place 11 = .ok (.l2i, 1) := by decide +kernel
theorem dX1_place_12 : decode cX1_place 12 = .ok (.goto 4, 3) := by decide +kernel
theorem dX1_place_15 : decode cX1_place 15 = .ok (.iconst (-1), 1) := by decide +kernel
theorem dX1_place_16 : decode cX1_place 16 = .ok (.ireturn, 1) := by decide +kernel
theorem dX1_second_0 : decode cX1_second 0 = .ok (.aload_n 0, 1) := by decide +kernel
theorem dX1_second_1 : decode cX1_second 1 = .ok (.getfield 14, 3) := by decide +kernel
theorem dX1_second_4 : decode cX1_second 4 = .ok (.bipush 20, 2) := by decide +kernel
theorem dX1_second_6 : decode cX1_second 6 = .ok (.if_icmp .eq 21, 3) := by decide +kernel
theorem dX1_second_9 : decode cX1_second 9 = .ok (.aload_n 0, 1) := by decide +kernel
theorem dX1_second_10 : decode cX1_second 10 = .ok (.getfield 14, 3) := by decide +kernel
theorem dX1_second_13 : decode cX1_second 13 = .ok (.bipush 21, 2) := by decide +kernel
theorem dX1_second_15 : decode cX1_second 15 = .ok (.if_icmp .eq 12, 3) := by decide +kernel
theorem dX1_second_18 : decode cX1_second 18 = .ok (.aload_n 0, 1) := by decide +kernel
theorem dX1_second_19 : decode cX1_second 19 = .ok (.getfield 14, 3) := by decide +kernel
theorem dX1_second_22 : decode cX1_second 22 = .ok (.bipush 23, 2) := by decide +kernel
theorem dX1_second_24 : decode cX1_second 24 = .ok (.if_icmp .ne 13, 3) := by decide +kernel
theorem dX1_second_27 : decode cX1_second 27 = .ok (.aload_n 0, 1) := by decide +kernel
theorem dX1_second_28 : decode cX1_second 28 = .ok (.getfield 73, 3) := by decide +kernel
theorem dX1_second_31 : decode cX1_second 31 = .ok (.iconst 2, 1) := by decide +kernel
theorem dX1_second_32 : decode cX1_second 32 = .ok (.lshr, 1) := by decide +kernel
theorem dX1_second_33 : decode cX1_second 33 = .ok (.l2i, 1) := by decide +kernel
theorem dX1_second_34 : decode cX1_second 34 = .ok (.goto 4, 3) := by decide +kernel
theorem dX1_second_37 : decode cX1_second 37 = .ok (.iconst 0, 1) := by decide +kernel
theorem dX1_second_38 : decode cX1_second 38 = .ok (.ireturn, 1) := by decide +kernel
theorem dX1_entry_0 : decode cX1_entry 0 = .ok (.aload_n 0, 1) := by decide +kernel
theorem dX1_entry_1 : decode cX1_entry 1 = .ok (.getfield 14, 3) := by decide +kernel
theorem dX1_entry_4 : decode cX1_entry 4 = .ok (.bipush 20, 2) := by decide +kernel
theorem dX1_entry_6 : decode cX1_entry 6 = .ok (.if_icmp .eq 21, 3) := by decide +kernel
theorem dX1_entry_9 : decode cX1_entry 9 = .ok (.aload_n 0, 1) := by decide +kernel
theorem dX1_entry_10 : decode cX1_entry 10 = .ok (.getfield 14, 3) := by decide +kernel
theorem dX1_entry_13 : decode cX1_entry 13 = .ok (.bipush 21, 2) := by decide +kernel
theorem dX1_entry_15 : decode cX1_entry 15 = .ok (.if_icmp .eq 12, 3) := by decide +kernel
theorem dX1_entry_18 : decode cX1_entry 18 = .ok (.aload_n 0, 1) := by decide +kernel
theorem dX1_entry_19 : decode cX1_entry 19 = .ok (.getfield 14, 3) := by decide +kernel
theorem dX1_entry_22 : decode cX1_entry 22 = .ok (.bipush 23, 2) := by decide +kernel
theorem dX1_entry_24 : decode cX1_entry 24 = .ok (.if_icmp .ne 14, 3) := by decide +kernel
theorem dX1_entry_27 : decode cX1_entry 27 = .ok (.aload_n 0, 1) := by decide +kernel
theorem dX1_entry_28 : decode cX1_entry 28 = .ok (.getfield 77, 3) := by decide +kernel
theorem dX1_entry_31 : decode cX1_entry 31 = .ok (.ifCond .eq 7, 3) := by decide +kernel
theorem dX1_entry_34 : decode cX1_entry 34 = .ok (.iconst 1, 1) := by decide +kernel
theorem dX1_entry_35 : decode cX1_entry 35 = .ok (.goto 4, 3) := by decide +kernel
theorem dX1_entry_38 : decode cX1_entry 38 = .ok (.iconst 0, 1) := by decide +kernel
theorem dX1_entry_39 : decode cX1_entry 39 = .ok (.ireturn, 1) := by decide +kernel
end
section
/-! decode rows of the larger methods of the reference -/
theorem dX1_second_w_0 : decode cX1_second_w 0 = .ok (.aload_n 0, 1) := by decide +kernel
theorem dX1_second_w_1 : decode cX1_second_w 1 = .ok (.getfield 24, 3) := by decide +kernel
theorem dX1_second_w_4 : decode cX1_second_w 4 = .ok (.ifCond .lt 11, 3) := by decide +kernel
theorem dX1_second_w_7 : decode cX1_second_w 7 = .ok (.aload_n 0, 1) := by decide +kernel
theorem dX1_second_w_8 : decode cX1_second_w 8 = .ok (.iload 4, 2) := by decide +kernel
theorem dX1_second_w_10 : decode cX1_second_w 10 = .ok (.lload_n 1, 1) := by decide +kernel
theorem dX1_second_w_11 : decode cX1_second_w 11 = .ok (.invokevirtual 48, 3) := by decide +kernel
theorem dX1_second_w_14 : decode cX1_second_w 14 = .ok (.lreturn, 1) := by decide +kernel
theorem dX1_second_w_15 : decode cX1_second_w 15 = .ok (.aload_n 0, 1) := by decide +kernel
theorem dX1_second_w_16 : decode cX1_second_w 16 = .ok (.getfield 24, 3) := by decide +kernel
theorem dX1_second_w_19 : decode cX1_second_w 19 = .ok (.ldc 52, 2) := by decide +kernel
theorem dX1_second_w_21 : decode cX1_second_w 21 = .ok (.iand, 1) := by decide +kernel
theorem dX1_second_w_22 : decode cX1_second_w 22 = .ok (.i2l, 1) := by decide +kernel
theorem dX1_second_w_23 : decode cX1_second_w 23 = .ok (.bipush 12, 2) := by decide +kernel
theorem dX1_second_w_25 : decode cX1_second_w 25 = .ok (.lshl, 1) := by decide +kernel
theorem dX1_second_w_26 : decode cX1_second_w 26 = .ok (.lstore 6, 2) := by decide +kernel
theorem dX1_second_w_28 : decode cX1_second_w 28 = .ok (.iconst 1, 1) := by decide +kernel
theorem dX1_second_w_29 : decode cX1_second_w 29 = .ok (.istore 8, 2) := by decide +kernel
theorem dX1_second_w_31 : decode cX1_second_w 31 = .ok (.iload 8, 2) := by decide +kernel
theorem dX1_second_w_33 : decode cX1_second_w 33 = .ok (.ifCond .lt 242, 3) := by decide +kernel
theorem dX1_second_w_36 : decode cX1_second_w 36 = .ok (.lload 6, 2) := by decide +kernel
theorem dX1_second_w_38 : decode cX1_second_w 38 = .ok (.ldc2_w 53, 3) := by decide +kernel
theorem dX1_second_w_41 : decode cX1_second_w 41 = .ok (.iload 8, 2) := by decide +kernel
theorem dX1_second_w_43 : decode cX1_second_w 43 = .ok (.iconst 1, 1) := by decide +kernel
theorem dX1_second_w_44 : decode cX1_second_w 44 = .ok (.if_icmp .ne 14, 3) := by decide +kernel
theorem dX1_second_w_47 : decode cX1_second_w 47 = .ok (.lload_n 1, 1) := by decide +kernel
theorem dX1_second_w_48 : decode cX1_second_w 48 = .ok (.bipush 22, 2) := by decide +kernel
theorem dX1_second_w_50 : decode cX1_second_w 50 = .ok (.lshr, 1) := by decide +kernel
theorem dX1_second_w_51 : decode cX1_second_w 51 = .ok (.ldc2_w 46, 3) := by decide +kernel
theorem dX1_second_w_54 : decode cX1_second_w 54 = .ok (.land, 1) := by decide +kernel
theorem dX1_second_w_55 : decode cX1_second_w 55 = .ok (.goto 11, 3) := by decide +kernel
theorem dX1_second_w_58 : decode cX1_second_w 58 = .ok (.lload_n 1, 1) := by decide +kernel
theorem dX1_second_w_59 : decode cX1_second_w 59 = .ok (.bipush 12, 2) := by decide +kernel
theorem dX1_second_w_61 : decode cX1_second_w 61 = .ok (.lshr, 1) := by decide +kernel
theorem dX1_second_w_62 : decode cX1_second_w 62 = .ok (.ldc2_w 44, 3) := by decide +kernel
theorem dX1_second_w_65 : decode cX1_second_w 65 = .ok (.land, 1) := by decide +kernel
theorem dX1_second_w_66 : decode cX1_second_w 66 = .ok (.lmul, 1) := by decide +kernel
theorem dX1_second_w_67 : decode cX1_second_w 67 = .ok (.ladd, 1) := by decide +kernel
theorem dX1_second_w_68 : decode cX1_second_w 68 = .ok (.lstore 9, 2) := by decide +kernel
theorem dX1_second_w_70 : decode cX1_second_w 70 = .ok (.aload_n 0, 1) := by decide +kernel
theorem dX1_second_w_71 : decode cX1_second_w 71 = .ok (.iload 4, 2) := by decide +kernel
theorem dX1_second_w_73 : decode cX1_second_w 73 = .ok (.lload 9, 2) := by decide +kernel
theorem dX1_second_w_75 : decode cX1_second_w 75 = .ok (.invokevirtual 48, 3) := by decide +kernel
theorem dX1_second_w_78 : decode cX1_second_w 78 = .ok (.lstore 9, 2) := by decide +kernel
theorem dX1_second_w_80 : decode cX1_second_w 80 = .ok (.aload_n 0, 1) := by decide +kernel
theorem dX1_second_w_81 : decode cX1_second_w 81 = .ok (.getfield 14, 3) := by decide +kernel
theorem dX1_second_w_84 : decode cX1_second_w 84 = .ok (.ifCond .eq 5, 3) := by decide +kernel
theorem dX1_second_w_87 : decode cX1_second_w 87 = .ok (.lconst 0, 1) := by decide +kernel
theorem dX1_second_w_88 : decode cX1_second_w 88 = .ok (.lreturn, 1) := by decide +kernel
theorem dX1_second_w_89 : decode cX1_second_w 89 = .ok (.aload_n 0, 1) := by decide +kernel
theorem dX1_second_w_90 : decode cX1_second_w 90 = .ok (.getfield 8, 3) := by decide +kernel
theorem dX1_second_w_93 : decode cX1_second_w 93 = .ok (.lload 9, 2) := by decide +kernel
theorem dX1_second_w_95 : decode cX1_second_w 95 = .ok (.ldc2_w 53, 3) := by decide +kernel
theorem dX1_second_w_98 : decode cX1_second_w 98 = .ok (.ldiv, 1) := by decide +kernel
theorem dX1_second_w_99 : decode cX1_second_w 99 = .ok (.l2i, 1) := by decide +kernel
theorem dX1_second_w_100 : decode cX1_second_w 100 = .ok (.iaload, 1) := by decide +kernel
theorem dX1_second_w_101 : decode cX1_second_w 101 = .ok (.istore 11, 2) := by decide +kernel
theorem dX1_second_w_103 : decode cX1_second_w 103 = .ok (.iload 11, 2) := by decide +kernel
theorem dX1_second_w_105 : decode cX1_second_w 105 = .ok (.invokestatic 55, 3) := by decide +kernel
theorem dX1_second_w_108 : decode cX1_second_w 108 = .ok (.ifCond .eq 110, 3) := by decide +kernel
theorem dX1_second_w_111 : decode cX1_second_w 111 = .ok (.iload 11, 2) := by decide +kernel
theorem dX1_second_w_113 : decode cX1_second_w 113 = .ok (.invokestatic 59, 3) := by decide +kernel
theorem dX1_second_w_116 : decode cX1_second_w 116 = .ok (.ifCond .eq 102, 3) := by decide +kernel
theorem dX1_second_w_119 : decode cX1_second_w 119 = .ok (.iload 8, 2) := by decide +kernel
theorem dX1_second_w_121 : decode cX1_second_w 121 = .ok (.iconst 1, 1) := by decide +kernel
theorem dX1_second_w_122 : decode cX1_second_w 122 = .ok (.if_icmp .ne 7, 3) := by decide +kernel
theorem dX1_second_w_125 : decode cX1_second_w 125 = .ok (.iconst 1, 1) := by decide +kernel
theorem dX1_second_w_126 : decode cX1_second_w 126 = .ok (.goto 4, 3) := by decide +kernel
theorem dX1_second_w_129 : decode cX1_second_w 129 = .ok (.iconst 0, 1) := by decide +kernel
theorem dX1_second_w_130 : decode cX1_second_w 130 = .ok (.istore 12, 2) := by decide +kernel
theorem dX1_second_w_132 : decode cX1_second_w 132 = .ok (.iload 12, 2) := by decide +kernel
theorem dX1_second_w_134 : decode cX1_second_w 134 = .ok (.ifCond .eq 15, 3) := by decide +kernel
theorem dX1_second_w_137 : decode cX1_second_w 137 = .ok (.iload 11, 2) := by decide +kernel
theorem dX1_second_w_139 : decode cX1_second_w 139 = .ok (.bipush 10, 2) := by decide +kernel
theorem dX1_second_w_141 : decode cX1_second_w 141 = .ok (.ishr, 1) := by decide +kernel
theorem dX1_second_w_142 : decode cX1_second_w 142 = .ok (.sipush 1023, 3) := by decide +kernel
theorem dX1_second_w_145 : decode cX1_second_w 145 = .ok (.iand, 1) := by decide +kernel
theorem dX1_second_w_146 : decode cX1_second_w 146 = .ok (.ifCond .ne 7, 3) := by decide +kernel
theorem dX1_second_w_149 : decode cX1_second_w 149 = .ok (.iconst 1, 1) := by decide +kernel
theorem dX1_second_w_150 : decode cX1_second_w 150 = .ok (.goto 4, 3) := by decide +kernel
theorem dX1_second_w_153 : decode cX1_second_w 153 = .ok (.iconst 0, 1) := by decide +kernel
theorem dX1_second_w_154 : decode cX1_second_w 154 = .ok (.istore 13, 2) := by decide +kernel
theorem dX1_second_w_156 : decode cX1_second_w 156 = .ok (.iload 13, 2) := by decide +kernel
theorem dX1_second_w_158 : decode cX1_second_w 158 = .ok (.ifCond .eq 54, 3) := by decide +kernel
theorem dX1_second_w_161 : decode cX1_second_w 161 = .ok (.iload 11, 2) := by decide +kernel
theorem dX1_second_w_163 : decode cX1_second_w 163 = .ok (.iconst 4, 1) := by decide +kernel
theorem dX1_second_w_164 : decode cX1_second_w 164 = .ok (.invokestatic 38, 3) := by decide +kernel
theorem dX1_second_w_167 : decode cX1_second_w 167 = .ok (.ifCond .eq 45, 3) := by decide +kernel
theorem dX1_second_w_170 : decode cX1_second_w 170 = .ok (.iload 11, 2) := by decide +kernel
theorem dX1_second_w_172 : decode cX1_second_w 172 = .ok (.iload_n 3, 1) := by decide +kernel
theorem dX1_second_w_173 : decode cX1_second_w 173 = .ok (.iload 5, 2) := by decide +kernel
theorem dX1_second_w_175 : decode cX1_second_w 175 = .ok (.ifCond .ne 15, 3) := by decide +kernel
theorem dX1_second_w_178 : decode cX1_second_w 178 = .ok (.aload_n 0, 1) := by decide +kernel
theorem dX1_second_w_179 : decode cX1_second_w 179 = .ok (.iconst 1, 1) := by decide +kernel
theorem dX1_second_w_180 : decode cX1_second_w 180 = .ok (.invokevirtual 62, 3) := by decide +kernel
theorem dX1_second_w_183 : decode cX1_second_w 183 = .ok (.ifCond .eq 7, 3) := by decide +kernel
theorem dX1_second_w_186 : decode cX1_second_w 186 = .ok (.iconst 1, 1) := by decide +kernel
theorem dX1_second_w_187 : decode cX1_second_w 187 = .ok (.goto 4, 3) := by decide +kernel
theorem dX1_second_w_190 : decode cX1_second_w 190 = .ok (.iconst 0, 1) := by decide +kernel
theorem dX1_second_w_191 : decode cX1_second_w 191 = .ok (.invokestatic 65, 3) := by decide +kernel
theorem dX1_second_w_194 : decode cX1_second_w 194 = .ok (.ifCond .eq 18, 3) := by decide +kernel
theorem dX1_second_w_197 : decode cX1_second_w 197 = .ok (.aload_n 0, 1) := by decide +kernel
theorem dX1_second_w_198 : decode cX1_second_w 198 = .ok (.iload 4, 2) := by decide +kernel
theorem dX1_second_w_200 : decode cX1_second_w 200 = .ok (.iload 11, 2) := by decide +kernel
theorem dX1_second_w_202 : decode cX1_second_w 202 = .ok (.iload 12, 2) := by decide +kernel
theorem dX1_second_w_204 : decode cX1_second_w 204 = .ok (.lload_n 1, 1) := by decide +kernel
theorem dX1_second_w_205 : decode cX1_second_w 205 = .ok (.invokestatic 69, 3) := by decide +kernel
theorem dX1_second_w_208 : decode cX1_second_w 208 = .ok (.invokevirtual 48, 3) := by decide +kernel
theorem dX1_second_w_211 : decode cX1_second_w 211 = .ok (.lreturn, 1) := by decide +kernel
theorem dX1_second_w_212 : decode cX1_second_w 212 = .ok (.iconst 0, 1) := by decide +kernel
theorem dX1_second_w_213 : decode cX1_second_w 213 = .ok (.istore 8, 2) := by decide +kernel
theorem dX1_second_w_215 : decode cX1_second_w 215 = .ok (.goto 43, 3) := by decide +kernel
theorem dX1_second_w_218 : decode cX1_second_w 218 = .ok (.iload 11, 2) := by decide +kernel
theorem dX1_second_w_220 : decode cX1_second_w 220 = .ok (.invokestatic 55, 3) := by decide +kernel
theorem dX1_second_w_223 : decode cX1_second_w 223 = .ok (.ifCond .eq 32, 3) := by decide +kernel
theorem dX1_second_w_226 : decode cX1_second_w 226 = .ok (.iload 11, 2) := by decide +kernel
theorem dX1_second_w_228 : decode cX1_second_w 228 = .ok (.iconst 4, 1) := by decide +kernel
theorem dX1_second_w_229 : decode cX1_second_w 229 = .ok (.invokestatic 38, 3) := by decide +kernel
theorem dX1_second_w_232 : decode cX1_second_w 232 = .ok (.ifCond .ne 23, 3) := by decide +kernel
theorem dX1_second_w_235 : decode cX1_second_w 235 = .ok (.iload 11, 2) := by decide +kernel
theorem dX1_second_w_237 : decode cX1_second_w 237 = .ok (.bipush 6, 2) := by decide +kernel
theorem dX1_second_w_239 : decode cX1_second_w 239 = .ok (.invokestatic 38, 3) := by decide +kernel
theorem dX1_second_w_242 : decode cX1_second_w 242 = .ok (.ifCond .ne 13, 3) := by decide +kernel
theorem dX1_second_w_245 : decode cX1_second_w 245 = .ok (.iload 11, 2) := by decide +kernel
theorem dX1_second_w_247 : decode cX1_second_w 247 = .ok (.bipush 7, 2) := by decide +kernel
theorem dX1_second_w_249 : decode cX1_second_w 249 = .ok (.invokestatic 38, 3) := by decide +kernel
theorem dX1_second_w_252 : decode cX1_second_w 252 = .ok (.ifCond .eq 6, 3) := by decide +kernel
theorem dX1_second_w_255 : decode cX1_second_w 255 = .ok (.iconst 0, 1) := by decide +kernel
theorem dX1_second_w_256 : decode cX1_second_w 256 = .ok (.istore 8, 2) := by decide +kernel
theorem dX1_second_w_258 : decode cX1_second_w 258 = .ok (.iload 11, 2) := by decide +kernel
theorem dX1_second_w_260 : decode cX1_second_w 260 = .ok (.bipush 10, 2) := by decide +kernel
theorem dX1_second_w_262 : decode cX1_second_w 262 = .ok (.iushr, 1) := by decide +kernel
theorem dX1_second_w_263 : decode cX1_second_w 263 = .ok (.i2l, 1) := by decide +kernel
theorem dX1_second_w_264 : decode cX1_second_w 264 = .ok (.bipush 12, 2) := by decide +kernel
theorem dX1_second_w_266 : decode cX1_second_w 266 = .ok (.lshl, 1) := by decide +kernel
theorem dX1_second_w_267 : decode cX1_second_w 267 = .ok (.lstore 6, 2) := by decide +kernel
theorem dX1_second_w_269 : decode cX1_second_w 269 = .ok (.iinc 8 (-1), 3) := by decide +kernel
theorem dX1_second_w_272 : decode cX1_second_w 272 = .ok (.goto (-241), 3) := by decide +kernel
theorem dX1_second_w_275 : decode cX1_second_w 275 = .ok (.aload_n 0, 1) := by decide +kernel
theorem dX1_second_w_276 : decode cX1_second_w 276 = .ok (.iload 4, 2) := by decide +kernel
theorem dX1_second_w_278 : decode cX1_second_w 278 = .ok (.bipush 20, 2) := by decide +kernel
theorem dX1_second_w_280 : decode cX1_second_w 280 = .ok (.bipush 21, 2) := by decide +kernel
theorem dX1_second_w_282 : decode cX1_second_w 282 = .ok (.bipush 23, 2) := by decide +kernel
theorem dX1_second_w_284 : decode cX1_second_w 284 = .ok (.invokevirtual 34, 3) := by decide +kernel
theorem dX1_second_w_287 : decode cX1_second_w 287 = .ok (.aload_n 0, 1) := by decide +kernel
theorem dX1_second_w_288 : decode cX1_second_w 288 = .ok (.lload_n 1, 1) := by decide +kernel
theorem dX1_second_w_289 : decode cX1_second_w 289 = .ok (.putfield 73, 3) := by decide +kernel
theorem dX1_second_w_292 : decode cX1_second_w 292 = .ok (.aload_n 0, 1) := by decide +kernel
theorem dX1_second_w_293 : decode cX1_second_w 293 = .ok (.iload 5, 2) := by decide +kernel
theorem dX1_second_w_295 : decode cX1_second_w 295 = .ok (.putfield 77, 3) := by decide +kernel
theorem dX1_second_w_298 : decode cX1_second_w 298 = .ok (.lconst 0, 1) := by decide +kernel
theorem dX1_second_w_299 : decode cX1_second_w 299 = .ok (.lreturn, 1) := by decide +kernel
theorem dX1_first_0 : decode cX1_first 0 = .ok (.iload_n 1, 1) := by decide +kernel
theorem dX1_first_1 : decode cX1_first 1 = .ok (.ifCond .lt 5, 3) := by decide +kernel
theorem dX1_first_4 : decode cX1_first 4 = .ok (.lload_n 2, 1) := by decide +kernel
theorem dX1_first_5 : decode cX1_first 5 = .ok (.lreturn, 1) := by decide +kernel
theorem dX1_first_6 : decode cX1_first 6 = .ok (.iload_n 1, 1) := by decide +kernel
theorem dX1_first_7 : decode cX1_first 7 = .ok (.ldc 81, 2) := by decide +kernel
theorem dX1_first_9 : decode cX1_first 9 = .ok (.iand, 1) := by decide +kernel
theorem dX1_first_10 : decode cX1_first 10 = .ok (.i2l, 1) := by decide +kernel
theorem dX1_first_11 : decode cX1_first 11 = .ok (.bipush 12, 2) := by decide +kernel
theorem dX1_first_13 : decode cX1_first 13 = .ok (.lshl, 1) := by decide +kernel
theorem dX1_first_14 : decode cX1_first 14 = .ok (.lstore 9, 2) := by decide +kernel
theorem dX1_first_16 : decode cX1_first 16 = .ok (.iconst 1, 1) := by decide +kernel
theorem dX1_first_17 : decode cX1_first 17 = .ok (.istore 11, 2) := by decide +kernel
theorem dX1_first_19 : decode cX1_first 19 = .ok (.iload 11, 2) := by decide +kernel
theorem dX1_first_21 : decode cX1_first 21 = .ok (.ifCond .lt 245, 3) := by decide +kernel
theorem dX1_first_24 : decode cX1_first 24 = .ok (.lload 9, 2) := by decide +kernel
theorem dX1_first_26 : decode cX1_first 26 = .ok (.ldc2_w 53, 3) := by decide +kernel
theorem dX1_first_29 : decode cX1_first 29 = .ok (.iload 11, 2) := by decide +kernel
theorem dX1_first_31 : decode cX1_first 31 = .ok (.iconst 1, 1) := by decide +kernel
theorem dX1_first_32 : decode cX1_first 32 = .ok (.if_icmp .ne 14, 3) := by decide +kernel
theorem dX1_first_35 : decode cX1_first 35 = .ok (.lload_n 2, 1) := by decide +kernel
theorem dX1_first_36 : decode cX1_first 36 = .ok (.bipush 22, 2) := by decide +kernel
theorem dX1_first_38 : decode cX1_first 38 = .ok (.lshr, 1) := by decide +kernel
theorem dX1_first_39 : decode cX1_first 39 = .ok (.ldc2_w 44, 3) := by decide +kernel
theorem dX1_first_42 : decode cX1_first 42 = .ok (.land, 1) := by decide +kernel
theorem dX1_first_43 : decode cX1_first 43 = .ok (.goto 11, 3) := by decide +kernel
theorem dX1_first_46 : decode cX1_first 46 = .ok (.lload_n 2, 1) := by decide +kernel
theorem dX1_first_47 : decode cX1_first 47 = .ok (.bipush 12, 2) := by decide +kernel
theorem dX1_first_49 : decode cX1_first 49 = .ok (.lshr, 1) := by decide +kernel
theorem dX1_first_50 : decode cX1_first 50 = .ok (.ldc2_w 44, 3) := by decide +kernel
theorem dX1_first_53 : decode cX1_first 53 = .ok (.land, 1) := by decide +kernel
theorem dX1_first_54 : decode cX1_first 54 = .ok (.lmul, 1) := by decide +kernel
theorem dX1_first_55 : decode cX1_first 55 = .ok (.ladd, 1) := by decide +kernel
theorem dX1_first_56 : decode cX1_first 56 = .ok (.lstore 12, 2) := by decide +kernel
theorem dX1_first_58 : decode cX1_first 58 = .ok (.iload 8, 2) := by decide +kernel
theorem dX1_first_60 : decode cX1_first 60 = .ok (.ifCond .eq 16, 3) := by decide +kernel
theorem dX1_first_63 : decode cX1_first 63 = .ok (.aload_n 0, 1) := by decide +kernel
theorem dX1_first_64 : decode cX1_first 64 = .ok (.lload 12, 2) := by decide +kernel
theorem dX1_first_66 : decode cX1_first 66 = .ok (.iconst 1, 1) := by decide +kernel
theorem dX1_first_67 : decode cX1_first 67 = .ok (.iload 4, 2) := by decide +kernel
theorem dX1_first_69 : decode cX1_first 69 = .ok (.iconst 1, 1) := by decide +kernel
theorem dX1_first_70 : decode cX1_first 70 = .ok (.invokevirtual 82, 3) := by decide +kernel
theorem dX1_first_73 : decode cX1_first 73 = .ok (.goto 11, 3) := by decide +kernel
theorem dX1_first_76 : decode cX1_first 76 = .ok (.aload_n 0, 1) := by decide +kernel
theorem dX1_first_77 : decode cX1_first 77 = .ok (.iload 4, 2) := by decide +kernel
theorem dX1_first_79 : decode cX1_first 79 = .ok (.lload 12, 2) := by decide +kernel
theorem dX1_first_81 : decode cX1_first 81 = .ok (.invokevirtual 48, 3) := by decide +kernel
theorem dX1_first_84 : decode cX1_first 84 = .ok (.lstore 12, 2) := by decide +kernel
theorem dX1_first_86 : decode cX1_first 86 = .ok (.aload_n 0, 1) := by decide +kernel
theorem dX1_first_87 : decode cX1_first 87 = .ok (.getfield 14, 3) := by decide +kernel
theorem dX1_first_90 : decode cX1_first 90 = .ok (.ifCond .eq 5, 3) := by decide +kernel
theorem dX1_first_93 : decode cX1_first 93 = .ok (.lconst 0, 1) := by decide +kernel
theorem dX1_first_94 : decode cX1_first 94 = .ok (.lreturn, 1) := by decide +kernel
theorem dX1_first_95 : decode cX1_first 95 = .ok (.aload_n 0, 1) := by decide +kernel
theorem dX1_first_96 : decode cX1_first 96 = .ok (.getfield 8, 3) := by decide +kernel
theorem dX1_first_99 : decode cX1_first 99 = .ok (.lload 12, 2) := by decide +kernel
theorem dX1_first_101 : decode cX1_first 101 = .ok (.ldc2_w 53, 3) := by decide +kernel
theorem dX1_first_104 : decode cX1_first 104 = .ok (.ldiv, 1) := by decide +kernel
theorem dX1_first_105 : decode cX1_first 105 = .ok (.l2i, 1) := by decide +kernel
theorem dX1_first_106 : decode cX1_first 106 = .ok (.iaload, 1) := by decide +kernel
theorem dX1_first_107 : decode cX1_first 107 = .ok (.istore 14, 2) := by decide +kernel
theorem dX1_first_109 : decode cX1_first 109 = .ok (.iload 14, 2) := by decide +kernel
theorem dX1_first_111 : decode cX1_first 111 = .ok (.invokestatic 55, 3) := by decide +kernel
theorem dX1_first_114 : decode cX1_first 114 = .ok (.ifCond .eq 95, 3) := by decide +kernel
theorem dX1_first_117 : decode cX1_first 117 = .ok (.iload 14, 2) := by decide +kernel
theorem dX1_first_119 : decode cX1_first 119 = .ok (.invokestatic 59, 3) := by decide +kernel
theorem dX1_first_122 : decode cX1_first 122 = .ok (.ifCond .eq 87, 3) := by decide +kernel
theorem dX1_first_125 : decode cX1_first 125 = .ok (.iload 11, 2) := by decide +kernel
theorem dX1_first_127 : decode cX1_first 127 = .ok (.iconst 1, 1) := by decide +kernel
theorem dX1_first_128 : decode cX1_first 128 = .ok (.if_icmp .ne 7, 3) := by decide +kernel
theorem dX1_first_131 : decode cX1_first 131 = .ok (.iconst 1, 1) := by decide +kernel
theorem dX1_first_132 : decode cX1_first 132 = .ok (.goto 4, 3) := by decide +kernel
theorem dX1_first_135 : decode cX1_first 135 = .ok (.iconst 0, 1) := by decide +kernel
theorem dX1_first_136 : decode cX1_first 136 = .ok (.istore 15, 2) := by decide +kernel
theorem dX1_first_138 : decode cX1_first 138 = .ok (.iload 15, 2) := by decide +kernel
theorem dX1_first_140 : decode cX1_first 140 = .ok (.ifCond .eq 15, 3) := by decide +kernel
theorem dX1_first_143 : decode cX1_first 143 = .ok (.iload 14, 2) := by decide +kernel
theorem dX1_first_145 : decode cX1_first 145 = .ok (.bipush 10, 2) := by decide +kernel
theorem dX1_first_147 : decode cX1_first 147 = .ok (.ishr, 1) := by decide +kernel
theorem dX1_first_148 : decode cX1_first 148 = .ok (.sipush 1023, 3) := by decide +kernel
theorem dX1_first_151 : decode cX1_first 151 = .ok (.iand, 1) := by decide +kernel
theorem dX1_first_152 : decode cX1_first 152 = .ok (.ifCond .ne 7, 3) := by decide +kernel
theorem dX1_first_155 : decode cX1_first 155 = .ok (.iconst 1, 1) := by decide +kernel
theorem dX1_first_156 : decode cX1_first 156 = .ok (.goto 4, 3) := by decide +kernel
theorem dX1_first_159 : decode cX1_first 159 = .ok (.iconst 0, 1) := by decide +kernel
theorem dX1_first_160 : decode cX1_first 160 = .ok (.istore 16, 2) := by decide +kernel
theorem dX1_first_162 : decode cX1_first 162 = .ok (.iload 16, 2) := by decide +kernel
theorem dX1_first_164 : decode cX1_first 164 = .ok (.ifCond .eq 39, 3) := by decide +kernel
theorem dX1_first_167 : decode cX1_first 167 = .ok (.aload_n 0, 1) := by decide +kernel
theorem dX1_first_168 : decode cX1_first 168 = .ok (.iload 14, 2) := by decide +kernel
theorem dX1_first_170 : decode cX1_first 170 = .ok (.iload 5, 2) := by decide +kernel
theorem dX1_first_172 : decode cX1_first 172 = .ok (.iload 4, 2) := by decide +kernel
theorem dX1_first_174 : decode cX1_first 174 = .ok (.iload 6, 2) := by decide +kernel
theorem dX1_first_176 : decode cX1_first 176 = .ok (.invokevirtual 86, 3) := by decide +kernel
theorem dX1_first_179 : decode cX1_first 179 = .ok (.ifCond .eq 24, 3) := by decide +kernel
theorem dX1_first_182 : decode cX1_first 182 = .ok (.iload 14, 2) := by decide +kernel
theorem dX1_first_184 : decode cX1_first 184 = .ok (.iload 4, 2) := by decide +kernel
theorem dX1_first_186 : decode cX1_first 186 = .ok (.iload 7, 2) := by decide +kernel
theorem dX1_first_188 : decode cX1_first 188 = .ok (.invokestatic 65, 3) := by decide +kernel
theorem dX1_first_191 : decode cX1_first 191 = .ok (.ifCond .eq 12, 3) := by decide +kernel
theorem dX1_first_194 : decode cX1_first 194 = .ok (.iload 14, 2) := by decide +kernel
theorem dX1_first_196 : decode cX1_first 196 = .ok (.iload 15, 2) := by decide +kernel
theorem dX1_first_198 : decode cX1_first 198 = .ok (.lload_n 2, 1) := by decide +kernel
theorem dX1_first_199 : decode cX1_first 199 = .ok (.invokestatic 69, 3) := by decide +kernel
theorem dX1_first_202 : decode cX1_first 202 = .ok (.lreturn, 1) := by decide +kernel
theorem dX1_first_203 : decode cX1_first 203 = .ok (.iconst 0, 1) := by decide +kernel
theorem dX1_first_204 : decode cX1_first 204 = .ok (.istore 11, 2) := by decide +kernel
theorem dX1_first_206 : decode cX1_first 206 = .ok (.goto 43, 3) := by decide +kernel
theorem dX1_first_209 : decode cX1_first 209 = .ok (.iload 14, 2) := by decide +kernel
theorem dX1_first_211 : decode cX1_first 211 = .ok (.invokestatic 55, 3) := by decide +kernel
theorem dX1_first_214 : decode cX1_first 214 = .ok (.ifCond .eq 32, 3) := by decide +kernel
theorem dX1_first_217 : decode cX1_first 217 = .ok (.iload 14, 2) := by decide +kernel
theorem dX1_first_219 : decode cX1_first 219 = .ok (.iconst 4, 1) := by decide +kernel
theorem dX1_first_220 : decode cX1_first 220 = .ok (.invokestatic 38, 3) := by decide +kernel
theorem dX1_first_223 : decode cX1_first 223 = .ok (.ifCond .ne 23, 3) := by decide +kernel
theorem dX1_first_226 : decode cX1_first 226 = .ok (.iload 14, 2) := by decide +kernel
theorem dX1_first_228 : decode cX1_first 228 = .ok (.bipush 6, 2) := by decide +kernel
theorem dX1_first_230 : decode cX1_first 230 = .ok (.invokestatic 38, 3) := by decide +kernel
theorem dX1_first_233 : decode cX1_first 233 = .ok (.ifCond .ne 13, 3) := by decide +kernel
theorem dX1_first_236 : decode cX1_first 236 = .ok (.iload 14, 2) := by decide +kernel
theorem dX1_first_238 : decode cX1_first 238 = .ok (.bipush 7, 2) := by decide +kernel
theorem dX1_first_240 : decode cX1_first 240 = .ok (.invokestatic 38, 3) := by decide +kernel
theorem dX1_first_243 : decode cX1_first 243 = .ok (.ifCond .eq 6, 3) := by decide +kernel
theorem dX1_first_246 : decode cX1_first 246 = .ok (.iconst 0, 1) := by decide +kernel
theorem dX1_first_247 : decode cX1_first 247 = .ok (.istore 11, 2) := by decide +kernel
theorem dX1_first_249 : decode cX1_first 249 = .ok (.iload 14, 2) := by decide +kernel
theorem dX1_first_251 : decode cX1_first 251 = .ok (.bipush 10, 2) := by decide +kernel
theorem dX1_first_253 : decode cX1_first 253 = .ok (.iushr, 1) := by decide +kernel
theorem dX1_first_254 : decode cX1_first 254 = .ok (.i2l, 1) := by decide +kernel
theorem dX1_first_255 : decode cX1_first 255 = .ok (.bipush 12, 2) := by decide +kernel
theorem dX1_first_257 : decode cX1_first 257 = .ok (.lshl, 1) := by decide +kernel
theorem dX1_first_258 : decode cX1_first 258 = .ok (.lstore 9, 2) := by decide +kernel
theorem dX1_first_260 : decode cX1_first 260 = .ok (.iinc 11 (-1), 3) := by decide +kernel
theorem dX1_first_263 : decode cX1_first 263 = .ok (.goto (-244), 3) := by decide +kernel
theorem dX1_first_266 : decode cX1_first 266 = .ok (.aload_n 0, 1) := by decide +kernel
theorem dX1_first_267 : decode cX1_first 267 = .ok (.iload 4, 2) := by decide +kernel
theorem dX1_first_269 : decode cX1_first 269 = .ok (.bipush 12, 2) := by decide +kernel
theorem dX1_first_271 : decode cX1_first 271 = .ok (.bipush 13, 2) := by decide +kernel
theorem dX1_first_273 : decode cX1_first 273 = .ok (.bipush 15, 2) := by decide +kernel
theorem dX1_first_275 : decode cX1_first 275 = .ok (.invokevirtual 34, 3) := by decide +kernel
theorem dX1_first_278 : decode cX1_first 278 = .ok (.lconst 0, 1) := by decide +kernel
theorem dX1_first_279 : decode cX1_first 279 = .ok (.lreturn, 1) := by decide +kernel
theorem dX1_go_0 : decode cX1_go 0 = .ok (.iload_n 3, 1) := by decide +kernel
theorem dX1_go_1 : decode cX1_go 1 = .ok (.i2l, 1) := by decide +kernel
theorem dX1_go_2 : decode cX1_go 2 = .ok (.ldc2_w 90, 3) := by decide +kernel
theorem dX1_go_5 : decode cX1_go 5 = .ok (.land, 1) := by decide +kernel
theorem dX1_go_6 : decode cX1_go 6 = .ok (.lstore 4, 2) := by decide +kernel
theorem dX1_go_8 : decode cX1_go 8 = .ok (.aload_n 0, 1) := by decide +kernel
theorem dX1_go_9 : decode cX1_go 9 = .ok (.iconst 0, 1) := by decide +kernel
theorem dX1_go_10 : decode cX1_go 10 = .ok (.putfield 14, 3) := by decide +kernel
theorem dX1_go_13 : decode cX1_go 13 = .ok (.aload_n 0, 1) := by decide +kernel
theorem dX1_go_14 : decode cX1_go 14 = .ok (.lconst 0, 1) := by decide +kernel
theorem dX1_go_15 : decode cX1_go 15 = .ok (.putfield 73, 3) := by decide +kernel
theorem dX1_go_18 : decode cX1_go 18 = .ok (.aload_n 0, 1) := by decide +kernel
theorem dX1_go_19 : decode cX1_go 19 = .ok (.iconst 0, 1) := by decide +kernel
theorem dX1_go_20 : decode cX1_go 20 = .ok (.putfield 77, 3) := by decide +kernel
theorem dX1_go_23 : decode cX1_go 23 = .ok (.iload_n 1, 1) := by decide +kernel
theorem dX1_go_24 : decode cX1_go 24 = .ok (.iconst 2, 1) := by decide +kernel
theorem dX1_go_25 : decode cX1_go 25 = .ok (.if_icmp .lt 7, 3) := by decide +kernel
theorem dX1_go_28 : decode cX1_go 28 = .ok (.iconst 1, 1) := by decide +kernel
theorem dX1_go_29 : decode cX1_go 29 = .ok (.goto 4, 3) := by decide +kernel
theorem dX1_go_32 : decode cX1_go 32 = .ok (.iconst 0, 1) := by decide +kernel
theorem dX1_go_33 : decode cX1_go 33 = .ok (.istore 6, 2) := by decide +kernel
theorem dX1_go_35 : decode cX1_go 35 = .ok (.iload_n 1, 1) := by decide +kernel
theorem dX1_go_36 : decode cX1_go 36 = .ok (.iconst 2, 1) := by decide +kernel
theorem dX1_go_37 : decode cX1_go 37 = .ok (.irem, 1) := by decide +kernel
theorem dX1_go_38 : decode cX1_go 38 = .ok (.ifCond .ne 7, 3) := by decide +kernel
theorem dX1_go_41 : decode cX1_go 41 = .ok (.iconst 1, 1) := by decide +kernel
theorem dX1_go_42 : decode cX1_go 42 = .ok (.goto 4, 3) := by decide +kernel
theorem dX1_go_45 : decode cX1_go 45 = .ok (.iconst 0, 1) := by decide +kernel
theorem dX1_go_46 : decode cX1_go 46 = .ok (.istore 7, 2) := by decide +kernel
theorem dX1_go_48 : decode cX1_go 48 = .ok (.iload 6, 2) := by decide +kernel
theorem dX1_go_50 : decode cX1_go 50 = .ok (.ifCond .eq 46, 3) := by decide +kernel
theorem dX1_go_53 : decode cX1_go 53 = .ok (.aload_n 0, 1) := by decide +kernel
theorem dX1_go_54 : decode cX1_go 54 = .ok (.aload_n 0, 1) := by decide +kernel
theorem dX1_go_55 : decode cX1_go 55 = .ok (.getfield 21, 3) := by decide +kernel
theorem dX1_go_58 : decode cX1_go 58 = .ok (.lload 4, 2) := by decide +kernel
theorem dX1_go_60 : decode cX1_go 60 = .ok (.iload_n 2, 1) := by decide +kernel
theorem dX1_go_61 : decode cX1_go 61 = .ok (.iload 7, 2) := by decide +kernel
theorem dX1_go_63 : decode cX1_go 63 = .ok (.aload_n 0, 1) := by decide +kernel
theorem dX1_go_64 : decode cX1_go 64 = .ok (.iconst 2, 1) := by decide +kernel
theorem dX1_go_65 : decode cX1_go 65 = .ok (.invokevirtual 62, 3) := by decide +kernel
theorem dX1_go_68 : decode cX1_go 68 = .ok (.aload_n 0, 1) := by decide +kernel
theorem dX1_go_69 : decode cX1_go 69 = .ok (.iconst 3, 1) := by decide +kernel
theorem dX1_go_70 : decode cX1_go 70 = .ok (.invokevirtual 62, 3) := by decide +kernel
theorem dX1_go_73 : decode cX1_go 73 = .ok (.ifCond .ne 11, 3) := by decide +kernel
theorem dX1_go_76 : decode cX1_go 76 = .ok (.aload_n 0, 1) := by decide +kernel
theorem dX1_go_77 : decode cX1_go 77 = .ok (.iconst 1, 1) := by decide +kernel
theorem dX1_go_78 : decode cX1_go 78 = .ok (.invokevirtual 62, 3) := by decide +kernel
theorem dX1_go_81 : decode cX1_go 81 = .ok (.ifCond .eq 7, 3) := by decide +kernel
theorem dX1_go_84 : decode cX1_go 84 = .ok (.iconst 1, 1) := by decide +kernel
theorem dX1_go_85 : decode cX1_go 85 = .ok (.goto 4, 3) := by decide +kernel
theorem dX1_go_88 : decode cX1_go 88 = .ok (.iconst 0, 1) := by decide +kernel
theorem dX1_go_89 : decode cX1_go 89 = .ok (.iconst 1, 1) := by decide +kernel
theorem dX1_go_90 : decode cX1_go 90 = .ok (.invokevirtual 92, 3) := by decide +kernel
theorem dX1_go_93 : decode cX1_go 93 = .ok (.goto 27, 3) := by decide +kernel
theorem dX1_go_96 : decode cX1_go 96 = .ok (.aload_n 0, 1) := by decide +kernel
theorem dX1_go_97 : decode cX1_go 97 = .ok (.aload_n 0, 1) := by decide +kernel
theorem dX1_go_98 : decode cX1_go 98 = .ok (.getfield 18, 3) := by decide +kernel
theorem dX1_go_101 : decode cX1_go 101 = .ok (.lload 4, 2) := by decide +kernel
theorem dX1_go_103 : decode cX1_go 103 = .ok (.iload_n 2, 1) := by decide +kernel
theorem dX1_go_104 : decode cX1_go 104 = .ok (.iload 7, 2) := by decide +kernel
theorem dX1_go_106 : decode cX1_go 106 = .ok (.aload_n 0, 1) := by decide +kernel
theorem dX1_go_107 : decode cX1_go 107 = .ok (.iconst 0, 1) := by decide +kernel
theorem dX1_go_108 : decode cX1_go 108 = .ok (.invokevirtual 62, 3) := by decide +kernel
theorem dX1_go_111 : decode cX1_go 111 = .ok (.aload_n 0, 1) := by decide +kernel
theorem dX1_go_112 : decode cX1_go 112 = .ok (.iconst 1, 1) := by decide +kernel
theorem dX1_go_113 : decode cX1_go 113 = .ok (.invokevirtual 62, 3) := by decide +kernel
theorem dX1_go_116 : decode cX1_go 116 = .ok (.iconst 0, 1) := by decide +kernel
theorem dX1_go_117 : decode cX1_go 117 = .ok (.invokevirtual 92, 3) := by decide +kernel
theorem dX1_go_120 : decode cX1_go 120 = .ok (.lstore 8, 2) := by decide +kernel
theorem dX1_go_122 : decode cX1_go 122 = .ok (.aload_n 0, 1) := by decide +kernel
theorem dX1_go_123 : decode cX1_go 123 = .ok (.getfield 14, 3) := by decide +kernel
theorem dX1_go_126 : decode cX1_go 126 = .ok (.ifCond .ne 29, 3) := by decide +kernel
theorem dX1_go_129 : decode cX1_go 129 = .ok (.iload 6, 2) := by decide +kernel
theorem dX1_go_131 : decode cX1_go 131 = .ok (.ifCond .eq 15, 3) := by decide +kernel
theorem dX1_go_134 : decode cX1_go 134 = .ok (.aload_n 0, 1) := by decide +kernel
theorem dX1_go_135 : decode cX1_go 135 = .ok (.lload 8, 2) := by decide +kernel
theorem dX1_go_137 : decode cX1_go 137 = .ok (.iload_n 2, 1) := by decide +kernel
theorem dX1_go_138 : decode cX1_go 138 = .ok (.iload_n 2, 1) := by decide +kernel
theorem dX1_go_139 : decode cX1_go 139 = .ok (.iconst 0, 1) := by decide +kernel
theorem dX1_go_140 : decode cX1_go 140 = .ok (.invokevirtual 82, 3) := by decide +kernel
theorem dX1_go_143 : decode cX1_go 143 = .ok (.goto 10, 3) := by decide +kernel
theorem dX1_go_146 : decode cX1_go 146 = .ok (.aload_n 0, 1) := by decide +kernel
theorem dX1_go_147 : decode cX1_go 147 = .ok (.iload_n 2, 1) := by decide +kernel
theorem dX1_go_148 : decode cX1_go 148 = .ok (.lload 8, 2) := by decide +kernel
theorem dX1_go_150 : decode cX1_go 150 = .ok (.invokevirtual 48, 3) := by decide +kernel
theorem dX1_go_153 : decode cX1_go 153 = .ok (.lstore 8, 2) := by decide +kernel
theorem dX1_go_155 : decode cX1_go 155 = .ok (.aload_n 0, 1) := by decide +kernel
theorem dX1_go_156 : decode cX1_go 156 = .ok (.aload_n 0, 1) := by decide +kernel
theorem dX1_go_157 : decode cX1_go 157 = .ok (.getfield 14, 3) := by decide +kernel
theorem dX1_go_160 : decode cX1_go 160 = .ok (.ifCond .ne 8, 3) := by decide +kernel
theorem dX1_go_163 : decode cX1_go 163 = .ok (.lload 8, 2) := by decide +kernel
theorem dX1_go_165 : decode cX1_go 165 = .ok (.goto 4, 3) := by decide +kernel
theorem dX1_go_168 : decode cX1_go 168 = .ok (.lconst 0, 1) := by decide +kernel
theorem dX1_go_169 : decode cX1_go 169 = .ok (.putfield 96, 3) := by decide +kernel
theorem dX1_go_172 : decode cX1_go 172 = .ok (.return_, 1) := by decide +kernel
theorem dX1_pages_0 : decode cX1_pages 0 = .ok (.iload_n 1, 1) := by decide +kernel
theorem dX1_pages_1 : decode cX1_pages 1 = .ok (.iload_n 2, 1) := by decide +kernel
theorem dX1_pages_2 : decode cX1_pages 2 = .ok (.invokestatic 99, 3) := by decide +kernel
theorem dX1_pages_5 : decode cX1_pages 5 = .ok (.ifCond .eq 17, 3) := by decide +kernel
theorem dX1_pages_8 : decode cX1_pages 8 = .ok (.iload 4, 2) := by decide +kernel
theorem dX1_pages_10 : decode cX1_pages 10 = .ok (.iconst 1, 1) := by decide +kernel
theorem dX1_pages_11 : decode cX1_pages 11 = .ok (.if_icmp .lt 11, 3) := by decide +kernel
theorem dX1_pages_14 : decode cX1_pages 14 = .ok (.iload 4, 2) := by decide +kernel
theorem dX1_pages_16 : decode cX1_pages 16 = .ok (.sipush 1024, 3) := by decide +kernel
theorem dX1_pages_19 : decode cX1_pages 19 = .ok (.if_icmp .le 5, 3) := by decide +kernel
theorem dX1_pages_22 : decode cX1_pages 22 = .ok (.iconst (-1), 1) := by decide +kernel
theorem dX1_pages_23 : decode cX1_pages 23 = .ok (.ireturn, 1) := by decide +kernel
theorem dX1_pages_24 : decode cX1_pages 24 = .ok (.aload_n 0, 1) := by decide +kernel
theorem dX1_pages_25 : decode cX1_pages 25 = .ok (.getfield 14, 3) := by decide +kernel
theorem dX1_pages_28 : decode cX1_pages 28 = .ok (.istore 5, 2) := by decide +kernel
theorem dX1_pages_30 : decode cX1_pages 30 = .ok (.aload_n 0, 1) := by decide +kernel
theorem dX1_pages_31 : decode cX1_pages 31 = .ok (.getfield 96, 3) := by decide +kernel
theorem dX1_pages_34 : decode cX1_pages 34 = .ok (.lstore 6, 2) := by decide +kernel
theorem dX1_pages_36 : decode cX1_pages 36 = .ok (.aload_n 0, 1) := by decide +kernel
theorem dX1_pages_37 : decode cX1_pages 37 = .ok (.getfield 73, 3) := by decide +kernel
theorem dX1_pages_40 : decode cX1_pages 40 = .ok (.lstore 8, 2) := by decide +kernel
theorem dX1_pages_42 : decode cX1_pages 42 = .ok (.aload_n 0, 1) := by decide +kernel
theorem dX1_pages_43 : decode cX1_pages 43 = .ok (.getfield 77, 3) := by decide +kernel
theorem dX1_pages_46 : decode cX1_pages 46 = .ok (.istore 10, 2) := by decide +kernel
theorem dX1_pages_48 : decode cX1_pages 48 = .ok (.iconst 0, 1) := by decide +kernel
theorem dX1_pages_49 : decode cX1_pages 49 = .ok (.istore 11, 2) := by decide +kernel
theorem dX1_pages_51 : decode cX1_pages 51 = .ok (.iload_n 3, 1) := by decide +kernel
theorem dX1_pages_52 : decode cX1_pages 52 = .ok (.i2l, 1) := by decide +kernel
theorem dX1_pages_53 : decode cX1_pages 53 = .ok (.ldc2_w 90, 3) := by decide +kernel
theorem dX1_pages_56 : decode cX1_pages 56 = .ok (.land, 1) := by decide +kernel
theorem dX1_pages_57 : decode cX1_pages 57 = .ok (.lstore 12, 2) := by decide +kernel
theorem dX1_pages_59 : decode cX1_pages 59 = .ok (.iconst 0, 1) := by decide +kernel
theorem dX1_pages_60 : decode cX1_pages 60 = .ok (.istore 14, 2) := by decide +kernel
theorem dX1_pages_62 : decode cX1_pages 62 = .ok (.iload 14, 2) := by decide +kernel
theorem dX1_pages_64 : decode cX1_pages 64 = .ok (.iload 4, 2) := by decide +kernel
theorem dX1_pages_66 : decode cX1_pages 66 = .ok (.if_icmp .ge 53, 3) := by decide +kernel
theorem dX1_pages_69 : decode cX1_pages 69 = .ok (.lload 12, 2) := by decide +kernel
theorem dX1_pages_71 : decode cX1_pages 71 = .ok (.ldc2_w 90, 3) := by decide +kernel
theorem dX1_pages_74 : decode cX1_pages 74 = .ok (.lcmp, 1) := by decide +kernel
theorem dX1_pages_75 : decode cX1_pages 75 = .ok (.ifCond .gt 44, 3) := by decide +kernel
theorem dX1_pages_78 : decode cX1_pages 78 = .ok (.aload_n 0, 1) := by decide +kernel
theorem dX1_pages_79 : decode cX1_pages 79 = .ok (.iload_n 1, 1) := by decide +kernel
theorem dX1_pages_80 : decode cX1_pages 80 = .ok (.iload_n 2, 1) := by decide +kernel
theorem dX1_pages_81 : decode cX1_pages 81 = .ok (.lload 12, 2) := by decide +kernel
theorem dX1_pages_83 : decode cX1_pages 83 = .ok (.l2i, 1) := by decide +kernel
theorem dX1_pages_84 : decode cX1_pages 84 = .ok (.invokevirtual 102, 3) := by decide +kernel
theorem dX1_pages_87 : decode cX1_pages 87 = .ok (.aload_n 0, 1) := by decide +kernel
theorem dX1_pages_88 : decode cX1_pages 88 = .ok (.getfield 14, 3) := by decide +kernel
theorem dX1_pages_91 : decode cX1_pages 91 = .ok (.ifCond .ne 10, 3) := by decide +kernel
theorem dX1_pages_94 : decode cX1_pages 94 = .ok (.iload 11, 2) := by decide +kernel
theorem dX1_pages_96 : decode cX1_pages 96 = .ok (.iconst 1, 1) := by decide +kernel
theorem dX1_pages_97 : decode cX1_pages 97 = .ok (.iadd, 1) := by decide +kernel
theorem dX1_pages_98 : decode cX1_pages 98 = .ok (.goto 5, 3) := by decide +kernel
theorem dX1_pages_101 : decode cX1_pages 101 = .ok (.iload 11, 2) := by decide +kernel
theorem dX1_pages_103 : decode cX1_pages 103 = .ok (.istore 11, 2) := by decide +kernel
theorem dX1_pages_105 : decode cX1_pages 105 = .ok (.lload 12, 2) := by decide +kernel
theorem dX1_pages_107 : decode cX1_pages 107 = .ok (.ldc2_w 106, 3) := by decide +kernel
theorem dX1_pages_110 : decode cX1_pages 110 = .ok (.ladd, 1) := by decide +kernel
theorem dX1_pages_111 : decode cX1_pages 111 = .ok (.lstore 12, 2) := by decide +kernel
theorem dX1_pages_113 : decode cX1_pages 113 = .ok (.iinc 14 1, 3) := by decide +kernel
theorem dX1_pages_116 : decode cX1_pages 116 = .ok (.goto (-54), 3) := by decide +kernel
theorem dX1_pages_119 : decode cX1_pages 119 = .ok (.aload_n 0, 1) := by decide +kernel
theorem dX1_pages_120 : decode cX1_pages 120 = .ok (.iload 5, 2) := by decide +kernel
theorem dX1_pages_122 : decode cX1_pages 122 = .ok (.putfield 14, 3) := by decide +kernel
theorem dX1_pages_125 : decode cX1_pages 125 = .ok (.aload_n 0, 1) := by decide +kernel
theorem dX1_pages_126 : decode cX1_pages 126 = .ok (.lload 6, 2) := by decide +kernel
theorem dX1_pages_128 : decode cX1_pages 128 = .ok (.putfield 96, 3) := by decide +kernel
theorem dX1_pages_131 : decode cX1_pages 131 = .ok (.aload_n 0, 1) := by decide +kernel
theorem dX1_pages_132 : decode cX1_pages 132 = .ok (.lload 8, 2) := by decide +kernel
theorem dX1_pages_134 : decode cX1_pages 134 = .ok (.putfield 73, 3) := by decide +kernel
theorem dX1_pages_137 : decode cX1_pages 137 = .ok (.aload_n 0, 1) := by decide +kernel
theorem dX1_pages_138 : decode cX1_pages 138 = .ok (.iload 10, 2) := by decide +kernel
theorem dX1_pages_140 : decode cX1_pages 140 = .ok (.putfield 77, 3) := by decide +kernel
theorem dX1_pages_143 : decode cX1_pages 143 = .ok (.iload 11, 2) := by decide +kernel
theorem dX1_pages_145 : decode cX1_pages 145 = .ok (.ireturn, 1) := by decide +kernel
end
section
/-! StageWalkerModel: the world of an object, its small methods -/
abbrev wm (h0 : Nat) (q_memory : Nat) (k_memory : ClassId) (v_atp : Int32) (v_vsAtp : Int32) (v_hgatp : Int32) (v_rights : Int32) (v_code : Int32) (v_found : Int64) (v_wanted : Int64) (v_ofEntry : Int32) (m_memory : Nat → Int32) : va_W := [(h0, .inr (1, [.ref q_memory, .int v_atp, .int v_vsAtp, .int v_hgatp, .int v_rights, .int v_code, .long v_found, .long v_wanted, .int v_ofEntry])), (q_memory, .inl (k_memory, 65536, .inl m_memory))]
theorem vm_of {a : Int32} (h : ¬ a < 0) (h2 : a ≤ 262124) : ∃ j : Nat, j ≤ 262124 ∧ a = nI j := by
  obtain ⟨j, hj, rfl⟩ := nI_of h
  exact ⟨j, (nI_leI (a := j) (b := 262124) hj (by decide)).mp h2, rfl⟩
theorem vm_poke0 {a z : Int32} (ez : z = a / 4) (h : ¬ a < 0) (h2 : a ≤ 262124) : vp_in z 65536 := by
  obtain ⟨j, hj, rfl⟩ := vm_of h h2
  rw [ez, i4, pk_div (by omega) (by decide) (by decide)]
  exact vp_in_nI (by omega) (by decide)
theorem vm_poke1 {a z : Int32} (ez : z = a / 4) (h : ¬ a < 0) (h2 : a ≤ 262124) : vp_in (z + 1) 65536 := by
  obtain ⟨j, hj, rfl⟩ := vm_of h h2
  rw [ez, i4, pk_div (by omega) (by decide) (by decide), show (1 : Int32) = nI 1 from rfl, nI_add]
  exact vp_in_nI (by omega) (by decide)
theorem vm_poke2 {a z : Int32} (ez : z = a / 4) (h : ¬ a < 0) (h2 : a ≤ 262124) : vp_in (z + 2) 65536 := by
  obtain ⟨j, hj, rfl⟩ := vm_of h h2
  rw [ez, i4, pk_div (by omega) (by decide) (by decide), show (2 : Int32) = nI 2 from rfl, nI_add]
  exact vp_in_nI (by omega) (by decide)
theorem vm_poke3 {a z : Int32} (ez : z = a / 4) (h : ¬ a < 0) (h2 : a ≤ 262124) : vp_in (z + 3) 65536 := by
  obtain ⟨j, hj, rfl⟩ := vm_of h h2
  rw [ez, i4, pk_div (by omega) (by decide) (by decide), show (3 : Int32) = nI 3 from rfl, nI_add]
  exact vp_in_nI (by omega) (by decide)
theorem vm_poke4 {a z : Int32} (ez : z = a / 4) (h : ¬ a < 0) (h2 : a ≤ 262124) : vp_in (z + 4) 65536 := by
  obtain ⟨j, hj, rfl⟩ := vm_of h h2
  rw [ez, i4, pk_div (by omega) (by decide) (by decide), nI_add]
  exact vp_in_nI (by omega) (by decide)
theorem vm_word {a : Int32} (h : ¬ a < 0) (h2 : ¬ 262144 ≤ a) : vp_in (a / 4) 65536 := by
  obtain ⟨j, hj, rfl⟩ := ii_of (n := 262144) rfl (by decide) h h2
  rw [i4, pk_div (by omega) (by decide) (by decide)]
  exact vp_in_nI (by omega) (by decide)
def fm_isSet (a0 : Int32) (a1 : Int32) : Int32 := if ((a0 >>> (a1 &&& 31)) &&& 1) = 1 then 1 else 0
set_option maxHeartbeats 4000000 in
set_option maxRecDepth 100000 in
theorem ctm_isSet (l : Launch) (sz : Nat) (a0 : Int32) (a1 : Int32) : MPi l yX1_isSet wsX1_isSet ({ frames := 0, cells := 0, slots := 0, locals := 0 }) [.int a0, .int a1] sz (fm_isSet a0 a1) := by
  refine Met.ofW (cc := cX1_isSet) (maxL := 2) (ret := (some .boolean)) (by decide) rfl ?_
  intro p e s m args below meth c s₁ B hml hv
  obtain ⟨rfl, hsz⟩ := hv
  have hx := B.exec
  have hb := B.bytes
  have hr := B.returns
  have hts := atoms_spec (ws := wsX1_isSet) B.pre
  have hown : s.vm.findClass RX1 = some m.cls := findClass_of_methodNamed B.named
  have hlocks := B.notSynchronized
  subst hsz
  generalize hAe : va_A [] s.heap.size = A
  have hA : ∀ q : Nat, s.heap.size ≤ q → A q := fun q h => by rw [← hAe]; exact Or.inr h
  have hS : va_S A s.heap s.heap [] := va_S.rf
  have hP : va_P (fun _ => m.cls, fun _ _ => 0) vwCl [] s.heap := fun k q h => by simp at h
  have hl := lv_entry ([.int a0, .int a1]) (n := 2) (Nat.le_of_ble_eq_true rfl)
  rw [lg_entry_eq]
  generalize (lg_sl ([.int a0, .int a1]) ++ List.replicate (2 - (lg_sl ([.int a0, .int a1])).length) Slot.unset).toArray = ls at hl ⊢
  have hl : lv_has ls 2 [(0, .int a0), (1, .int a1)] := hl
  refine lv_iload_n hx hb dX1_isSet_0 rfl (lv_at hl 0 rfl) ?_
  refine lv_iload_n hx hb dX1_isSet_1 rfl (lv_at hl 1 rfl) ?_
  refine lv_ishr hx hb dX1_isSet_2 ?_
  refine lv_iconst (v := 1) hx hb dX1_isSet_3 (by decide) ?_
  refine lv_iand hx hb dX1_isSet_4 ?_
  refine lv_iconst (v := 1) hx hb dX1_isSet_5 (by decide) ?_
  refine lv_icmp_ne (tgt := 13) hx hb dX1_isSet_6 (by decide) (fun c_6 => ?_) (fun c_6 => ?_)
  · skip
    refine lv_iconst (v := 0) hx hb dX1_isSet_13 (by decide) ?_
    exact W.zret (v := 0) (ty := .boolean) hx hb hr nb_0 (fun t ht hW => ⟨⟨_, (), rfl, by first | (rw [fm_isSet, if_neg c_6]; done) | (simp only [fm_isSet, if_neg c_6]; done) | (rw [fm_isSet, if_neg c_6] <;> rfl), trivial⟩, hS.F ht⟩) hS.2.2 dX1_isSet_14
  · skip
    refine lv_iconst (v := 1) hx hb dX1_isSet_9 (by decide) ?_
    refine lv_goto (tgt := 14) hx hb dX1_isSet_10 (by decide) ?_
    exact W.zret (v := 1) (ty := .boolean) hx hb hr nb_1 (fun t ht hW => ⟨⟨_, (), rfl, by first | (rw [fm_isSet, if_pos c_6]; done) | (simp only [fm_isSet, if_pos c_6]; done) | (rw [fm_isSet, if_pos c_6] <;> rfl), trivial⟩, hS.F ht⟩) hS.2.2 dX1_isSet_14
def fm_isLeaf (a0 : Int32) : Int32 := if (a0 &&& 14) = 0 then 0 else 1
set_option maxHeartbeats 4000000 in
set_option maxRecDepth 100000 in
theorem ctm_isLeaf (l : Launch) (sz : Nat) (a0 : Int32) : MPi l yX1_isLeaf wsX1_isLeaf ({ frames := 0, cells := 0, slots := 0, locals := 0 }) [.int a0] sz (fm_isLeaf a0) := by
  refine Met.ofW (cc := cX1_isLeaf) (maxL := 1) (ret := (some .boolean)) (by decide) rfl ?_
  intro p e s m args below meth c s₁ B hml hv
  obtain ⟨rfl, hsz⟩ := hv
  have hx := B.exec
  have hb := B.bytes
  have hr := B.returns
  have hts := atoms_spec (ws := wsX1_isLeaf) B.pre
  have hown : s.vm.findClass RX1 = some m.cls := findClass_of_methodNamed B.named
  have hlocks := B.notSynchronized
  subst hsz
  generalize hAe : va_A [] s.heap.size = A
  have hA : ∀ q : Nat, s.heap.size ≤ q → A q := fun q h => by rw [← hAe]; exact Or.inr h
  have hS : va_S A s.heap s.heap [] := va_S.rf
  have hP : va_P (fun _ => m.cls, fun _ _ => 0) vwCl [] s.heap := fun k q h => by simp at h
  have hl := lv_entry ([.int a0]) (n := 1) (Nat.le_of_ble_eq_true rfl)
  rw [lg_entry_eq]
  generalize (lg_sl ([.int a0]) ++ List.replicate (1 - (lg_sl ([.int a0])).length) Slot.unset).toArray = ls at hl ⊢
  have hl : lv_has ls 1 [(0, .int a0)] := hl
  refine lv_iload_n hx hb dX1_isLeaf_0 rfl (lv_at hl 0 rfl) ?_
  refine lv_bipush (v := 14) hx hb dX1_isLeaf_1 (by decide) ?_
  refine lv_iand hx hb dX1_isLeaf_3 ?_
  refine lv_if_eq (tgt := 11) hx hb dX1_isLeaf_4 (by decide) (fun c_4 => ?_) (fun c_4 => ?_)
  · skip
    refine lv_iconst (v := 0) hx hb dX1_isLeaf_11 (by decide) ?_
    exact W.zret (v := 0) (ty := .boolean) hx hb hr nb_0 (fun t ht hW => ⟨⟨_, (), rfl, by first | (rw [fm_isLeaf, if_pos c_4]; done) | (simp only [fm_isLeaf, if_pos c_4]; done) | (rw [fm_isLeaf, if_pos c_4] <;> rfl), trivial⟩, hS.F ht⟩) hS.2.2 dX1_isLeaf_12
  · skip
    refine lv_iconst (v := 1) hx hb dX1_isLeaf_7 (by decide) ?_
    refine lv_goto (tgt := 12) hx hb dX1_isLeaf_8 (by decide) ?_
    exact W.zret (v := 1) (ty := .boolean) hx hb hr nb_1 (fun t ht hW => ⟨⟨_, (), rfl, by first | (rw [fm_isLeaf, if_neg c_4]; done) | (simp only [fm_isLeaf, if_neg c_4]; done) | (rw [fm_isLeaf, if_neg c_4] <;> rfl), trivial⟩, hS.F ht⟩) hS.2.2 dX1_isLeaf_12
def fm_stands (a0 : Int32) : Int32 := if ((fm_isSet a0 0)) = 0 then 0 else if ((fm_isSet a0 2)) = 0 then 1 else if ((fm_isSet a0 1)) = 0 then 0 else 1
set_option maxHeartbeats 4000000 in
set_option maxRecDepth 100000 in
theorem ctm_stands (l : Launch) (sz : Nat) (a0 : Int32) : MPi l yX1_stands wsX1_stands ({ frames := 1, cells := 0, slots := 0, locals := 21 }) [.int a0] sz (fm_stands a0) := by
  refine Met.ofW (cc := cX1_stands) (maxL := 1) (ret := (some .boolean)) (by decide) rfl ?_
  intro p e s m args below meth c s₁ B hml hv
  obtain ⟨rfl, hsz⟩ := hv
  have hx := B.exec
  have hb := B.bytes
  have hr := B.returns
  have hts := atoms_spec (ws := wsX1_stands) B.pre
  have hown : s.vm.findClass RX1 = some m.cls := findClass_of_methodNamed B.named
  have hlocks := B.notSynchronized
  subst hsz
  generalize hAe : va_A [] s.heap.size = A
  have hA : ∀ q : Nat, s.heap.size ≤ q → A q := fun q h => by rw [← hAe]; exact Or.inr h
  have hS : va_S A s.heap s.heap [] := va_S.rf
  have hP : va_P (fun _ => m.cls, fun _ _ => 0) vwCl [] s.heap := fun k q h => by simp at h
  have hl := lv_entry ([.int a0]) (n := 1) (Nat.le_of_ble_eq_true rfl)
  rw [lg_entry_eq]
  generalize (lg_sl ([.int a0]) ++ List.replicate (1 - (lg_sl ([.int a0])).length) Slot.unset).toArray = ls at hl ⊢
  have hl : lv_has ls 1 [(0, .int a0)] := hl
  refine lv_iload_n hx hb dX1_stands_0 rfl (lv_at hl 0 rfl) ?_
  refine lv_iconst (v := 0) hx hb dX1_stands_1 (by decide) ?_
  refine cs_i (va_runS (As := [.int a0, .int 0]) (rest := []) ⟨hx, hb, hml, hown, hts⟩ (ctm_isSet l s.heap.size a0 0) (va_cwS 2 hts gX1_stands_X1_isSet rfl rfl rfl (by decide +kernel) ⟨Nat.le_of_ble_eq_true rfl, Nat.le_of_ble_eq_true rfl⟩) ⟨fun a U g mk q => q, fun U hU hW => ⟨rfl, congrArg Array.size hU⟩⟩ rfl rfl hl.1 rfl (lv_room (Nat.le_of_ble_eq_true rfl)) dX1_stands_2 ⟨Nat.zero_le _, Nat.zero_le _⟩) hA hP hS (fun H locs hP hS => ?_)
  refine lv_if_eq (tgt := 28) hx hb dX1_stands_5 (by decide) (fun c_5 => ?_) (fun c_5 => ?_)
  · skip
    refine lv_iconst (v := 0) hx hb dX1_stands_28 (by decide) ?_
    exact W.zret (v := 0) (ty := .boolean) hx hb hr nb_0 (fun t ht hW => ⟨⟨_, (), rfl, by first | (rw [fm_stands, if_pos c_5]; done) | (simp only [fm_stands, if_pos c_5]; done) | (rw [fm_stands, if_pos c_5] <;> rfl), trivial⟩, hS.F ht⟩) hS.2.2 dX1_stands_29
  · skip
    refine lv_iload_n hx hb dX1_stands_8 rfl (lv_at hl 0 rfl) ?_
    refine lv_iconst (v := 2) hx hb dX1_stands_9 (by decide) ?_
    refine cs_i (va_runS (As := [.int a0, .int 2]) (rest := []) ⟨hx, hb, hml, hown, hts⟩ (ctm_isSet l H.size a0 2) (va_cwS 2 hts gX1_stands_X1_isSet rfl rfl rfl (by decide +kernel) ⟨Nat.le_of_ble_eq_true rfl, Nat.le_of_ble_eq_true rfl⟩) ⟨fun a U g mk q => q, fun U hU hW => ⟨rfl, congrArg Array.size hU⟩⟩ rfl rfl hl.1 rfl (lv_room (Nat.le_of_ble_eq_true rfl)) dX1_stands_10 ⟨Nat.zero_le _, Nat.zero_le _⟩) hA hP hS (fun H locs hP hS => ?_)
    refine lv_if_eq (tgt := 24) hx hb dX1_stands_13 (by decide) (fun c_13 => ?_) (fun c_13 => ?_)
    · skip
      refine lv_iconst (v := 1) hx hb dX1_stands_24 (by decide) ?_
      refine lv_goto (tgt := 29) hx hb dX1_stands_25 (by decide) ?_
      exact W.zret (v := 1) (ty := .boolean) hx hb hr nb_1 (fun t ht hW => ⟨⟨_, (), rfl, by first | (rw [fm_stands, if_neg c_5, if_pos c_13]; done) | (simp only [fm_stands, if_neg c_5, if_pos c_13]; done) | (rw [fm_stands, if_neg c_5, if_pos c_13] <;> rfl), trivial⟩, hS.F ht⟩) hS.2.2 dX1_stands_29
    · skip
      refine lv_iload_n hx hb dX1_stands_16 rfl (lv_at hl 0 rfl) ?_
      refine lv_iconst (v := 1) hx hb dX1_stands_17 (by decide) ?_
      refine cs_i (va_runS (As := [.int a0, .int 1]) (rest := []) ⟨hx, hb, hml, hown, hts⟩ (ctm_isSet l H.size a0 1) (va_cwS 2 hts gX1_stands_X1_isSet rfl rfl rfl (by decide +kernel) ⟨Nat.le_of_ble_eq_true rfl, Nat.le_of_ble_eq_true rfl⟩) ⟨fun a U g mk q => q, fun U hU hW => ⟨rfl, congrArg Array.size hU⟩⟩ rfl rfl hl.1 rfl (lv_room (Nat.le_of_ble_eq_true rfl)) dX1_stands_18 ⟨Nat.zero_le _, Nat.zero_le _⟩) hA hP hS (fun H locs hP hS => ?_)
      refine lv_if_eq (tgt := 28) hx hb dX1_stands_21 (by decide) (fun c_21 => ?_) (fun c_21 => ?_)
      · skip
        refine lv_iconst (v := 0) hx hb dX1_stands_28 (by decide) ?_
        exact W.zret (v := 0) (ty := .boolean) hx hb hr nb_0 (fun t ht hW => ⟨⟨_, (), rfl, by first | (rw [fm_stands, if_neg c_5, if_neg c_13, if_pos c_21]; done) | (simp only [fm_stands, if_neg c_5, if_neg c_13, if_pos c_21]; done) | (rw [fm_stands, if_neg c_5, if_neg c_13, if_pos c_21] <;> rfl), trivial⟩, hS.F ht⟩) hS.2.2 dX1_stands_29
      · skip
        refine lv_iconst (v := 1) hx hb dX1_stands_24 (by decide) ?_
        refine lv_goto (tgt := 29) hx hb dX1_stands_25 (by decide) ?_
        exact W.zret (v := 1) (ty := .boolean) hx hb hr nb_1 (fun t ht hW => ⟨⟨_, (), rfl, by first | (rw [fm_stands, if_neg c_5, if_neg c_13, if_neg c_21]; done) | (simp only [fm_stands, if_neg c_5, if_neg c_13, if_neg c_21]; done) | (rw [fm_stands, if_neg c_5, if_neg c_13, if_neg c_21] <;> rfl), trivial⟩, hS.F ht⟩) hS.2.2 dX1_stands_29
theorem ob_isSet (x y : Int32) : fm_isSet x y = 0 ∨ fm_isSet x y = 1 := by
  unfold fm_isSet
  split
  · exact Or.inr rfl
  · exact Or.inl rfl
def fm_allows (a0 : Int32) (a1 : Int32) (a2 : Int32) : Int32 := if ((if a1 = 0 then (fm_isSet a0 3) else if a1 = 3 then (fm_isSet a0 3) else if a1 = 1 then if ((fm_isSet a0 1)) = 0 then if a2 = 0 then 0 else if ((fm_isSet a0 3)) = 0 then 0 else 1 else 1 else (fm_isSet a0 2) : Int32)) = 0 then 0 else if ((fm_isSet a0 6)) = 0 then 0 else if a1 = 2 then if ((fm_isSet a0 7)) = 0 then 0 else 1 else 1
set_option maxHeartbeats 4000000 in
set_option maxRecDepth 100000 in
theorem ctm_allows (l : Launch) (sz : Nat) (a0 : Int32) (a1 : Int32) (a2 : Int32) : MPi l yX1_allows wsX1_allows ({ frames := 1, cells := 0, slots := 0, locals := 21 }) [.int a0, .int a1, .int a2] sz (fm_allows a0 a1 a2) := by
  refine Met.ofW (cc := cX1_allows) (maxL := 6) (ret := (some .boolean)) (by decide) rfl ?_
  intro p e s m args below meth c s₁ B hml hv
  obtain ⟨rfl, hsz⟩ := hv
  have hx := B.exec
  have hb := B.bytes
  have hr := B.returns
  have hts := atoms_spec (ws := wsX1_allows) B.pre
  have hown : s.vm.findClass RX1 = some m.cls := findClass_of_methodNamed B.named
  have hlocks := B.notSynchronized
  subst hsz
  generalize hAe : va_A [] s.heap.size = A
  have hA : ∀ q : Nat, s.heap.size ≤ q → A q := fun q h => by rw [← hAe]; exact Or.inr h
  have hS : va_S A s.heap s.heap [] := va_S.rf
  have hP : va_P (fun _ => m.cls, fun _ _ => 0) vwCl [] s.heap := fun k q h => by simp at h
  have hl := lv_entry ([.int a0, .int a1, .int a2]) (n := 6) (Nat.le_of_ble_eq_true rfl)
  rw [lg_entry_eq]
  generalize (lg_sl ([.int a0, .int a1, .int a2]) ++ List.replicate (6 - (lg_sl ([.int a0, .int a1, .int a2])).length) Slot.unset).toArray = ls at hl ⊢
  have hl : lv_has ls 6 [(0, .int a0), (1, .int a1), (2, .int a2)] := hl
  refine lv_iload_n hx hb dX1_allows_0 rfl (lv_at hl 0 rfl) ?_
  refine lv_iconst (v := 1) hx hb dX1_allows_1 (by decide) ?_
  refine cs_i (va_runS (As := [.int a0, .int 1]) (rest := []) ⟨hx, hb, hml, hown, hts⟩ (ctm_isSet l s.heap.size a0 1) (va_cwS 2 hts gX1_allows_X1_isSet rfl rfl rfl (by decide +kernel) ⟨Nat.le_of_ble_eq_true rfl, Nat.le_of_ble_eq_true rfl⟩) ⟨fun a U g mk q => q, fun U hU hW => ⟨rfl, congrArg Array.size hU⟩⟩ rfl rfl hl.1 rfl (lv_room (Nat.le_of_ble_eq_true rfl)) dX1_allows_2 ⟨Nat.zero_le _, Nat.zero_le _⟩) hA hP hS (fun H locs hP hS => ?_)
  refine lv_topi (fun z_1 ez_1 => ?_)
  refine lv_istore_n (lv' := [(3, .int z_1), (0, .int a0), (1, .int a1), (2, .int a2)]) hx hb dX1_allows_5 rfl hl (by decide) rfl (fun ls hl => ?_)
  refine lv_iload_n hx hb dX1_allows_6 rfl (lv_at hl 1 rfl) ?_
  refine lv_iconst (v := 3) hx hb dX1_allows_7 (by decide) ?_
  refine cs_i (va_runS (As := [.int a0, .int 3]) (rest := []) ⟨hx, hb, hml, hown, hts⟩ (ctm_isSet l H.size a0 3) (va_cwS 2 hts gX1_allows_X1_isSet rfl rfl rfl (by decide +kernel) ⟨Nat.le_of_ble_eq_true rfl, Nat.le_of_ble_eq_true rfl⟩) ⟨fun a U g mk q => q, fun U hU hW => ⟨rfl, congrArg Array.size hU⟩⟩ rfl rfl hl.1 rfl (lv_room (Nat.le_of_ble_eq_true rfl)) dX1_allows_8 ⟨Nat.zero_le _, Nat.zero_le _⟩) hA hP hS (fun H locs hP hS => ?_)
  refine lv_topi (fun z_2 ez_2 => ?_)
  refine lv_istore (lv' := [(4, .int z_2), (3, .int z_1), (0, .int a0), (1, .int a1), (2, .int a2)]) hx hb dX1_allows_11 hl (by decide) rfl (fun ls hl => ?_)
  refine lv_iload_n hx hb dX1_allows_13 rfl (lv_at hl 3 rfl) ?_
  refine lj_i (j := 58) (z0 := if a1 = 0 then z_2 else if a1 = 3 then z_2 else if a1 = 1 then if z_1 = 0 then if a2 = 0 then 0 else if z_2 = 0 then 0 else 1 else 1 else (fm_isSet a0 2)) (rest := []) hP hS (fun H locs hP hS z_3 ez_3 => ?_) (fun J58_14 => ?_)
  · skip
    refine lv_istore (lv' := [(5, .int z_3), (4, .int z_2), (3, .int z_1), (0, .int a0), (1, .int a1), (2, .int a2)]) hx hb dX1_allows_58 hl (by decide) rfl (fun ls hl => ?_)
    refine lv_iload hx hb dX1_allows_60 (lv_at hl 0 rfl) ?_
    refine lv_if_eq (tgt := 92) hx hb dX1_allows_62 (by decide) (fun c_62 => ?_) (fun c_62 => ?_)
    · skip
      refine lv_iconst (v := 0) hx hb dX1_allows_92 (by decide) ?_
      exact W.zret (v := 0) (ty := .boolean) hx hb hr nb_0 (fun t ht hW => ⟨⟨_, (), rfl, by subst ez_3; subst ez_2; subst ez_1; first | (rw [fm_allows, if_pos c_62]; done) | (simp only [fm_allows, if_pos c_62]; done) | (rw [fm_allows, if_pos c_62] <;> rfl), trivial⟩, hS.F ht⟩) hS.2.2 dX1_allows_93
    · skip
      refine lv_iload_n hx hb dX1_allows_65 rfl (lv_at hl 3 rfl) ?_
      refine lv_bipush (v := 6) hx hb dX1_allows_66 (by decide) ?_
      refine cs_i (va_runS (As := [.int a0, .int 6]) (rest := []) ⟨hx, hb, hml, hown, hts⟩ (ctm_isSet l H.size a0 6) (va_cwS 2 hts gX1_allows_X1_isSet rfl rfl rfl (by decide +kernel) ⟨Nat.le_of_ble_eq_true rfl, Nat.le_of_ble_eq_true rfl⟩) ⟨fun a U g mk q => q, fun U hU hW => ⟨rfl, congrArg Array.size hU⟩⟩ rfl rfl hl.1 rfl (lv_room (Nat.le_of_ble_eq_true rfl)) dX1_allows_68 ⟨Nat.zero_le _, Nat.zero_le _⟩) hA hP hS (fun H locs hP hS => ?_)
      refine lv_if_eq (tgt := 92) hx hb dX1_allows_71 (by decide) (fun c_71 => ?_) (fun c_71 => ?_)
      · skip
        refine lv_iconst (v := 0) hx hb dX1_allows_92 (by decide) ?_
        exact W.zret (v := 0) (ty := .boolean) hx hb hr nb_0 (fun t ht hW => ⟨⟨_, (), rfl, by subst ez_3; subst ez_2; subst ez_1; first | (rw [fm_allows, if_neg c_62, if_pos c_71]; done) | (simp only [fm_allows, if_neg c_62, if_pos c_71]; done) | (rw [fm_allows, if_neg c_62, if_pos c_71] <;> rfl), trivial⟩, hS.F ht⟩) hS.2.2 dX1_allows_93
      · skip
        refine lv_iload_n hx hb dX1_allows_74 rfl (lv_at hl 4 rfl) ?_
        refine lv_iconst (v := 2) hx hb dX1_allows_75 (by decide) ?_
        refine lv_icmp_ne (tgt := 88) hx hb dX1_allows_76 (by decide) (fun c_76 => ?_) (fun c_76 => ?_)
        · skip
          refine lv_iconst (v := 1) hx hb dX1_allows_88 (by decide) ?_
          refine lv_goto (tgt := 93) hx hb dX1_allows_89 (by decide) ?_
          exact W.zret (v := 1) (ty := .boolean) hx hb hr nb_1 (fun t ht hW => ⟨⟨_, (), rfl, by subst ez_3; subst ez_2; subst ez_1; first | (rw [fm_allows, if_neg c_62, if_neg c_71, if_neg c_76]; done) | (simp only [fm_allows, if_neg c_62, if_neg c_71, if_neg c_76]; done) | (rw [fm_allows, if_neg c_62, if_neg c_71, if_neg c_76] <;> rfl), trivial⟩, hS.F ht⟩) hS.2.2 dX1_allows_93
        · skip
          refine lv_iload_n hx hb dX1_allows_79 rfl (lv_at hl 3 rfl) ?_
          refine lv_bipush (v := 7) hx hb dX1_allows_80 (by decide) ?_
          refine cs_i (va_runS (As := [.int a0, .int 7]) (rest := []) ⟨hx, hb, hml, hown, hts⟩ (ctm_isSet l H.size a0 7) (va_cwS 2 hts gX1_allows_X1_isSet rfl rfl rfl (by decide +kernel) ⟨Nat.le_of_ble_eq_true rfl, Nat.le_of_ble_eq_true rfl⟩) ⟨fun a U g mk q => q, fun U hU hW => ⟨rfl, congrArg Array.size hU⟩⟩ rfl rfl hl.1 rfl (lv_room (Nat.le_of_ble_eq_true rfl)) dX1_allows_82 ⟨Nat.zero_le _, Nat.zero_le _⟩) hA hP hS (fun H locs hP hS => ?_)
          refine lv_if_eq (tgt := 92) hx hb dX1_allows_85 (by decide) (fun c_85 => ?_) (fun c_85 => ?_)
          · skip
            refine lv_iconst (v := 0) hx hb dX1_allows_92 (by decide) ?_
            exact W.zret (v := 0) (ty := .boolean) hx hb hr nb_0 (fun t ht hW => ⟨⟨_, (), rfl, by subst ez_3; subst ez_2; subst ez_1; first | (rw [fm_allows, if_neg c_62, if_neg c_71, if_pos c_76, if_pos c_85]; done) | (simp only [fm_allows, if_neg c_62, if_neg c_71, if_pos c_76, if_pos c_85]; done) | (rw [fm_allows, if_neg c_62, if_neg c_71, if_pos c_76, if_pos c_85] <;> rfl), trivial⟩, hS.F ht⟩) hS.2.2 dX1_allows_93
          · skip
            refine lv_iconst (v := 1) hx hb dX1_allows_88 (by decide) ?_
            refine lv_goto (tgt := 93) hx hb dX1_allows_89 (by decide) ?_
            exact W.zret (v := 1) (ty := .boolean) hx hb hr nb_1 (fun t ht hW => ⟨⟨_, (), rfl, by subst ez_3; subst ez_2; subst ez_1; first | (rw [fm_allows, if_neg c_62, if_neg c_71, if_pos c_76, if_neg c_85]; done) | (simp only [fm_allows, if_neg c_62, if_neg c_71, if_pos c_76, if_neg c_85]; done) | (rw [fm_allows, if_neg c_62, if_neg c_71, if_pos c_76, if_neg c_85] <;> rfl), trivial⟩, hS.F ht⟩) hS.2.2 dX1_allows_93
  · skip
    refine lv_if_eq (tgt := 22) hx hb dX1_allows_14 (by decide) (fun c_14 => ?_) (fun c_14 => ?_)
    · skip
      refine lv_iload hx hb dX1_allows_22 (lv_at hl 0 rfl) ?_
      refine lv_goto (tgt := 58) hx hb dX1_allows_24 (by decide) ?_
      exact W.eq (by rw [if_pos c_14] <;> rfl) (J58_14 _ _ hP hS)
    · skip
      refine lv_iload_n hx hb dX1_allows_17 rfl (lv_at hl 3 rfl) ?_
      refine lv_iconst (v := 3) hx hb dX1_allows_18 (by decide) ?_
      refine lv_icmp_ne (tgt := 27) hx hb dX1_allows_19 (by decide) (fun c_19 => ?_) (fun c_19 => ?_)
      · skip
        refine lv_iload_n hx hb dX1_allows_27 rfl (lv_at hl 3 rfl) ?_
        refine lv_iconst (v := 1) hx hb dX1_allows_28 (by decide) ?_
        refine lv_icmp_ne (tgt := 53) hx hb dX1_allows_29 (by decide) (fun c_29 => ?_) (fun c_29 => ?_)
        · skip
          refine lv_iload_n hx hb dX1_allows_53 rfl (lv_at hl 2 rfl) ?_
          refine lv_iconst (v := 2) hx hb dX1_allows_54 (by decide) ?_
          refine cs_i (va_runS (As := [.int a0, .int 2]) (rest := []) ⟨hx, hb, hml, hown, hts⟩ (ctm_isSet l H.size a0 2) (va_cwS 2 hts gX1_allows_X1_isSet rfl rfl rfl (by decide +kernel) ⟨Nat.le_of_ble_eq_true rfl, Nat.le_of_ble_eq_true rfl⟩) ⟨fun a U g mk q => q, fun U hU hW => ⟨rfl, congrArg Array.size hU⟩⟩ rfl rfl hl.1 rfl (lv_room (Nat.le_of_ble_eq_true rfl)) dX1_allows_55 ⟨Nat.zero_le _, Nat.zero_le _⟩) hA hP hS (fun H locs hP hS => ?_)
          exact W.eq (by rw [if_neg c_14, if_neg c_19, if_neg c_29] <;> rfl) (J58_14 _ _ hP hS)
        · skip
          refine lv_iload_n hx hb dX1_allows_32 rfl (lv_at hl 1 rfl) ?_
          refine lv_if_ne (tgt := 45) hx hb dX1_allows_33 (by decide) (fun c_33 => ?_) (fun c_33 => ?_)
          · skip
            refine lv_iconst (v := 1) hx hb dX1_allows_45 (by decide) ?_
            refine lv_goto (tgt := 58) hx hb dX1_allows_46 (by decide) ?_
            exact W.eq (by rw [if_neg c_14, if_neg c_19, if_pos c_29, if_neg c_33] <;> rfl) (J58_14 _ _ hP hS)
          · skip
            refine lv_iload_n hx hb dX1_allows_36 rfl (lv_at hl 4 rfl) ?_
            refine lv_if_eq (tgt := 49) hx hb dX1_allows_37 (by decide) (fun c_37 => ?_) (fun c_37 => ?_)
            · skip
              refine lv_iconst (v := 0) hx hb dX1_allows_49 (by decide) ?_
              refine lv_goto (tgt := 58) hx hb dX1_allows_50 (by decide) ?_
              exact W.eq (by rw [if_neg c_14, if_neg c_19, if_pos c_29, if_pos c_33, if_pos c_37] <;> rfl) (J58_14 _ _ hP hS)
            · skip
              refine lv_iload hx hb dX1_allows_40 (lv_at hl 0 rfl) ?_
              refine lv_if_eq (tgt := 49) hx hb dX1_allows_42 (by decide) (fun c_42 => ?_) (fun c_42 => ?_)
              · skip
                refine lv_iconst (v := 0) hx hb dX1_allows_49 (by decide) ?_
                refine lv_goto (tgt := 58) hx hb dX1_allows_50 (by decide) ?_
                exact W.eq (by rw [if_neg c_14, if_neg c_19, if_pos c_29, if_pos c_33, if_neg c_37, if_pos c_42] <;> rfl) (J58_14 _ _ hP hS)
              · skip
                refine lv_iconst (v := 1) hx hb dX1_allows_45 (by decide) ?_
                refine lv_goto (tgt := 58) hx hb dX1_allows_46 (by decide) ?_
                exact W.eq (by rw [if_neg c_14, if_neg c_19, if_pos c_29, if_pos c_33, if_neg c_37, if_neg c_42] <;> rfl) (J58_14 _ _ hP hS)
      · skip
        refine lv_iload hx hb dX1_allows_22 (lv_at hl 0 rfl) ?_
        refine lv_goto (tgt := 58) hx hb dX1_allows_24 (by decide) ?_
        exact W.eq (by rw [if_neg c_14, if_pos c_19] <;> rfl) (J58_14 _ _ hP hS)
def fm_result (a0 : Int32) (a1 : Int32) (a2 : Int64) : Int64 := (jlshl ((if a1 = 0 then (jiushr a0 10).toInt64 else (((jiushr a0 10).toInt64) &&& ((-1024))) ||| ((jlshr a2 12) &&& 1023) : Int64)) 12) ||| (a2 &&& 4095)
set_option maxHeartbeats 4000000 in
set_option maxRecDepth 100000 in
theorem ctm_result (l : Launch) (sz : Nat) (a0 : Int32) (a1 : Int32) (a2 : Int64) : MPl l yX1_result wsX1_result ({ frames := 0, cells := 0, slots := 0, locals := 0 }) [.int a0, .int a1, .long a2] sz (fm_result a0 a1 a2) := by
  refine Met.ofW (cc := cX1_result) (maxL := 6) (ret := (some .long)) (by decide) rfl ?_
  intro p e s m args below meth c s₁ B hml hv
  obtain ⟨rfl, hsz⟩ := hv
  have hx := B.exec
  have hb := B.bytes
  have hr := B.returns
  have hts := atoms_spec (ws := wsX1_result) B.pre
  have hown : s.vm.findClass RX1 = some m.cls := findClass_of_methodNamed B.named
  have hlocks := B.notSynchronized
  subst hsz
  generalize hAe : va_A [] s.heap.size = A
  have hA : ∀ q : Nat, s.heap.size ≤ q → A q := fun q h => by rw [← hAe]; exact Or.inr h
  have hS : va_S A s.heap s.heap [] := va_S.rf
  have hP : va_P (fun _ => m.cls, fun _ _ => 0) vwCl [] s.heap := fun k q h => by simp at h
  have hl := lv_entry ([.int a0, .int a1, .long a2]) (n := 6) (Nat.le_of_ble_eq_true rfl)
  rw [lg_entry_eq]
  generalize (lg_sl ([.int a0, .int a1, .long a2]) ++ List.replicate (6 - (lg_sl ([.int a0, .int a1, .long a2])).length) Slot.unset).toArray = ls at hl ⊢
  have hl : lv_has ls 6 [(0, .int a0), (1, .int a1), (2, .long a2)] := hl
  refine lv_iload_n hx hb dX1_result_0 rfl (lv_at hl 0 rfl) ?_
  refine lv_bipush (v := 10) hx hb dX1_result_1 (by decide) ?_
  refine lv_iushr (v := jiushr a0 10) hx hb dX1_result_3 rfl ?_
  refine lv_i2l (v := (jiushr a0 10).toInt64) hx hb dX1_result_4 rfl ?_
  refine lv_topl (fun z_1 ez_1 => ?_)
  refine lv_lstore (lv' := [(4, .long z_1), (0, .int a0), (1, .int a1), (2, .long a2)]) hx hb dX1_result_5 hl (by decide) rfl (fun ls hl => ?_)
  refine lv_iload_n hx hb dX1_result_7 rfl (lv_at hl 2 rfl) ?_
  refine lj_l (j := 31) (z0 := if a1 = 0 then z_1 else (z_1 &&& ((-1024))) ||| ((jlshr a2 12) &&& 1023)) (rest := []) hP hS (fun H locs hP hS z_2 ez_2 => ?_) (fun J31_8 => ?_)
  · skip
    refine lv_lstore (lv' := [(4, .long z_2), (0, .int a0), (1, .int a1), (2, .long a2)]) hx hb dX1_result_31 hl (by decide) rfl (fun ls hl => ?_)
    refine lv_lload hx hb dX1_result_33 (lv_at hl 0 rfl) ?_
    refine lv_bipush (v := 12) hx hb dX1_result_35 (by decide) ?_
    refine lv_lshl (v := jlshl z_2 12) hx hb dX1_result_37 rfl ?_
    refine lv_lload_n hx hb dX1_result_38 rfl (lv_at hl 3 rfl) ?_
    refine lv_ldc2 hx hb hown (hts (.constantLong RX1 46 4095) (by decide +kernel)) dX1_result_39 ?_
    refine lv_land hx hb dX1_result_42 ?_
    refine lv_lor hx hb dX1_result_43 ?_
    exact W.lret (v := (jlshl z_2 12) ||| (a2 &&& 4095)) hx hb hr (fun t ht hW => ⟨⟨_, (), rfl, by subst ez_2; subst ez_1; rfl, trivial⟩, hS.F ht⟩) hS.2.2 dX1_result_44
  · skip
    refine lv_if_eq (tgt := 29) hx hb dX1_result_8 (by decide) (fun c_8 => ?_) (fun c_8 => ?_)
    · skip
      refine lv_lload hx hb dX1_result_29 (lv_at hl 0 rfl) ?_
      exact W.eq (by rw [if_pos c_8] <;> rfl) (J31_8 _ _ hP hS)
    · skip
      refine lv_lload hx hb dX1_result_11 (lv_at hl 0 rfl) ?_
      refine lv_ldc2 hx hb hown (hts (.constantLong RX1 42 (-1024)) (by decide +kernel)) dX1_result_13 ?_
      refine lv_land hx hb dX1_result_16 ?_
      refine lv_lload_n hx hb dX1_result_17 rfl (lv_at hl 3 rfl) ?_
      refine lv_bipush (v := 12) hx hb dX1_result_18 (by decide) ?_
      refine lv_lshr (v := jlshr a2 12) hx hb dX1_result_20 rfl ?_
      refine lv_ldc2 hx hb hown (hts (.constantLong RX1 44 1023) (by decide +kernel)) dX1_result_21 ?_
      refine lv_land hx hb dX1_result_24 ?_
      refine lv_lor hx hb dX1_result_25 ?_
      refine lv_goto (tgt := 31) hx hb dX1_result_26 (by decide) ?_
      exact W.eq (by rw [if_neg c_8] <;> rfl) (J31_8 _ _ hP hS)
def fm_isKind (a0 : Int32) (a1 : Int32) : Int32 := if a0 < 0 then 0 else if 4 ≤ a0 then 0 else if a1 < 0 then 0 else if ((if 2 ≤ a0 then 3 else 2 : Int32)) < a1 then 0 else 1
set_option maxHeartbeats 4000000 in
set_option maxRecDepth 100000 in
theorem ctm_isKind (l : Launch) (sz : Nat) (a0 : Int32) (a1 : Int32) : MPi l yX1_isKind wsX1_isKind ({ frames := 0, cells := 0, slots := 0, locals := 0 }) [.int a0, .int a1] sz (fm_isKind a0 a1) := by
  refine Met.ofW (cc := cX1_isKind) (maxL := 2) (ret := (some .boolean)) (by decide) rfl ?_
  intro p e s m args below meth c s₁ B hml hv
  obtain ⟨rfl, hsz⟩ := hv
  have hx := B.exec
  have hb := B.bytes
  have hr := B.returns
  have hts := atoms_spec (ws := wsX1_isKind) B.pre
  have hown : s.vm.findClass RX1 = some m.cls := findClass_of_methodNamed B.named
  have hlocks := B.notSynchronized
  subst hsz
  generalize hAe : va_A [] s.heap.size = A
  have hA : ∀ q : Nat, s.heap.size ≤ q → A q := fun q h => by rw [← hAe]; exact Or.inr h
  have hS : va_S A s.heap s.heap [] := va_S.rf
  have hP : va_P (fun _ => m.cls, fun _ _ => 0) vwCl [] s.heap := fun k q h => by simp at h
  have hl := lv_entry ([.int a0, .int a1]) (n := 2) (Nat.le_of_ble_eq_true rfl)
  rw [lg_entry_eq]
  generalize (lg_sl ([.int a0, .int a1]) ++ List.replicate (2 - (lg_sl ([.int a0, .int a1])).length) Slot.unset).toArray = ls at hl ⊢
  have hl : lv_has ls 2 [(0, .int a0), (1, .int a1)] := hl
  refine lv_iload_n hx hb dX1_isKind_0 rfl (lv_at hl 0 rfl) ?_
  refine lv_if_lt (tgt := 31) hx hb dX1_isKind_1 (by decide) (fun c_1 => ?_) (fun c_1 => ?_)
  · skip
    refine lv_iconst (v := 0) hx hb dX1_isKind_31 (by decide) ?_
    exact W.zret (v := 0) (ty := .boolean) hx hb hr nb_0 (fun t ht hW => ⟨⟨_, (), rfl, by first | (rw [fm_isKind, if_pos c_1]; done) | (simp only [fm_isKind, if_pos c_1]; done) | (rw [fm_isKind, if_pos c_1] <;> rfl), trivial⟩, hS.F ht⟩) hS.2.2 dX1_isKind_32
  · skip
    refine lv_iload_n hx hb dX1_isKind_4 rfl (lv_at hl 0 rfl) ?_
    refine lv_iconst (v := 4) hx hb dX1_isKind_5 (by decide) ?_
    refine lv_icmp_ge (tgt := 31) hx hb dX1_isKind_6 (by decide) (fun c_6 => ?_) (fun c_6 => ?_)
    · skip
      refine lv_iconst (v := 0) hx hb dX1_isKind_31 (by decide) ?_
      exact W.zret (v := 0) (ty := .boolean) hx hb hr nb_0 (fun t ht hW => ⟨⟨_, (), rfl, by first | (rw [fm_isKind, if_neg c_1, if_pos c_6]; done) | (simp only [fm_isKind, if_neg c_1, if_pos c_6]; done) | (rw [fm_isKind, if_neg c_1, if_pos c_6] <;> rfl), trivial⟩, hS.F ht⟩) hS.2.2 dX1_isKind_32
    · skip
      refine lv_iload_n hx hb dX1_isKind_9 rfl (lv_at hl 1 rfl) ?_
      refine lv_if_lt (tgt := 31) hx hb dX1_isKind_10 (by decide) (fun c_10 => ?_) (fun c_10 => ?_)
      · skip
        refine lv_iconst (v := 0) hx hb dX1_isKind_31 (by decide) ?_
        exact W.zret (v := 0) (ty := .boolean) hx hb hr nb_0 (fun t ht hW => ⟨⟨_, (), rfl, by first | (rw [fm_isKind, if_neg c_1, if_neg c_6, if_pos c_10]; done) | (simp only [fm_isKind, if_neg c_1, if_neg c_6, if_pos c_10]; done) | (rw [fm_isKind, if_neg c_1, if_neg c_6, if_pos c_10] <;> rfl), trivial⟩, hS.F ht⟩) hS.2.2 dX1_isKind_32
      · skip
        refine lv_iload_n hx hb dX1_isKind_13 rfl (lv_at hl 1 rfl) ?_
        refine lv_iload_n hx hb dX1_isKind_14 rfl (lv_at hl 0 rfl) ?_
        refine lv_iconst (v := 2) hx hb dX1_isKind_15 (by decide) ?_
        refine lj_i (j := 24) (z0 := if 2 ≤ a0 then 3 else 2) (rest := [.int a1]) hP hS (fun H locs hP hS z_1 ez_1 => ?_) (fun J24_16 => ?_)
        · skip
          refine lv_icmp_gt (tgt := 31) hx hb dX1_isKind_24 (by decide) (fun c_24 => ?_) (fun c_24 => ?_)
          · skip
            refine lv_iconst (v := 0) hx hb dX1_isKind_31 (by decide) ?_
            exact W.zret (v := 0) (ty := .boolean) hx hb hr nb_0 (fun t ht hW => ⟨⟨_, (), rfl, by subst ez_1; first | (rw [fm_isKind, if_neg c_1, if_neg c_6, if_neg c_10, if_pos c_24]; done) | (simp only [fm_isKind, if_neg c_1, if_neg c_6, if_neg c_10, if_pos c_24]; done) | (rw [fm_isKind, if_neg c_1, if_neg c_6, if_neg c_10, if_pos c_24] <;> rfl), trivial⟩, hS.F ht⟩) hS.2.2 dX1_isKind_32
          · skip
            refine lv_iconst (v := 1) hx hb dX1_isKind_27 (by decide) ?_
            refine lv_goto (tgt := 32) hx hb dX1_isKind_28 (by decide) ?_
            exact W.zret (v := 1) (ty := .boolean) hx hb hr nb_1 (fun t ht hW => ⟨⟨_, (), rfl, by subst ez_1; first | (rw [fm_isKind, if_neg c_1, if_neg c_6, if_neg c_10, if_neg c_24]; done) | (simp only [fm_isKind, if_neg c_1, if_neg c_6, if_neg c_10, if_neg c_24]; done) | (rw [fm_isKind, if_neg c_1, if_neg c_6, if_neg c_10, if_neg c_24] <;> rfl), trivial⟩, hS.F ht⟩) hS.2.2 dX1_isKind_32
        · skip
          refine lv_icmp_ge (tgt := 23) hx hb dX1_isKind_16 (by decide) (fun c_16 => ?_) (fun c_16 => ?_)
          · skip
            refine lv_iconst (v := 3) hx hb dX1_isKind_23 (by decide) ?_
            exact W.eq (by rw [if_pos c_16] <;> rfl) (J24_16 _ _ hP hS)
          · skip
            refine lv_iconst (v := 2) hx hb dX1_isKind_19 (by decide) ?_
            refine lv_goto (tgt := 24) hx hb dX1_isKind_20 (by decide) ?_
            exact W.eq (by rw [if_neg c_16] <;> rfl) (J24_16 _ _ hP hS)
def fm_has (v_rights : Int32) (a0 : Int32) : Int32 := if ((v_rights >>> (a0 &&& 31)) &&& 1) = 1 then 1 else 0
set_option maxHeartbeats 4000000 in
set_option maxRecDepth 100000 in
theorem ctm_has (l : Launch) (dC : Nat → ClassId) (dI : Nat → Nat → Nat) (h0 : Nat) (q_memory : Nat) (k_memory : ClassId) (sz : Nat) (v_atp : Int32) (v_vsAtp : Int32) (v_hgatp : Int32) (v_rights : Int32) (v_code : Int32) (v_found : Int64) (v_wanted : Int64) (v_ofEntry : Int32) (m_memory : Nat → Int32) (a0 : Int32) : MRi l yX1_has wsX1_has ({ frames := 0, cells := 0, slots := 0, locals := 0 }) (dC, dI) vwCl [(k_memory, .int)] [.ref h0, .int a0] sz (wm h0 q_memory k_memory v_atp v_vsAtp v_hgatp v_rights v_code v_found v_wanted v_ofEntry m_memory) (fm_has v_rights a0) := by
  refine Met.ofW (cc := cX1_has) (maxL := 2) (ret := (some .boolean)) (by decide) rfl ?_
  intro p e s m args below meth c s₁ B hml hv
  obtain ⟨rfl, hsz, hP, hK, hD0⟩ := hv
  have hx := B.exec
  have hb := B.bytes
  have hr := B.returns
  have hts := atoms_spec (ws := wsX1_has) B.pre
  have hown : s.vm.findClass RX1 = some m.cls := findClass_of_methodNamed B.named
  have hlocks := B.notSynchronized
  subst hsz
  have hwX : ∀ w ∈ u_ws RX1 TX1 9, w ∈ wsX1_has := by decide +kernel
  have hD := hD0.self (sz := s.heap.size)
  generalize hAe : va_A (wm h0 q_memory k_memory v_atp v_vsAtp v_hgatp v_rights v_code v_found v_wanted v_ofEntry m_memory) s.heap.size = A at hD ⊢
  have hA : ∀ q : Nat, s.heap.size ≤ q → A q := fun q h => by rw [← hAe]; exact Or.inr h
  have hS : va_S A s.heap s.heap [] := va_S.rf
  have hP : va_P (dC, dI) vwCl (wm h0 q_memory k_memory v_atp v_vsAtp v_hgatp v_rights v_code v_found v_wanted v_ofEntry m_memory) s.heap := hP
  have hl := lv_entry ([.ref h0, .int a0]) (n := 2) (Nat.le_of_ble_eq_true rfl)
  rw [lg_entry_eq]
  generalize (lg_sl ([.ref h0, .int a0]) ++ List.replicate (2 - (lg_sl ([.ref h0, .int a0])).length) Slot.unset).toArray = ls at hl ⊢
  have hl : lv_has ls 2 [(0, .ref h0), (1, .int a0)] := hl
  refine lv_aload_n hx hb dX1_has_0 rfl (lv_at hl 0 rfl) ?_
  refine va_get (D := (dC, dI)) (ci := 1) (v := .int v_rights) (C := RX1) (T := TX1) (N := 9) hx hb hts hwX hown hK hP 0 rfl rfl 4 (by decide) (hts (.fieldLink RX1 27 "StageWalkerModel" "rights" "I") (by decide +kernel)) (fun _ h9 => h9) rfl dX1_has_1 ?_
  refine lv_iload_n hx hb dX1_has_4 rfl (lv_at hl 1 rfl) ?_
  refine lv_ishr hx hb dX1_has_5 ?_
  refine lv_iconst (v := 1) hx hb dX1_has_6 (by decide) ?_
  refine lv_iand hx hb dX1_has_7 ?_
  refine lv_iconst (v := 1) hx hb dX1_has_8 (by decide) ?_
  refine lv_icmp_ne (tgt := 16) hx hb dX1_has_9 (by decide) (fun c_9 => ?_) (fun c_9 => ?_)
  · skip
    refine lv_iconst (v := 0) hx hb dX1_has_16 (by decide) ?_
    exact W.zret (v := 0) (ty := .boolean) hx hb hr nb_0 (fun t ht hW => ⟨⟨_, (), rfl, by first | (rw [fm_has, if_neg c_9]; done) | (simp only [fm_has, if_neg c_9]; done) | (rw [fm_has, if_neg c_9] <;> rfl), by rw [ht]; exact hP, va_K.moved hW.alike hK, hD⟩, hS.F ht⟩) hS.2.2 dX1_has_17
  · skip
    refine lv_iconst (v := 1) hx hb dX1_has_12 (by decide) ?_
    refine lv_goto (tgt := 17) hx hb dX1_has_13 (by decide) ?_
    exact W.zret (v := 1) (ty := .boolean) hx hb hr nb_1 (fun t ht hW => ⟨⟨_, (), rfl, by first | (rw [fm_has, if_pos c_9]; done) | (simp only [fm_has, if_pos c_9]; done) | (rw [fm_has, if_pos c_9] <;> rfl), by rw [ht]; exact hP, va_K.moved hW.alike hK, hD⟩, hS.F ht⟩) hS.2.2 dX1_has_17
def fm_raise (a0 : Int32) (a1 : Int32) (a2 : Int32) (a3 : Int32) : Int32 := (if a0 = 0 then a1 else if a0 = 2 then a3 else a2 : Int32)
set_option maxHeartbeats 4000000 in
set_option maxRecDepth 100000 in
theorem ctm_raise (l : Launch) (dC : Nat → ClassId) (dI : Nat → Nat → Nat) (h0 : Nat) (q_memory : Nat) (k_memory : ClassId) (sz : Nat) (v_atp : Int32) (v_vsAtp : Int32) (v_hgatp : Int32) (v_rights : Int32) (v_code : Int32) (v_found : Int64) (v_wanted : Int64) (v_ofEntry : Int32) (m_memory : Nat → Int32) (a0 : Int32) (a1 : Int32) (a2 : Int32) (a3 : Int32) : MWv l yX1_raise wsX1_raise ({ frames := 0, cells := 0, slots := 0, locals := 0 }) (dC, dI) vwCl [(k_memory, .int)] [.ref h0, .int a0, .int a1, .int a2, .int a3] sz (wm h0 q_memory k_memory v_atp v_vsAtp v_hgatp v_rights v_code v_found v_wanted v_ofEntry m_memory) (fun u : Int32 => (wm h0 q_memory k_memory v_atp v_vsAtp v_hgatp v_rights u v_found v_wanted v_ofEntry m_memory)) (fm_raise a0 a1 a2 a3) := by
  refine Met.ofW (cc := cX1_raise) (maxL := 5) (ret := none) (by decide) rfl ?_
  intro p e s m args below meth c s₁ B hml hv
  obtain ⟨rfl, hsz, hP, hK, hD0⟩ := hv
  have hx := B.exec
  have hb := B.bytes
  have hr := B.returns
  have hts := atoms_spec (ws := wsX1_raise) B.pre
  have hown : s.vm.findClass RX1 = some m.cls := findClass_of_methodNamed B.named
  have hlocks := B.notSynchronized
  subst hsz
  have hwX : ∀ w ∈ u_ws RX1 TX1 9, w ∈ wsX1_raise := by decide +kernel
  have hD := hD0.self (sz := s.heap.size)
  generalize hAe : va_A (wm h0 q_memory k_memory v_atp v_vsAtp v_hgatp v_rights v_code v_found v_wanted v_ofEntry m_memory) s.heap.size = A at hD ⊢
  have hA : ∀ q : Nat, s.heap.size ≤ q → A q := fun q h => by rw [← hAe]; exact Or.inr h
  have hS : va_S A s.heap s.heap [] := va_S.rf
  have hP : va_P (dC, dI) vwCl (wm h0 q_memory k_memory v_atp v_vsAtp v_hgatp v_rights v_code v_found v_wanted v_ofEntry m_memory) s.heap := hP
  have hl := lv_entry ([.ref h0, .int a0, .int a1, .int a2, .int a3]) (n := 5) (Nat.le_of_ble_eq_true rfl)
  rw [lg_entry_eq]
  generalize (lg_sl ([.ref h0, .int a0, .int a1, .int a2, .int a3]) ++ List.replicate (5 - (lg_sl ([.ref h0, .int a0, .int a1, .int a2, .int a3])).length) Slot.unset).toArray = ls at hl ⊢
  have hl : lv_has ls 5 [(0, .ref h0), (1, .int a0), (2, .int a1), (3, .int a2), (4, .int a3)] := hl
  refine lv_aload_n hx hb dX1_raise_0 rfl (lv_at hl 0 rfl) ?_
  refine lv_iload_n hx hb dX1_raise_1 rfl (lv_at hl 1 rfl) ?_
  refine lj_i (j := 20) (z0 := if a0 = 0 then a1 else if a0 = 2 then a3 else a2) (rest := [.ref h0]) hP hS (fun H locs hP hS z_1 ez_1 => ?_) (fun J20_2 => ?_)
  · skip
    refine va_put (D := (dC, dI)) (ci := 1) (v := .int z_1) (ty := .int) (C := RX1) (T := TX1) (N := 9) hx hb hts hwX tyX1 tyX1_ok nmX1 hown hK hP hD hS 0 rfl rfl 5 (by decide) (hts (.fieldLink RX1 14 "StageWalkerModel" "code" "I") (by decide +kernel)) (fun _ h9 => h9) rfl (by decide +kernel) rfl rfl (Nat.le_of_ble_eq_true rfl) dX1_raise_20 (fun H locs hP hD hS => ?_)
    have hP : va_P (dC, dI) vwCl (wm h0 q_memory k_memory v_atp v_vsAtp v_hgatp v_rights z_1 v_found v_wanted v_ofEntry m_memory) H := hP
    have hD : va_D A (wm h0 q_memory k_memory v_atp v_vsAtp v_hgatp v_rights z_1 v_found v_wanted v_ofEntry m_memory) := hD
    exact W.vret hx hb hr (fun t ht hW => ⟨⟨z_1, rfl, by subst ez_1; rfl, by rw [ht]; exact hP, va_K.moved hW.alike hK, hD⟩, hS.F ht⟩) hS.2.2 dX1_raise_23
  · skip
    refine lv_if_ne (tgt := 9) hx hb dX1_raise_2 (by decide) (fun c_2 => ?_) (fun c_2 => ?_)
    · skip
      refine lv_iload_n hx hb dX1_raise_9 rfl (lv_at hl 1 rfl) ?_
      refine lv_iconst (v := 2) hx hb dX1_raise_10 (by decide) ?_
      refine lv_icmp_ne (tgt := 19) hx hb dX1_raise_11 (by decide) (fun c_11 => ?_) (fun c_11 => ?_)
      · skip
        refine lv_iload_n hx hb dX1_raise_19 rfl (lv_at hl 3 rfl) ?_
        exact W.eq (by rw [if_neg c_2, if_neg c_11] <;> rfl) (J20_2 _ _ hP hS)
      · skip
        refine lv_iload hx hb dX1_raise_14 (lv_at hl 4 rfl) ?_
        refine lv_goto (tgt := 20) hx hb dX1_raise_16 (by decide) ?_
        exact W.eq (by rw [if_neg c_2, if_pos c_11] <;> rfl) (J20_2 _ _ hP hS)
    · skip
      refine lv_iload_n hx hb dX1_raise_5 rfl (lv_at hl 2 rfl) ?_
      refine lv_goto (tgt := 20) hx hb dX1_raise_6 (by decide) ?_
      exact W.eq (by rw [if_pos c_2] <;> rfl) (J20_2 _ _ hP hS)
def fm_inMemory (v_code : Int32) (a0 : Int32) (a1 : Int64) : Int64 × Int32 := if a1 < 262144 then (a1, v_code) else (a1, (fm_raise a0 1 5 7))
set_option maxHeartbeats 4000000 in
set_option maxRecDepth 100000 in
theorem ctm_inMemory (l : Launch) (dC : Nat → ClassId) (dI : Nat → Nat → Nat) (h0 : Nat) (q_memory : Nat) (k_memory : ClassId) (sz : Nat) (v_atp : Int32) (v_vsAtp : Int32) (v_hgatp : Int32) (v_rights : Int32) (v_code : Int32) (v_found : Int64) (v_wanted : Int64) (v_ofEntry : Int32) (m_memory : Nat → Int32) (a0 : Int32) (a1 : Int64) : MWl l yX1_inMemory wsX1_inMemory ({ frames := 1, cells := 0, slots := 0, locals := 24 }) (dC, dI) vwCl [(k_memory, .int)] [.ref h0, .int a0, .long a1] sz (wm h0 q_memory k_memory v_atp v_vsAtp v_hgatp v_rights v_code v_found v_wanted v_ofEntry m_memory) (fun u : Int64 × Int32 => (wm h0 q_memory k_memory v_atp v_vsAtp v_hgatp v_rights u.2 v_found v_wanted v_ofEntry m_memory)) (fun u : Int64 × Int32 => u.1) (fm_inMemory v_code a0 a1) := by
  refine Met.ofW (cc := cX1_inMemory) (maxL := 4) (ret := (some .long)) (by decide) rfl ?_
  intro p e s m args below meth c s₁ B hml hv
  obtain ⟨rfl, hsz, hP, hK, hD0⟩ := hv
  have hx := B.exec
  have hb := B.bytes
  have hr := B.returns
  have hts := atoms_spec (ws := wsX1_inMemory) B.pre
  have hown : s.vm.findClass RX1 = some m.cls := findClass_of_methodNamed B.named
  have hlocks := B.notSynchronized
  subst hsz
  have hD := hD0.self (sz := s.heap.size)
  generalize hAe : va_A (wm h0 q_memory k_memory v_atp v_vsAtp v_hgatp v_rights v_code v_found v_wanted v_ofEntry m_memory) s.heap.size = A at hD ⊢
  have hA : ∀ q : Nat, s.heap.size ≤ q → A q := fun q h => by rw [← hAe]; exact Or.inr h
  have hS : va_S A s.heap s.heap [] := va_S.rf
  have hP : va_P (dC, dI) vwCl (wm h0 q_memory k_memory v_atp v_vsAtp v_hgatp v_rights v_code v_found v_wanted v_ofEntry m_memory) s.heap := hP
  have hl := lv_entry ([.ref h0, .int a0, .long a1]) (n := 4) (Nat.le_of_ble_eq_true rfl)
  rw [lg_entry_eq]
  generalize (lg_sl ([.ref h0, .int a0, .long a1]) ++ List.replicate (4 - (lg_sl ([.ref h0, .int a0, .long a1])).length) Slot.unset).toArray = ls at hl ⊢
  have hl : lv_has ls 4 [(0, .ref h0), (1, .int a0), (2, .long a1)] := hl
  refine lv_lload_n hx hb dX1_inMemory_0 rfl (lv_at hl 2 rfl) ?_
  refine lv_ldc2 hx hb hown (hts (.constantLong RX1 32 262144) (by decide +kernel)) dX1_inMemory_1 ?_
  refine lq_lt (tgt := 17) hx hb dX1_inMemory_4 dX1_inMemory_5 (by decide) (fun c_5 => ?_) (fun c_5 => ?_)
  · skip
    refine lv_lload_n hx hb dX1_inMemory_17 rfl (lv_at hl 2 rfl) ?_
    exact W.lret (v := a1) hx hb hr (fun t ht hW => ⟨⟨_, (a1, v_code), rfl, ⟨rfl, by first | (rw [fm_inMemory, if_pos c_5]; done) | (simp only [fm_inMemory, if_pos c_5]; done) | (rw [fm_inMemory, if_pos c_5] <;> rfl)⟩, by rw [ht]; exact hP, va_K.moved hW.alike hK, hD⟩, hS.F ht⟩) hS.2.2 dX1_inMemory_18
  · skip
    refine lv_aload_n hx hb dX1_inMemory_8 rfl (lv_at hl 0 rfl) ?_
    refine lv_iload_n hx hb dX1_inMemory_9 rfl (lv_at hl 1 rfl) ?_
    refine lv_iconst (v := 1) hx hb dX1_inMemory_10 (by decide) ?_
    refine lv_iconst (v := 5) hx hb dX1_inMemory_11 (by decide) ?_
    refine lv_bipush (v := 7) hx hb dX1_inMemory_12 (by decide) ?_
    refine cw_v (va_runV (As := [.int a0, .int 1, .int 5, .int 7]) (rest := []) ⟨hx, hb, hml, hown, hts⟩ (ctm_raise l dC dI h0 q_memory k_memory s.heap.size v_atp v_vsAtp v_hgatp v_rights v_code v_found v_wanted v_ofEntry m_memory a0 1 5 7) (cwV 4 hts gX1_inMemory_X1_raise rfl rfl rfl (by decide +kernel) ⟨Nat.le_of_ble_eq_true rfl, Nat.le_of_ble_eq_true rfl⟩) ⟨fun a U g mk q => ⟨q.1, q.2.1, q.2.2.1, va_K.moved (u := U) (U := U.calling g mk a) (Vm.Alike.refl U.vm) q.2.2.2.1, q.2.2.2.2⟩, va_recv hK hP (ci := 1) (q0 := 0) rfl rfl, fun U hU hW => ⟨rfl, by rw [hU], by rw [hU]; exact hP, va_K.moved hW.alike hK, hD.weaken (fun _ _ _ _ => trivial)⟩⟩ rfl rfl hl.1 rfl (lv_room (Nat.le_of_ble_eq_true rfl)) dX1_inMemory_14 ⟨Nat.zero_le _, Nat.zero_le _⟩) hA hD hP hS (fun o_1 H locs eo_1 hP hD hS => ?_)
    have hP : va_P (dC, dI) vwCl (wm h0 q_memory k_memory v_atp v_vsAtp v_hgatp v_rights o_1 v_found v_wanted v_ofEntry m_memory) H := hP
    have hD : va_D A (wm h0 q_memory k_memory v_atp v_vsAtp v_hgatp v_rights o_1 v_found v_wanted v_ofEntry m_memory) := hD
    refine lv_lload_n hx hb dX1_inMemory_17 rfl (lv_at hl 2 rfl) ?_
    exact W.lret (v := a1) hx hb hr (fun t ht hW => ⟨⟨_, (a1, o_1), rfl, ⟨rfl, by subst eo_1; first | (rw [fm_inMemory, if_neg c_5]; done) | (simp only [fm_inMemory, if_neg c_5]; done) | (rw [fm_inMemory, if_neg c_5] <;> rfl)⟩, by rw [ht]; exact hP, va_K.moved hW.alike hK, hD⟩, hS.F ht⟩) hS.2.2 dX1_inMemory_18
def fm_userFits (a0 : Int32) (a1 : Int32) (a2 : Int32) (a3 : Int32) : Int32 := if a1 = 0 then if ((fm_isSet a0 4)) = 0 then 1 else if a3 = 0 then 0 else if a2 = 0 then 0 else 1 else (fm_isSet a0 4)
set_option maxHeartbeats 4000000 in
set_option maxRecDepth 100000 in
theorem ctm_userFits (l : Launch) (dC : Nat → ClassId) (dI : Nat → Nat → Nat) (h0 : Nat) (q_memory : Nat) (k_memory : ClassId) (sz : Nat) (v_atp : Int32) (v_vsAtp : Int32) (v_hgatp : Int32) (v_rights : Int32) (v_code : Int32) (v_found : Int64) (v_wanted : Int64) (v_ofEntry : Int32) (m_memory : Nat → Int32) (a0 : Int32) (a1 : Int32) (a2 : Int32) (a3 : Int32) : MRi l yX1_userFits wsX1_userFits ({ frames := 1, cells := 0, slots := 0, locals := 21 }) (dC, dI) vwCl [(k_memory, .int)] [.ref h0, .int a0, .int a1, .int a2, .int a3] sz (wm h0 q_memory k_memory v_atp v_vsAtp v_hgatp v_rights v_code v_found v_wanted v_ofEntry m_memory) (fm_userFits a0 a1 a2 a3) := by
  refine Met.ofW (cc := cX1_userFits) (maxL := 6) (ret := (some .boolean)) (by decide) rfl ?_
  intro p e s m args below meth c s₁ B hml hv
  obtain ⟨rfl, hsz, hP, hK, hD0⟩ := hv
  have hx := B.exec
  have hb := B.bytes
  have hr := B.returns
  have hts := atoms_spec (ws := wsX1_userFits) B.pre
  have hown : s.vm.findClass RX1 = some m.cls := findClass_of_methodNamed B.named
  have hlocks := B.notSynchronized
  subst hsz
  have hD := hD0.self (sz := s.heap.size)
  generalize hAe : va_A (wm h0 q_memory k_memory v_atp v_vsAtp v_hgatp v_rights v_code v_found v_wanted v_ofEntry m_memory) s.heap.size = A at hD ⊢
  have hA : ∀ q : Nat, s.heap.size ≤ q → A q := fun q h => by rw [← hAe]; exact Or.inr h
  have hS : va_S A s.heap s.heap [] := va_S.rf
  have hP : va_P (dC, dI) vwCl (wm h0 q_memory k_memory v_atp v_vsAtp v_hgatp v_rights v_code v_found v_wanted v_ofEntry m_memory) s.heap := hP
  have hl := lv_entry ([.ref h0, .int a0, .int a1, .int a2, .int a3]) (n := 6) (Nat.le_of_ble_eq_true rfl)
  rw [lg_entry_eq]
  generalize (lg_sl ([.ref h0, .int a0, .int a1, .int a2, .int a3]) ++ List.replicate (6 - (lg_sl ([.ref h0, .int a0, .int a1, .int a2, .int a3])).length) Slot.unset).toArray = ls at hl ⊢
  have hl : lv_has ls 6 [(0, .ref h0), (1, .int a0), (2, .int a1), (3, .int a2), (4, .int a3)] := hl
  refine lv_iload_n hx hb dX1_userFits_0 rfl (lv_at hl 1 rfl) ?_
  refine lv_iconst (v := 4) hx hb dX1_userFits_1 (by decide) ?_
  refine cs_i (va_runS (As := [.int a0, .int 4]) (rest := []) ⟨hx, hb, hml, hown, hts⟩ (ctm_isSet l s.heap.size a0 4) (va_cwS 2 hts gX1_userFits_X1_isSet rfl rfl rfl (by decide +kernel) ⟨Nat.le_of_ble_eq_true rfl, Nat.le_of_ble_eq_true rfl⟩) ⟨fun a U g mk q => q, fun U hU hW => ⟨rfl, congrArg Array.size hU⟩⟩ rfl rfl hl.1 rfl (lv_room (Nat.le_of_ble_eq_true rfl)) dX1_userFits_2 ⟨Nat.zero_le _, Nat.zero_le _⟩) hA hP hS (fun H locs hP hS => ?_)
  refine lv_topi (fun z_1 ez_1 => ?_)
  refine lv_istore (lv' := [(5, .int z_1), (0, .ref h0), (1, .int a0), (2, .int a1), (3, .int a2), (4, .int a3)]) hx hb dX1_userFits_5 hl (by decide) rfl (fun ls hl => ?_)
  refine lv_iload_n hx hb dX1_userFits_7 rfl (lv_at hl 3 rfl) ?_
  refine lv_if_eq (tgt := 16) hx hb dX1_userFits_8 (by decide) (fun c_8 => ?_) (fun c_8 => ?_)
  · skip
    refine lv_iload hx hb dX1_userFits_16 (lv_at hl 0 rfl) ?_
    refine lv_if_eq (tgt := 30) hx hb dX1_userFits_18 (by decide) (fun c_18 => ?_) (fun c_18 => ?_)
    · skip
      refine lv_iconst (v := 1) hx hb dX1_userFits_30 (by decide) ?_
      refine lv_goto (tgt := 35) hx hb dX1_userFits_31 (by decide) ?_
      exact W.zret (v := 1) (ty := .boolean) hx hb hr nb_1 (fun t ht hW => ⟨⟨_, (), rfl, by subst ez_1; first | (rw [fm_userFits, if_pos c_8, if_pos c_18]; done) | (simp only [fm_userFits, if_pos c_8, if_pos c_18]; done) | (rw [fm_userFits, if_pos c_8, if_pos c_18] <;> rfl), by rw [ht]; exact hP, va_K.moved hW.alike hK, hD⟩, hS.F ht⟩) hS.2.2 dX1_userFits_35
    · skip
      refine lv_iload hx hb dX1_userFits_21 (lv_at hl 5 rfl) ?_
      refine lv_if_eq (tgt := 34) hx hb dX1_userFits_23 (by decide) (fun c_23 => ?_) (fun c_23 => ?_)
      · skip
        refine lv_iconst (v := 0) hx hb dX1_userFits_34 (by decide) ?_
        exact W.zret (v := 0) (ty := .boolean) hx hb hr nb_0 (fun t ht hW => ⟨⟨_, (), rfl, by subst ez_1; first | (rw [fm_userFits, if_pos c_8, if_neg c_18, if_pos c_23]; done) | (simp only [fm_userFits, if_pos c_8, if_neg c_18, if_pos c_23]; done) | (rw [fm_userFits, if_pos c_8, if_neg c_18, if_pos c_23] <;> rfl), by rw [ht]; exact hP, va_K.moved hW.alike hK, hD⟩, hS.F ht⟩) hS.2.2 dX1_userFits_35
      · skip
        refine lv_iload_n hx hb dX1_userFits_26 rfl (lv_at hl 4 rfl) ?_
        refine lv_if_eq (tgt := 34) hx hb dX1_userFits_27 (by decide) (fun c_27 => ?_) (fun c_27 => ?_)
        · skip
          refine lv_iconst (v := 0) hx hb dX1_userFits_34 (by decide) ?_
          exact W.zret (v := 0) (ty := .boolean) hx hb hr nb_0 (fun t ht hW => ⟨⟨_, (), rfl, by subst ez_1; first | (rw [fm_userFits, if_pos c_8, if_neg c_18, if_neg c_23, if_pos c_27]; done) | (simp only [fm_userFits, if_pos c_8, if_neg c_18, if_neg c_23, if_pos c_27]; done) | (rw [fm_userFits, if_pos c_8, if_neg c_18, if_neg c_23, if_pos c_27] <;> rfl), by rw [ht]; exact hP, va_K.moved hW.alike hK, hD⟩, hS.F ht⟩) hS.2.2 dX1_userFits_35
        · skip
          refine lv_iconst (v := 1) hx hb dX1_userFits_30 (by decide) ?_
          refine lv_goto (tgt := 35) hx hb dX1_userFits_31 (by decide) ?_
          exact W.zret (v := 1) (ty := .boolean) hx hb hr nb_1 (fun t ht hW => ⟨⟨_, (), rfl, by subst ez_1; first | (rw [fm_userFits, if_pos c_8, if_neg c_18, if_neg c_23, if_neg c_27]; done) | (simp only [fm_userFits, if_pos c_8, if_neg c_18, if_neg c_23, if_neg c_27]; done) | (rw [fm_userFits, if_pos c_8, if_neg c_18, if_neg c_23, if_neg c_27] <;> rfl), by rw [ht]; exact hP, va_K.moved hW.alike hK, hD⟩, hS.F ht⟩) hS.2.2 dX1_userFits_35
  · skip
    refine lv_iload hx hb dX1_userFits_11 (lv_at hl 0 rfl) ?_
    refine lv_goto (tgt := 35) hx hb dX1_userFits_13 (by decide) ?_
    exact W.zret (v := z_1) (ty := .boolean) hx hb hr (nb_z (by rw [ez_1]; exact ob_isSet _ _)) (fun t ht hW => ⟨⟨_, (), rfl, by subst ez_1; first | (rw [fm_userFits, if_neg c_8]; done) | (simp only [fm_userFits, if_neg c_8]; done) | (rw [fm_userFits, if_neg c_8] <;> rfl), by rw [ht]; exact hP, va_K.moved hW.alike hK, hD⟩, hS.F ht⟩) hS.2.2 dX1_userFits_35
def fm_word (m_memory : Nat → Int32) (a0 : Int32) : Int32 := if a0 < 0 then 0 else if 262144 ≤ a0 then 0 else if (a0 - a0 / 4 * 4) = 0 then m_memory (a0 / 4).toNatClampNeg else 0
set_option maxHeartbeats 4000000 in
set_option maxRecDepth 100000 in
theorem ctm_word (l : Launch) (dC : Nat → ClassId) (dI : Nat → Nat → Nat) (h0 : Nat) (q_memory : Nat) (k_memory : ClassId) (sz : Nat) (v_atp : Int32) (v_vsAtp : Int32) (v_hgatp : Int32) (v_rights : Int32) (v_code : Int32) (v_found : Int64) (v_wanted : Int64) (v_ofEntry : Int32) (m_memory : Nat → Int32) (a0 : Int32) : MRi l yX1_word wsX1_word ({ frames := 0, cells := 0, slots := 0, locals := 0 }) (dC, dI) vwCl [(k_memory, .int)] [.ref h0, .int a0] sz (wm h0 q_memory k_memory v_atp v_vsAtp v_hgatp v_rights v_code v_found v_wanted v_ofEntry m_memory) (fm_word m_memory a0) := by
  refine Met.ofW (cc := cX1_word) (maxL := 2) (ret := (some .int)) (by decide) rfl ?_
  intro p e s m args below meth c s₁ B hml hv
  obtain ⟨rfl, hsz, hP, hK, hD0⟩ := hv
  have hx := B.exec
  have hb := B.bytes
  have hr := B.returns
  have hts := atoms_spec (ws := wsX1_word) B.pre
  have hown : s.vm.findClass RX1 = some m.cls := findClass_of_methodNamed B.named
  have hlocks := B.notSynchronized
  subst hsz
  have hwX : ∀ w ∈ u_ws RX1 TX1 9, w ∈ wsX1_word := by decide +kernel
  have hD := hD0.self (sz := s.heap.size)
  generalize hAe : va_A (wm h0 q_memory k_memory v_atp v_vsAtp v_hgatp v_rights v_code v_found v_wanted v_ofEntry m_memory) s.heap.size = A at hD ⊢
  have hA : ∀ q : Nat, s.heap.size ≤ q → A q := fun q h => by rw [← hAe]; exact Or.inr h
  have hS : va_S A s.heap s.heap [] := va_S.rf
  have hP : va_P (dC, dI) vwCl (wm h0 q_memory k_memory v_atp v_vsAtp v_hgatp v_rights v_code v_found v_wanted v_ofEntry m_memory) s.heap := hP
  have hl := lv_entry ([.ref h0, .int a0]) (n := 2) (Nat.le_of_ble_eq_true rfl)
  rw [lg_entry_eq]
  generalize (lg_sl ([.ref h0, .int a0]) ++ List.replicate (2 - (lg_sl ([.ref h0, .int a0])).length) Slot.unset).toArray = ls at hl ⊢
  have hl : lv_has ls 2 [(0, .ref h0), (1, .int a0)] := hl
  refine lv_iload_n hx hb dX1_word_0 rfl (lv_at hl 1 rfl) ?_
  refine lv_if_lt (tgt := 27) hx hb dX1_word_1 (by decide) (fun c_1 => ?_) (fun c_1 => ?_)
  · skip
    refine lv_iconst (v := 0) hx hb dX1_word_27 (by decide) ?_
    exact W.iret (v := 0) hx hb hr (fun t ht hW => ⟨⟨_, (), rfl, by first | (rw [fm_word, if_pos c_1]; done) | (simp only [fm_word, if_pos c_1]; done) | (rw [fm_word, if_pos c_1] <;> rfl), by rw [ht]; exact hP, va_K.moved hW.alike hK, hD⟩, hS.F ht⟩) hS.2.2 dX1_word_28
  · skip
    refine lv_iload_n hx hb dX1_word_4 rfl (lv_at hl 1 rfl) ?_
    refine lv_ldc hx hb hown (hts (.constant RX1 31 262144) (by decide +kernel)) dX1_word_5 ?_
    refine lv_icmp_ge (tgt := 27) hx hb dX1_word_7 (by decide) (fun c_7 => ?_) (fun c_7 => ?_)
    · skip
      refine lv_iconst (v := 0) hx hb dX1_word_27 (by decide) ?_
      exact W.iret (v := 0) hx hb hr (fun t ht hW => ⟨⟨_, (), rfl, by first | (rw [fm_word, if_neg c_1, if_pos c_7]; done) | (simp only [fm_word, if_neg c_1, if_pos c_7]; done) | (rw [fm_word, if_neg c_1, if_pos c_7] <;> rfl), by rw [ht]; exact hP, va_K.moved hW.alike hK, hD⟩, hS.F ht⟩) hS.2.2 dX1_word_28
    · skip
      refine lv_iload_n hx hb dX1_word_10 rfl (lv_at hl 1 rfl) ?_
      refine lv_iconst (v := 4) hx hb dX1_word_11 (by decide) ?_
      refine lv_irem hx hb dX1_word_12 (by decide) ?_
      refine lv_if_ne (tgt := 27) hx hb dX1_word_13 (by decide) (fun c_13 => ?_) (fun c_13 => ?_)
      · skip
        refine lv_iconst (v := 0) hx hb dX1_word_27 (by decide) ?_
        exact W.iret (v := 0) hx hb hr (fun t ht hW => ⟨⟨_, (), rfl, by first | (rw [fm_word, if_neg c_1, if_neg c_7, if_neg c_13]; done) | (simp only [fm_word, if_neg c_1, if_neg c_7, if_neg c_13]; done) | (rw [fm_word, if_neg c_1, if_neg c_7, if_neg c_13] <;> rfl), by rw [ht]; exact hP, va_K.moved hW.alike hK, hD⟩, hS.F ht⟩) hS.2.2 dX1_word_28
      · skip
        refine lv_aload_n hx hb dX1_word_16 rfl (lv_at hl 0 rfl) ?_
        refine va_get (D := (dC, dI)) (ci := 1) (v := .ref q_memory) (C := RX1) (T := TX1) (N := 9) hx hb hts hwX hown hK hP 0 rfl rfl 0 (by decide) (hts (.fieldLink RX1 8 "StageWalkerModel" "memory" "[I") (by decide +kernel)) (fun _ h9 => h9) rfl dX1_word_17 ?_
        refine lv_iload_n hx hb dX1_word_20 rfl (lv_at hl 1 rfl) ?_
        refine lv_iconst (v := 4) hx hb dX1_word_21 (by decide) ?_
        refine lv_idiv hx hb dX1_word_22 (by decide) ?_
        refine va_iald (cA := k_memory) (f := m_memory) hx hb hK hP 1 0 rfl rfl (i := a0 / 4) (vm_word c_1 c_7) dX1_word_23 ?_
        refine lv_goto (tgt := 28) hx hb dX1_word_24 (by decide) ?_
        exact W.iret (v := m_memory (a0 / 4).toNatClampNeg) hx hb hr (fun t ht hW => ⟨⟨_, (), rfl, by first | (rw [fm_word, if_neg c_1, if_neg c_7, if_pos c_13]; done) | (simp only [fm_word, if_neg c_1, if_neg c_7, if_pos c_13]; done) | (rw [fm_word, if_neg c_1, if_neg c_7, if_pos c_13] <;> rfl), by rw [ht]; exact hP, va_K.moved hW.alike hK, hD⟩, hS.F ht⟩) hS.2.2 dX1_word_28
def fm_poke (m_memory : Nat → Int32) (a0 : Int32) (a1 : Int32) (a2 : Int32) (a3 : Int32) (a4 : Int32) (a5 : Int32) : Int32 × (Nat → Int32) := if a0 < 0 then ((-1), m_memory) else if (a0 - a0 / 4 * 4) = 0 then if a0 ≤ 262124 then (a0 + 20, upd (upd (upd (upd (upd m_memory (a0 / 4).toNatClampNeg a1) ((a0 / 4) + 1).toNatClampNeg a2) ((a0 / 4) + 2).toNatClampNeg a3) ((a0 / 4) + 3).toNatClampNeg a4) ((a0 / 4) + 4).toNatClampNeg a5) else ((-1), m_memory) else ((-1), m_memory)
set_option maxHeartbeats 4000000 in
set_option maxRecDepth 100000 in
theorem ctm_poke (l : Launch) (dC : Nat → ClassId) (dI : Nat → Nat → Nat) (h0 : Nat) (q_memory : Nat) (k_memory : ClassId) (sz : Nat) (v_atp : Int32) (v_vsAtp : Int32) (v_hgatp : Int32) (v_rights : Int32) (v_code : Int32) (v_found : Int64) (v_wanted : Int64) (v_ofEntry : Int32) (m_memory : Nat → Int32) (a0 : Int32) (a1 : Int32) (a2 : Int32) (a3 : Int32) (a4 : Int32) (a5 : Int32) : MWi l yX1_poke wsX1_poke ({ frames := 0, cells := 0, slots := 0, locals := 0 }) (dC, dI) vwCl [(k_memory, .int)] [.ref h0, .int a0, .int a1, .int a2, .int a3, .int a4, .int a5] sz (wm h0 q_memory k_memory v_atp v_vsAtp v_hgatp v_rights v_code v_found v_wanted v_ofEntry m_memory) (fun u : Int32 × (Nat → Int32) => (wm h0 q_memory k_memory v_atp v_vsAtp v_hgatp v_rights v_code v_found v_wanted v_ofEntry u.2)) (fun u : Int32 × (Nat → Int32) => u.1) (fm_poke m_memory a0 a1 a2 a3 a4 a5) := by
  refine Met.ofW (cc := cX1_poke) (maxL := 8) (ret := (some .int)) (by decide) rfl ?_
  intro p e s m args below meth c s₁ B hml hv
  obtain ⟨rfl, hsz, hP, hK, hD0⟩ := hv
  have hx := B.exec
  have hb := B.bytes
  have hr := B.returns
  have hts := atoms_spec (ws := wsX1_poke) B.pre
  have hown : s.vm.findClass RX1 = some m.cls := findClass_of_methodNamed B.named
  have hlocks := B.notSynchronized
  subst hsz
  have hwX : ∀ w ∈ u_ws RX1 TX1 9, w ∈ wsX1_poke := by decide +kernel
  have hD := hD0.self (sz := s.heap.size)
  generalize hAe : va_A (wm h0 q_memory k_memory v_atp v_vsAtp v_hgatp v_rights v_code v_found v_wanted v_ofEntry m_memory) s.heap.size = A at hD ⊢
  have hA : ∀ q : Nat, s.heap.size ≤ q → A q := fun q h => by rw [← hAe]; exact Or.inr h
  have hS : va_S A s.heap s.heap [] := va_S.rf
  have hP : va_P (dC, dI) vwCl (wm h0 q_memory k_memory v_atp v_vsAtp v_hgatp v_rights v_code v_found v_wanted v_ofEntry m_memory) s.heap := hP
  have hl := lv_entry ([.ref h0, .int a0, .int a1, .int a2, .int a3, .int a4, .int a5]) (n := 8) (Nat.le_of_ble_eq_true rfl)
  rw [lg_entry_eq]
  generalize (lg_sl ([.ref h0, .int a0, .int a1, .int a2, .int a3, .int a4, .int a5]) ++ List.replicate (8 - (lg_sl ([.ref h0, .int a0, .int a1, .int a2, .int a3, .int a4, .int a5])).length) Slot.unset).toArray = ls at hl ⊢
  have hl : lv_has ls 8 [(0, .ref h0), (1, .int a0), (2, .int a1), (3, .int a2), (4, .int a3), (5, .int a4), (6, .int a5)] := hl
  refine lv_iload_n hx hb dX1_poke_0 rfl (lv_at hl 1 rfl) ?_
  refine lv_if_lt (tgt := 16) hx hb dX1_poke_1 (by decide) (fun c_1 => ?_) (fun c_1 => ?_)
  · skip
    refine lv_iconst (v := -1) hx hb dX1_poke_16 (by decide) ?_
    exact W.iret (v := (-1)) hx hb hr (fun t ht hW => ⟨⟨_, ((-1), m_memory), rfl, ⟨rfl, by first | (rw [fm_poke, if_pos c_1]; done) | (simp only [fm_poke, if_pos c_1]; done) | (rw [fm_poke, if_pos c_1] <;> rfl)⟩, by rw [ht]; exact hP, va_K.moved hW.alike hK, hD⟩, hS.F ht⟩) hS.2.2 dX1_poke_17
  · skip
    refine lv_iload_n hx hb dX1_poke_4 rfl (lv_at hl 1 rfl) ?_
    refine lv_iconst (v := 4) hx hb dX1_poke_5 (by decide) ?_
    refine lv_irem hx hb dX1_poke_6 (by decide) ?_
    refine lv_if_ne (tgt := 16) hx hb dX1_poke_7 (by decide) (fun c_7 => ?_) (fun c_7 => ?_)
    · skip
      refine lv_iconst (v := -1) hx hb dX1_poke_16 (by decide) ?_
      exact W.iret (v := (-1)) hx hb hr (fun t ht hW => ⟨⟨_, ((-1), m_memory), rfl, ⟨rfl, by first | (rw [fm_poke, if_neg c_1, if_neg c_7]; done) | (simp only [fm_poke, if_neg c_1, if_neg c_7]; done) | (rw [fm_poke, if_neg c_1, if_neg c_7] <;> rfl)⟩, by rw [ht]; exact hP, va_K.moved hW.alike hK, hD⟩, hS.F ht⟩) hS.2.2 dX1_poke_17
    · skip
      refine lv_iload_n hx hb dX1_poke_10 rfl (lv_at hl 1 rfl) ?_
      refine lv_ldc hx hb hown (hts (.constant RX1 30 262124) (by decide +kernel)) dX1_poke_11 ?_
      refine lv_icmp_le (tgt := 18) hx hb dX1_poke_13 (by decide) (fun c_13 => ?_) (fun c_13 => ?_)
      · skip
        refine lv_iload_n hx hb dX1_poke_18 rfl (lv_at hl 1 rfl) ?_
        refine lv_iconst (v := 4) hx hb dX1_poke_19 (by decide) ?_
        refine lv_idiv hx hb dX1_poke_20 (by decide) ?_
        refine lv_topi (fun z_1 ez_1 => ?_)
        refine lv_istore (lv' := [(7, .int z_1), (0, .ref h0), (1, .int a0), (2, .int a1), (3, .int a2), (4, .int a3), (5, .int a4), (6, .int a5)]) hx hb dX1_poke_21 hl (by decide) rfl (fun ls hl => ?_)
        refine lv_aload_n hx hb dX1_poke_23 rfl (lv_at hl 1 rfl) ?_
        refine va_get (D := (dC, dI)) (ci := 1) (v := .ref q_memory) (C := RX1) (T := TX1) (N := 9) hx hb hts hwX hown hK hP 0 rfl rfl 0 (by decide) (hts (.fieldLink RX1 8 "StageWalkerModel" "memory" "[I") (by decide +kernel)) (fun _ h9 => h9) rfl dX1_poke_24 ?_
        refine lv_iload hx hb dX1_poke_27 (lv_at hl 0 rfl) ?_
        refine lv_iload_n hx hb dX1_poke_29 rfl (lv_at hl 3 rfl) ?_
        refine va_iast (cA := k_memory) (f := m_memory) hx hb hK hP hD hS 1 0 rfl rfl (i := z_1) (x := a1) (vm_poke0 ez_1 c_1 c_13) dX1_poke_30 (fun H locs hP hD hS => ?_)
        have hP : va_P (dC, dI) vwCl (wm h0 q_memory k_memory v_atp v_vsAtp v_hgatp v_rights v_code v_found v_wanted v_ofEntry (upd m_memory z_1.toNatClampNeg a1)) H := hP
        have hD : va_D A (wm h0 q_memory k_memory v_atp v_vsAtp v_hgatp v_rights v_code v_found v_wanted v_ofEntry (upd m_memory z_1.toNatClampNeg a1)) := hD
        refine lv_aload_n hx hb dX1_poke_31 rfl (lv_at hl 1 rfl) ?_
        refine va_get (D := (dC, dI)) (ci := 1) (v := .ref q_memory) (C := RX1) (T := TX1) (N := 9) hx hb hts hwX hown hK hP 0 rfl rfl 0 (by decide) (hts (.fieldLink RX1 8 "StageWalkerModel" "memory" "[I") (by decide +kernel)) (fun _ h9 => h9) rfl dX1_poke_32 ?_
        refine lv_iload hx hb dX1_poke_35 (lv_at hl 0 rfl) ?_
        refine lv_iconst (v := 1) hx hb dX1_poke_37 (by decide) ?_
        refine lv_iadd hx hb dX1_poke_38 ?_
        refine lv_iload_n hx hb dX1_poke_39 rfl (lv_at hl 4 rfl) ?_
        refine va_iast (cA := k_memory) (f := upd m_memory z_1.toNatClampNeg a1) hx hb hK hP hD hS 1 0 rfl rfl (i := z_1 + 1) (x := a2) (vm_poke1 ez_1 c_1 c_13) dX1_poke_40 (fun H locs hP hD hS => ?_)
        have hP : va_P (dC, dI) vwCl (wm h0 q_memory k_memory v_atp v_vsAtp v_hgatp v_rights v_code v_found v_wanted v_ofEntry (upd (upd m_memory z_1.toNatClampNeg a1) (z_1 + 1).toNatClampNeg a2)) H := hP
        have hD : va_D A (wm h0 q_memory k_memory v_atp v_vsAtp v_hgatp v_rights v_code v_found v_wanted v_ofEntry (upd (upd m_memory z_1.toNatClampNeg a1) (z_1 + 1).toNatClampNeg a2)) := hD
        refine lv_aload_n hx hb dX1_poke_41 rfl (lv_at hl 1 rfl) ?_
        refine va_get (D := (dC, dI)) (ci := 1) (v := .ref q_memory) (C := RX1) (T := TX1) (N := 9) hx hb hts hwX hown hK hP 0 rfl rfl 0 (by decide) (hts (.fieldLink RX1 8 "StageWalkerModel" "memory" "[I") (by decide +kernel)) (fun _ h9 => h9) rfl dX1_poke_42 ?_
        refine lv_iload hx hb dX1_poke_45 (lv_at hl 0 rfl) ?_
        refine lv_iconst (v := 2) hx hb dX1_poke_47 (by decide) ?_
        refine lv_iadd hx hb dX1_poke_48 ?_
        refine lv_iload hx hb dX1_poke_49 (lv_at hl 5 rfl) ?_
        refine va_iast (cA := k_memory) (f := upd (upd m_memory z_1.toNatClampNeg a1) (z_1 + 1).toNatClampNeg a2) hx hb hK hP hD hS 1 0 rfl rfl (i := z_1 + 2) (x := a3) (vm_poke2 ez_1 c_1 c_13) dX1_poke_51 (fun H locs hP hD hS => ?_)
        have hP : va_P (dC, dI) vwCl (wm h0 q_memory k_memory v_atp v_vsAtp v_hgatp v_rights v_code v_found v_wanted v_ofEntry (upd (upd (upd m_memory z_1.toNatClampNeg a1) (z_1 + 1).toNatClampNeg a2) (z_1 + 2).toNatClampNeg a3)) H := hP
        have hD : va_D A (wm h0 q_memory k_memory v_atp v_vsAtp v_hgatp v_rights v_code v_found v_wanted v_ofEntry (upd (upd (upd m_memory z_1.toNatClampNeg a1) (z_1 + 1).toNatClampNeg a2) (z_1 + 2).toNatClampNeg a3)) := hD
        refine lv_aload_n hx hb dX1_poke_52 rfl (lv_at hl 1 rfl) ?_
        refine va_get (D := (dC, dI)) (ci := 1) (v := .ref q_memory) (C := RX1) (T := TX1) (N := 9) hx hb hts hwX hown hK hP 0 rfl rfl 0 (by decide) (hts (.fieldLink RX1 8 "StageWalkerModel" "memory" "[I") (by decide +kernel)) (fun _ h9 => h9) rfl dX1_poke_53 ?_
        refine lv_iload hx hb dX1_poke_56 (lv_at hl 0 rfl) ?_
        refine lv_iconst (v := 3) hx hb dX1_poke_58 (by decide) ?_
        refine lv_iadd hx hb dX1_poke_59 ?_
        refine lv_iload hx hb dX1_poke_60 (lv_at hl 6 rfl) ?_
        refine va_iast (cA := k_memory) (f := upd (upd (upd m_memory z_1.toNatClampNeg a1) (z_1 + 1).toNatClampNeg a2) (z_1 + 2).toNatClampNeg a3) hx hb hK hP hD hS 1 0 rfl rfl (i := z_1 + 3) (x := a4) (vm_poke3 ez_1 c_1 c_13) dX1_poke_62 (fun H locs hP hD hS => ?_)
        have hP : va_P (dC, dI) vwCl (wm h0 q_memory k_memory v_atp v_vsAtp v_hgatp v_rights v_code v_found v_wanted v_ofEntry (upd (upd (upd (upd m_memory z_1.toNatClampNeg a1) (z_1 + 1).toNatClampNeg a2) (z_1 + 2).toNatClampNeg a3) (z_1 + 3).toNatClampNeg a4)) H := hP
        have hD : va_D A (wm h0 q_memory k_memory v_atp v_vsAtp v_hgatp v_rights v_code v_found v_wanted v_ofEntry (upd (upd (upd (upd m_memory z_1.toNatClampNeg a1) (z_1 + 1).toNatClampNeg a2) (z_1 + 2).toNatClampNeg a3) (z_1 + 3).toNatClampNeg a4)) := hD
        refine lv_aload_n hx hb dX1_poke_63 rfl (lv_at hl 1 rfl) ?_
        refine va_get (D := (dC, dI)) (ci := 1) (v := .ref q_memory) (C := RX1) (T := TX1) (N := 9) hx hb hts hwX hown hK hP 0 rfl rfl 0 (by decide) (hts (.fieldLink RX1 8 "StageWalkerModel" "memory" "[I") (by decide +kernel)) (fun _ h9 => h9) rfl dX1_poke_64 ?_
        refine lv_iload hx hb dX1_poke_67 (lv_at hl 0 rfl) ?_
        refine lv_iconst (v := 4) hx hb dX1_poke_69 (by decide) ?_
        refine lv_iadd hx hb dX1_poke_70 ?_
        refine lv_iload hx hb dX1_poke_71 (lv_at hl 7 rfl) ?_
        refine va_iast (cA := k_memory) (f := upd (upd (upd (upd m_memory z_1.toNatClampNeg a1) (z_1 + 1).toNatClampNeg a2) (z_1 + 2).toNatClampNeg a3) (z_1 + 3).toNatClampNeg a4) hx hb hK hP hD hS 1 0 rfl rfl (i := z_1 + 4) (x := a5) (vm_poke4 ez_1 c_1 c_13) dX1_poke_73 (fun H locs hP hD hS => ?_)
        have hP : va_P (dC, dI) vwCl (wm h0 q_memory k_memory v_atp v_vsAtp v_hgatp v_rights v_code v_found v_wanted v_ofEntry (upd (upd (upd (upd (upd m_memory z_1.toNatClampNeg a1) (z_1 + 1).toNatClampNeg a2) (z_1 + 2).toNatClampNeg a3) (z_1 + 3).toNatClampNeg a4) (z_1 + 4).toNatClampNeg a5)) H := hP
        have hD : va_D A (wm h0 q_memory k_memory v_atp v_vsAtp v_hgatp v_rights v_code v_found v_wanted v_ofEntry (upd (upd (upd (upd (upd m_memory z_1.toNatClampNeg a1) (z_1 + 1).toNatClampNeg a2) (z_1 + 2).toNatClampNeg a3) (z_1 + 3).toNatClampNeg a4) (z_1 + 4).toNatClampNeg a5)) := hD
        refine lv_iload_n hx hb dX1_poke_74 rfl (lv_at hl 2 rfl) ?_
        refine lv_bipush (v := 20) hx hb dX1_poke_75 (by decide) ?_
        refine lv_iadd hx hb dX1_poke_77 ?_
        exact W.iret (v := a0 + 20) hx hb hr (fun t ht hW => ⟨⟨_, (a0 + 20, upd (upd (upd (upd (upd m_memory z_1.toNatClampNeg a1) (z_1 + 1).toNatClampNeg a2) (z_1 + 2).toNatClampNeg a3) (z_1 + 3).toNatClampNeg a4) (z_1 + 4).toNatClampNeg a5), rfl, ⟨rfl, by subst ez_1; first | (rw [fm_poke, if_neg c_1, if_pos c_7, if_pos c_13]; done) | (simp only [fm_poke, if_neg c_1, if_pos c_7, if_pos c_13]; done) | (rw [fm_poke, if_neg c_1, if_pos c_7, if_pos c_13] <;> rfl)⟩, by rw [ht]; exact hP, va_K.moved hW.alike hK, hD⟩, hS.F ht⟩) hS.2.2 dX1_poke_78
      · skip
        refine lv_iconst (v := -1) hx hb dX1_poke_16 (by decide) ?_
        exact W.iret (v := (-1)) hx hb hr (fun t ht hW => ⟨⟨_, ((-1), m_memory), rfl, ⟨rfl, by first | (rw [fm_poke, if_neg c_1, if_pos c_7, if_neg c_13]; done) | (simp only [fm_poke, if_neg c_1, if_pos c_7, if_neg c_13]; done) | (rw [fm_poke, if_neg c_1, if_pos c_7, if_neg c_13] <;> rfl)⟩, by rw [ht]; exact hP, va_K.moved hW.alike hK, hD⟩, hS.F ht⟩) hS.2.2 dX1_poke_17
def fm_roots (a0 : Int32) (a1 : Int32) (a2 : Int32) : Int32 × Int32 × Int32 := (a0, a1, a2)
set_option maxHeartbeats 4000000 in
set_option maxRecDepth 100000 in
theorem ctm_roots (l : Launch) (dC : Nat → ClassId) (dI : Nat → Nat → Nat) (h0 : Nat) (q_memory : Nat) (k_memory : ClassId) (sz : Nat) (v_atp : Int32) (v_vsAtp : Int32) (v_hgatp : Int32) (v_rights : Int32) (v_code : Int32) (v_found : Int64) (v_wanted : Int64) (v_ofEntry : Int32) (m_memory : Nat → Int32) (a0 : Int32) (a1 : Int32) (a2 : Int32) : MWv l yX1_roots wsX1_roots ({ frames := 0, cells := 0, slots := 0, locals := 0 }) (dC, dI) vwCl [(k_memory, .int)] [.ref h0, .int a0, .int a1, .int a2] sz (wm h0 q_memory k_memory v_atp v_vsAtp v_hgatp v_rights v_code v_found v_wanted v_ofEntry m_memory) (fun u : Int32 × Int32 × Int32 => (wm h0 q_memory k_memory u.1 u.2.1 u.2.2 v_rights v_code v_found v_wanted v_ofEntry m_memory)) (fm_roots a0 a1 a2) := by
  refine Met.ofW (cc := cX1_roots) (maxL := 4) (ret := none) (by decide) rfl ?_
  intro p e s m args below meth c s₁ B hml hv
  obtain ⟨rfl, hsz, hP, hK, hD0⟩ := hv
  have hx := B.exec
  have hb := B.bytes
  have hr := B.returns
  have hts := atoms_spec (ws := wsX1_roots) B.pre
  have hown : s.vm.findClass RX1 = some m.cls := findClass_of_methodNamed B.named
  have hlocks := B.notSynchronized
  subst hsz
  have hwX : ∀ w ∈ u_ws RX1 TX1 9, w ∈ wsX1_roots := by decide +kernel
  have hD := hD0.self (sz := s.heap.size)
  generalize hAe : va_A (wm h0 q_memory k_memory v_atp v_vsAtp v_hgatp v_rights v_code v_found v_wanted v_ofEntry m_memory) s.heap.size = A at hD ⊢
  have hA : ∀ q : Nat, s.heap.size ≤ q → A q := fun q h => by rw [← hAe]; exact Or.inr h
  have hS : va_S A s.heap s.heap [] := va_S.rf
  have hP : va_P (dC, dI) vwCl (wm h0 q_memory k_memory v_atp v_vsAtp v_hgatp v_rights v_code v_found v_wanted v_ofEntry m_memory) s.heap := hP
  have hl := lv_entry ([.ref h0, .int a0, .int a1, .int a2]) (n := 4) (Nat.le_of_ble_eq_true rfl)
  rw [lg_entry_eq]
  generalize (lg_sl ([.ref h0, .int a0, .int a1, .int a2]) ++ List.replicate (4 - (lg_sl ([.ref h0, .int a0, .int a1, .int a2])).length) Slot.unset).toArray = ls at hl ⊢
  have hl : lv_has ls 4 [(0, .ref h0), (1, .int a0), (2, .int a1), (3, .int a2)] := hl
  refine lv_aload_n hx hb dX1_roots_0 rfl (lv_at hl 0 rfl) ?_
  refine lv_iload_n hx hb dX1_roots_1 rfl (lv_at hl 1 rfl) ?_
  refine va_put (D := (dC, dI)) (ci := 1) (v := .int a0) (ty := .int) (C := RX1) (T := TX1) (N := 9) hx hb hts hwX tyX1 tyX1_ok nmX1 hown hK hP hD hS 0 rfl rfl 1 (by decide) (hts (.fieldLink RX1 18 "StageWalkerModel" "atp" "I") (by decide +kernel)) (fun _ h9 => h9) rfl (by decide +kernel) rfl rfl (Nat.le_of_ble_eq_true rfl) dX1_roots_2 (fun H locs hP hD hS => ?_)
  have hP : va_P (dC, dI) vwCl (wm h0 q_memory k_memory a0 v_vsAtp v_hgatp v_rights v_code v_found v_wanted v_ofEntry m_memory) H := hP
  have hD : va_D A (wm h0 q_memory k_memory a0 v_vsAtp v_hgatp v_rights v_code v_found v_wanted v_ofEntry m_memory) := hD
  refine lv_aload_n hx hb dX1_roots_5 rfl (lv_at hl 0 rfl) ?_
  refine lv_iload_n hx hb dX1_roots_6 rfl (lv_at hl 2 rfl) ?_
  refine va_put (D := (dC, dI)) (ci := 1) (v := .int a1) (ty := .int) (C := RX1) (T := TX1) (N := 9) hx hb hts hwX tyX1 tyX1_ok nmX1 hown hK hP hD hS 0 rfl rfl 2 (by decide) (hts (.fieldLink RX1 21 "StageWalkerModel" "vsAtp" "I") (by decide +kernel)) (fun _ h9 => h9) rfl (by decide +kernel) rfl rfl (Nat.le_of_ble_eq_true rfl) dX1_roots_7 (fun H locs hP hD hS => ?_)
  have hP : va_P (dC, dI) vwCl (wm h0 q_memory k_memory a0 a1 v_hgatp v_rights v_code v_found v_wanted v_ofEntry m_memory) H := hP
  have hD : va_D A (wm h0 q_memory k_memory a0 a1 v_hgatp v_rights v_code v_found v_wanted v_ofEntry m_memory) := hD
  refine lv_aload_n hx hb dX1_roots_10 rfl (lv_at hl 0 rfl) ?_
  refine lv_iload_n hx hb dX1_roots_11 rfl (lv_at hl 3 rfl) ?_
  refine va_put (D := (dC, dI)) (ci := 1) (v := .int a2) (ty := .int) (C := RX1) (T := TX1) (N := 9) hx hb hts hwX tyX1 tyX1_ok nmX1 hown hK hP hD hS 0 rfl rfl 3 (by decide) (hts (.fieldLink RX1 24 "StageWalkerModel" "hgatp" "I") (by decide +kernel)) (fun _ h9 => h9) rfl (by decide +kernel) rfl rfl (Nat.le_of_ble_eq_true rfl) dX1_roots_12 (fun H locs hP hD hS => ?_)
  have hP : va_P (dC, dI) vwCl (wm h0 q_memory k_memory a0 a1 a2 v_rights v_code v_found v_wanted v_ofEntry m_memory) H := hP
  have hD : va_D A (wm h0 q_memory k_memory a0 a1 a2 v_rights v_code v_found v_wanted v_ofEntry m_memory) := hD
  exact W.vret hx hb hr (fun t ht hW => ⟨⟨(a0, a1, a2), rfl, by rfl, by rw [ht]; exact hP, va_K.moved hW.alike hK, hD⟩, hS.F ht⟩) hS.2.2 dX1_roots_15
def fm_rights (v_rights : Int32) (a0 : Int32) : Int32 × Int32 := (v_rights, a0 &&& 15)
set_option maxHeartbeats 4000000 in
set_option maxRecDepth 100000 in
theorem ctm_rights (l : Launch) (dC : Nat → ClassId) (dI : Nat → Nat → Nat) (h0 : Nat) (q_memory : Nat) (k_memory : ClassId) (sz : Nat) (v_atp : Int32) (v_vsAtp : Int32) (v_hgatp : Int32) (v_rights : Int32) (v_code : Int32) (v_found : Int64) (v_wanted : Int64) (v_ofEntry : Int32) (m_memory : Nat → Int32) (a0 : Int32) : MWi l yX1_rights wsX1_rights ({ frames := 0, cells := 0, slots := 0, locals := 0 }) (dC, dI) vwCl [(k_memory, .int)] [.ref h0, .int a0] sz (wm h0 q_memory k_memory v_atp v_vsAtp v_hgatp v_rights v_code v_found v_wanted v_ofEntry m_memory) (fun u : Int32 × Int32 => (wm h0 q_memory k_memory v_atp v_vsAtp v_hgatp u.2 v_code v_found v_wanted v_ofEntry m_memory)) (fun u : Int32 × Int32 => u.1) (fm_rights v_rights a0) := by
  refine Met.ofW (cc := cX1_rights) (maxL := 3) (ret := (some .int)) (by decide) rfl ?_
  intro p e s m args below meth c s₁ B hml hv
  obtain ⟨rfl, hsz, hP, hK, hD0⟩ := hv
  have hx := B.exec
  have hb := B.bytes
  have hr := B.returns
  have hts := atoms_spec (ws := wsX1_rights) B.pre
  have hown : s.vm.findClass RX1 = some m.cls := findClass_of_methodNamed B.named
  have hlocks := B.notSynchronized
  subst hsz
  have hwX : ∀ w ∈ u_ws RX1 TX1 9, w ∈ wsX1_rights := by decide +kernel
  have hD := hD0.self (sz := s.heap.size)
  generalize hAe : va_A (wm h0 q_memory k_memory v_atp v_vsAtp v_hgatp v_rights v_code v_found v_wanted v_ofEntry m_memory) s.heap.size = A at hD ⊢
  have hA : ∀ q : Nat, s.heap.size ≤ q → A q := fun q h => by rw [← hAe]; exact Or.inr h
  have hS : va_S A s.heap s.heap [] := va_S.rf
  have hP : va_P (dC, dI) vwCl (wm h0 q_memory k_memory v_atp v_vsAtp v_hgatp v_rights v_code v_found v_wanted v_ofEntry m_memory) s.heap := hP
  have hl := lv_entry ([.ref h0, .int a0]) (n := 3) (Nat.le_of_ble_eq_true rfl)
  rw [lg_entry_eq]
  generalize (lg_sl ([.ref h0, .int a0]) ++ List.replicate (3 - (lg_sl ([.ref h0, .int a0])).length) Slot.unset).toArray = ls at hl ⊢
  have hl : lv_has ls 3 [(0, .ref h0), (1, .int a0)] := hl
  refine lv_aload_n hx hb dX1_rights_0 rfl (lv_at hl 0 rfl) ?_
  refine va_get (D := (dC, dI)) (ci := 1) (v := .int v_rights) (C := RX1) (T := TX1) (N := 9) hx hb hts hwX hown hK hP 0 rfl rfl 4 (by decide) (hts (.fieldLink RX1 27 "StageWalkerModel" "rights" "I") (by decide +kernel)) (fun _ h9 => h9) rfl dX1_rights_1 ?_
  refine lv_istore_n (lv' := [(2, .int v_rights), (0, .ref h0), (1, .int a0)]) hx hb dX1_rights_4 rfl hl (by decide) rfl (fun ls hl => ?_)
  refine lv_aload_n hx hb dX1_rights_5 rfl (lv_at hl 1 rfl) ?_
  refine lv_iload_n hx hb dX1_rights_6 rfl (lv_at hl 2 rfl) ?_
  refine lv_bipush (v := 15) hx hb dX1_rights_7 (by decide) ?_
  refine lv_iand hx hb dX1_rights_9 ?_
  refine lv_topi (fun z_1 ez_1 => ?_)
  refine va_put (D := (dC, dI)) (ci := 1) (v := .int z_1) (ty := .int) (C := RX1) (T := TX1) (N := 9) hx hb hts hwX tyX1 tyX1_ok nmX1 hown hK hP hD hS 0 rfl rfl 4 (by decide) (hts (.fieldLink RX1 27 "StageWalkerModel" "rights" "I") (by decide +kernel)) (fun _ h9 => h9) rfl (by decide +kernel) rfl rfl (Nat.le_of_ble_eq_true rfl) dX1_rights_10 (fun H locs hP hD hS => ?_)
  have hP : va_P (dC, dI) vwCl (wm h0 q_memory k_memory v_atp v_vsAtp v_hgatp z_1 v_code v_found v_wanted v_ofEntry m_memory) H := hP
  have hD : va_D A (wm h0 q_memory k_memory v_atp v_vsAtp v_hgatp z_1 v_code v_found v_wanted v_ofEntry m_memory) := hD
  refine lv_iload_n hx hb dX1_rights_13 rfl (lv_at hl 0 rfl) ?_
  exact W.iret (v := v_rights) hx hb hr (fun t ht hW => ⟨⟨_, (v_rights, z_1), rfl, ⟨rfl, by subst ez_1; rfl⟩, by rw [ht]; exact hP, va_K.moved hW.alike hK, hD⟩, hS.F ht⟩) hS.2.2 dX1_rights_14
def fm_place (v_code : Int32) (v_found : Int64) : Int32 := if v_code = 0 then v_found.toInt32 else (-1)
set_option maxHeartbeats 4000000 in
set_option maxRecDepth 100000 in
theorem ctm_place (l : Launch) (dC : Nat → ClassId) (dI : Nat → Nat → Nat) (h0 : Nat) (q_memory : Nat) (k_memory : ClassId) (sz : Nat) (v_atp : Int32) (v_vsAtp : Int32) (v_hgatp : Int32) (v_rights : Int32) (v_code : Int32) (v_found : Int64) (v_wanted : Int64) (v_ofEntry : Int32) (m_memory : Nat → Int32) : MRi l yX1_place wsX1_place ({ frames := 0, cells := 0, slots := 0, locals := 0 }) (dC, dI) vwCl [(k_memory, .int)] [.ref h0] sz (wm h0 q_memory k_memory v_atp v_vsAtp v_hgatp v_rights v_code v_found v_wanted v_ofEntry m_memory) (fm_place v_code v_found) := by
  refine Met.ofW (cc := cX1_place) (maxL := 1) (ret := (some .int)) (by decide) rfl ?_
  intro p e s m args below meth c s₁ B hml hv
  obtain ⟨rfl, hsz, hP, hK, hD0⟩ := hv
  have hx := B.exec
  have hb := B.bytes
  have hr := B.returns
  have hts := atoms_spec (ws := wsX1_place) B.pre
  have hown : s.vm.findClass RX1 = some m.cls := findClass_of_methodNamed B.named
  have hlocks := B.notSynchronized
  subst hsz
  have hwX : ∀ w ∈ u_ws RX1 TX1 9, w ∈ wsX1_place := by decide +kernel
  have hD := hD0.self (sz := s.heap.size)
  generalize hAe : va_A (wm h0 q_memory k_memory v_atp v_vsAtp v_hgatp v_rights v_code v_found v_wanted v_ofEntry m_memory) s.heap.size = A at hD ⊢
  have hA : ∀ q : Nat, s.heap.size ≤ q → A q := fun q h => by rw [← hAe]; exact Or.inr h
  have hS : va_S A s.heap s.heap [] := va_S.rf
  have hP : va_P (dC, dI) vwCl (wm h0 q_memory k_memory v_atp v_vsAtp v_hgatp v_rights v_code v_found v_wanted v_ofEntry m_memory) s.heap := hP
  have hl := lv_entry ([.ref h0]) (n := 1) (Nat.le_of_ble_eq_true rfl)
  rw [lg_entry_eq]
  generalize (lg_sl ([.ref h0]) ++ List.replicate (1 - (lg_sl ([.ref h0])).length) Slot.unset).toArray = ls at hl ⊢
  have hl : lv_has ls 1 [(0, .ref h0)] := hl
  refine lv_aload_n hx hb dX1_place_0 rfl (lv_at hl 0 rfl) ?_
  refine va_get (D := (dC, dI)) (ci := 1) (v := .int v_code) (C := RX1) (T := TX1) (N := 9) hx hb hts hwX hown hK hP 0 rfl rfl 5 (by decide) (hts (.fieldLink RX1 14 "StageWalkerModel" "code" "I") (by decide +kernel)) (fun _ h9 => h9) rfl dX1_place_1 ?_
  refine lv_if_ne (tgt := 15) hx hb dX1_place_4 (by decide) (fun c_4 => ?_) (fun c_4 => ?_)
  · skip
    refine lv_iconst (v := -1) hx hb dX1_place_15 (by decide) ?_
    exact W.iret (v := (-1)) hx hb hr (fun t ht hW => ⟨⟨_, (), rfl, by first | (rw [fm_place, if_neg c_4]; done) | (simp only [fm_place, if_neg c_4]; done) | (rw [fm_place, if_neg c_4] <;> rfl), by rw [ht]; exact hP, va_K.moved hW.alike hK, hD⟩, hS.F ht⟩) hS.2.2 dX1_place_16
  · skip
    refine lv_aload_n hx hb dX1_place_7 rfl (lv_at hl 0 rfl) ?_
    refine va_get (D := (dC, dI)) (ci := 1) (v := .long v_found) (C := RX1) (T := TX1) (N := 9) hx hb hts hwX hown hK hP 0 rfl rfl 6 (by decide) (hts (.fieldLink RX1 96 "StageWalkerModel" "found" "J") (by decide +kernel)) (fun _ h9 => h9) rfl dX1_place_8 ?_
    refine lv_l2i (v := v_found.toInt32) hx hb dX1_place_11 rfl ?_
    refine lv_goto (tgt := 16) hx hb dX1_place_12 (by decide) ?_
    exact W.iret (v := v_found.toInt32) hx hb hr (fun t ht hW => ⟨⟨_, (), rfl, by first | (rw [fm_place, if_pos c_4]; done) | (simp only [fm_place, if_pos c_4]; done) | (rw [fm_place, if_pos c_4] <;> rfl), by rw [ht]; exact hP, va_K.moved hW.alike hK, hD⟩, hS.F ht⟩) hS.2.2 dX1_place_16
def fm_second (v_code : Int32) (v_wanted : Int64) : Int32 := if v_code = 20 then (jlshr v_wanted 2).toInt32 else if v_code = 21 then (jlshr v_wanted 2).toInt32 else if v_code = 23 then (jlshr v_wanted 2).toInt32 else 0
set_option maxHeartbeats 4000000 in
set_option maxRecDepth 100000 in
theorem ctm_second (l : Launch) (dC : Nat → ClassId) (dI : Nat → Nat → Nat) (h0 : Nat) (q_memory : Nat) (k_memory : ClassId) (sz : Nat) (v_atp : Int32) (v_vsAtp : Int32) (v_hgatp : Int32) (v_rights : Int32) (v_code : Int32) (v_found : Int64) (v_wanted : Int64) (v_ofEntry : Int32) (m_memory : Nat → Int32) : MRi l yX1_second wsX1_second ({ frames := 0, cells := 0, slots := 0, locals := 0 }) (dC, dI) vwCl [(k_memory, .int)] [.ref h0] sz (wm h0 q_memory k_memory v_atp v_vsAtp v_hgatp v_rights v_code v_found v_wanted v_ofEntry m_memory) (fm_second v_code v_wanted) := by
  refine Met.ofW (cc := cX1_second) (maxL := 1) (ret := (some .int)) (by decide) rfl ?_
  intro p e s m args below meth c s₁ B hml hv
  obtain ⟨rfl, hsz, hP, hK, hD0⟩ := hv
  have hx := B.exec
  have hb := B.bytes
  have hr := B.returns
  have hts := atoms_spec (ws := wsX1_second) B.pre
  have hown : s.vm.findClass RX1 = some m.cls := findClass_of_methodNamed B.named
  have hlocks := B.notSynchronized
  subst hsz
  have hwX : ∀ w ∈ u_ws RX1 TX1 9, w ∈ wsX1_second := by decide +kernel
  have hD := hD0.self (sz := s.heap.size)
  generalize hAe : va_A (wm h0 q_memory k_memory v_atp v_vsAtp v_hgatp v_rights v_code v_found v_wanted v_ofEntry m_memory) s.heap.size = A at hD ⊢
  have hA : ∀ q : Nat, s.heap.size ≤ q → A q := fun q h => by rw [← hAe]; exact Or.inr h
  have hS : va_S A s.heap s.heap [] := va_S.rf
  have hP : va_P (dC, dI) vwCl (wm h0 q_memory k_memory v_atp v_vsAtp v_hgatp v_rights v_code v_found v_wanted v_ofEntry m_memory) s.heap := hP
  have hl := lv_entry ([.ref h0]) (n := 1) (Nat.le_of_ble_eq_true rfl)
  rw [lg_entry_eq]
  generalize (lg_sl ([.ref h0]) ++ List.replicate (1 - (lg_sl ([.ref h0])).length) Slot.unset).toArray = ls at hl ⊢
  have hl : lv_has ls 1 [(0, .ref h0)] := hl
  refine lv_aload_n hx hb dX1_second_0 rfl (lv_at hl 0 rfl) ?_
  refine va_get (D := (dC, dI)) (ci := 1) (v := .int v_code) (C := RX1) (T := TX1) (N := 9) hx hb hts hwX hown hK hP 0 rfl rfl 5 (by decide) (hts (.fieldLink RX1 14 "StageWalkerModel" "code" "I") (by decide +kernel)) (fun _ h9 => h9) rfl dX1_second_1 ?_
  refine lv_bipush (v := 20) hx hb dX1_second_4 (by decide) ?_
  refine lv_icmp_eq (tgt := 27) hx hb dX1_second_6 (by decide) (fun c_6 => ?_) (fun c_6 => ?_)
  · skip
    refine lv_aload_n hx hb dX1_second_27 rfl (lv_at hl 0 rfl) ?_
    refine va_get (D := (dC, dI)) (ci := 1) (v := .long v_wanted) (C := RX1) (T := TX1) (N := 9) hx hb hts hwX hown hK hP 0 rfl rfl 7 (by decide) (hts (.fieldLink RX1 73 "StageWalkerModel" "wanted" "J") (by decide +kernel)) (fun _ h9 => h9) rfl dX1_second_28 ?_
    refine lv_iconst (v := 2) hx hb dX1_second_31 (by decide) ?_
    refine lv_lshr (v := jlshr v_wanted 2) hx hb dX1_second_32 rfl ?_
    refine lv_l2i (v := (jlshr v_wanted 2).toInt32) hx hb dX1_second_33 rfl ?_
    refine lv_goto (tgt := 38) hx hb dX1_second_34 (by decide) ?_
    exact W.iret (v := (jlshr v_wanted 2).toInt32) hx hb hr (fun t ht hW => ⟨⟨_, (), rfl, by first | (rw [fm_second, if_pos c_6]; done) | (simp only [fm_second, if_pos c_6]; done) | (rw [fm_second, if_pos c_6] <;> rfl), by rw [ht]; exact hP, va_K.moved hW.alike hK, hD⟩, hS.F ht⟩) hS.2.2 dX1_second_38
  · skip
    refine lv_aload_n hx hb dX1_second_9 rfl (lv_at hl 0 rfl) ?_
    refine va_get (D := (dC, dI)) (ci := 1) (v := .int v_code) (C := RX1) (T := TX1) (N := 9) hx hb hts hwX hown hK hP 0 rfl rfl 5 (by decide) (hts (.fieldLink RX1 14 "StageWalkerModel" "code" "I") (by decide +kernel)) (fun _ h9 => h9) rfl dX1_second_10 ?_
    refine lv_bipush (v := 21) hx hb dX1_second_13 (by decide) ?_
    refine lv_icmp_eq (tgt := 27) hx hb dX1_second_15 (by decide) (fun c_15 => ?_) (fun c_15 => ?_)
    · skip
      refine lv_aload_n hx hb dX1_second_27 rfl (lv_at hl 0 rfl) ?_
      refine va_get (D := (dC, dI)) (ci := 1) (v := .long v_wanted) (C := RX1) (T := TX1) (N := 9) hx hb hts hwX hown hK hP 0 rfl rfl 7 (by decide) (hts (.fieldLink RX1 73 "StageWalkerModel" "wanted" "J") (by decide +kernel)) (fun _ h9 => h9) rfl dX1_second_28 ?_
      refine lv_iconst (v := 2) hx hb dX1_second_31 (by decide) ?_
      refine lv_lshr (v := jlshr v_wanted 2) hx hb dX1_second_32 rfl ?_
      refine lv_l2i (v := (jlshr v_wanted 2).toInt32) hx hb dX1_second_33 rfl ?_
      refine lv_goto (tgt := 38) hx hb dX1_second_34 (by decide) ?_
      exact W.iret (v := (jlshr v_wanted 2).toInt32) hx hb hr (fun t ht hW => ⟨⟨_, (), rfl, by first | (rw [fm_second, if_neg c_6, if_pos c_15]; done) | (simp only [fm_second, if_neg c_6, if_pos c_15]; done) | (rw [fm_second, if_neg c_6, if_pos c_15] <;> rfl), by rw [ht]; exact hP, va_K.moved hW.alike hK, hD⟩, hS.F ht⟩) hS.2.2 dX1_second_38
    · skip
      refine lv_aload_n hx hb dX1_second_18 rfl (lv_at hl 0 rfl) ?_
      refine va_get (D := (dC, dI)) (ci := 1) (v := .int v_code) (C := RX1) (T := TX1) (N := 9) hx hb hts hwX hown hK hP 0 rfl rfl 5 (by decide) (hts (.fieldLink RX1 14 "StageWalkerModel" "code" "I") (by decide +kernel)) (fun _ h9 => h9) rfl dX1_second_19 ?_
      refine lv_bipush (v := 23) hx hb dX1_second_22 (by decide) ?_
      refine lv_icmp_ne (tgt := 37) hx hb dX1_second_24 (by decide) (fun c_24 => ?_) (fun c_24 => ?_)
      · skip
        refine lv_iconst (v := 0) hx hb dX1_second_37 (by decide) ?_
        exact W.iret (v := 0) hx hb hr (fun t ht hW => ⟨⟨_, (), rfl, by first | (rw [fm_second, if_neg c_6, if_neg c_15, if_neg c_24]; done) | (simp only [fm_second, if_neg c_6, if_neg c_15, if_neg c_24]; done) | (rw [fm_second, if_neg c_6, if_neg c_15, if_neg c_24] <;> rfl), by rw [ht]; exact hP, va_K.moved hW.alike hK, hD⟩, hS.F ht⟩) hS.2.2 dX1_second_38
      · skip
        refine lv_aload_n hx hb dX1_second_27 rfl (lv_at hl 0 rfl) ?_
        refine va_get (D := (dC, dI)) (ci := 1) (v := .long v_wanted) (C := RX1) (T := TX1) (N := 9) hx hb hts hwX hown hK hP 0 rfl rfl 7 (by decide) (hts (.fieldLink RX1 73 "StageWalkerModel" "wanted" "J") (by decide +kernel)) (fun _ h9 => h9) rfl dX1_second_28 ?_
        refine lv_iconst (v := 2) hx hb dX1_second_31 (by decide) ?_
        refine lv_lshr (v := jlshr v_wanted 2) hx hb dX1_second_32 rfl ?_
        refine lv_l2i (v := (jlshr v_wanted 2).toInt32) hx hb dX1_second_33 rfl ?_
        refine lv_goto (tgt := 38) hx hb dX1_second_34 (by decide) ?_
        exact W.iret (v := (jlshr v_wanted 2).toInt32) hx hb hr (fun t ht hW => ⟨⟨_, (), rfl, by first | (rw [fm_second, if_neg c_6, if_neg c_15, if_pos c_24]; done) | (simp only [fm_second, if_neg c_6, if_neg c_15, if_pos c_24]; done) | (rw [fm_second, if_neg c_6, if_neg c_15, if_pos c_24] <;> rfl), by rw [ht]; exact hP, va_K.moved hW.alike hK, hD⟩, hS.F ht⟩) hS.2.2 dX1_second_38
def fm_entry (v_code : Int32) (v_ofEntry : Int32) : Int32 := if v_code = 20 then if v_ofEntry = 0 then 0 else 1 else if v_code = 21 then if v_ofEntry = 0 then 0 else 1 else if v_code = 23 then if v_ofEntry = 0 then 0 else 1 else 0
set_option maxHeartbeats 4000000 in
set_option maxRecDepth 100000 in
theorem ctm_entry (l : Launch) (dC : Nat → ClassId) (dI : Nat → Nat → Nat) (h0 : Nat) (q_memory : Nat) (k_memory : ClassId) (sz : Nat) (v_atp : Int32) (v_vsAtp : Int32) (v_hgatp : Int32) (v_rights : Int32) (v_code : Int32) (v_found : Int64) (v_wanted : Int64) (v_ofEntry : Int32) (m_memory : Nat → Int32) : MRi l yX1_entry wsX1_entry ({ frames := 0, cells := 0, slots := 0, locals := 0 }) (dC, dI) vwCl [(k_memory, .int)] [.ref h0] sz (wm h0 q_memory k_memory v_atp v_vsAtp v_hgatp v_rights v_code v_found v_wanted v_ofEntry m_memory) (fm_entry v_code v_ofEntry) := by
  refine Met.ofW (cc := cX1_entry) (maxL := 1) (ret := (some .boolean)) (by decide) rfl ?_
  intro p e s m args below meth c s₁ B hml hv
  obtain ⟨rfl, hsz, hP, hK, hD0⟩ := hv
  have hx := B.exec
  have hb := B.bytes
  have hr := B.returns
  have hts := atoms_spec (ws := wsX1_entry) B.pre
  have hown : s.vm.findClass RX1 = some m.cls := findClass_of_methodNamed B.named
  have hlocks := B.notSynchronized
  subst hsz
  have hwX : ∀ w ∈ u_ws RX1 TX1 9, w ∈ wsX1_entry := by decide +kernel
  have hD := hD0.self (sz := s.heap.size)
  generalize hAe : va_A (wm h0 q_memory k_memory v_atp v_vsAtp v_hgatp v_rights v_code v_found v_wanted v_ofEntry m_memory) s.heap.size = A at hD ⊢
  have hA : ∀ q : Nat, s.heap.size ≤ q → A q := fun q h => by rw [← hAe]; exact Or.inr h
  have hS : va_S A s.heap s.heap [] := va_S.rf
  have hP : va_P (dC, dI) vwCl (wm h0 q_memory k_memory v_atp v_vsAtp v_hgatp v_rights v_code v_found v_wanted v_ofEntry m_memory) s.heap := hP
  have hl := lv_entry ([.ref h0]) (n := 1) (Nat.le_of_ble_eq_true rfl)
  rw [lg_entry_eq]
  generalize (lg_sl ([.ref h0]) ++ List.replicate (1 - (lg_sl ([.ref h0])).length) Slot.unset).toArray = ls at hl ⊢
  have hl : lv_has ls 1 [(0, .ref h0)] := hl
  refine lv_aload_n hx hb dX1_entry_0 rfl (lv_at hl 0 rfl) ?_
  refine va_get (D := (dC, dI)) (ci := 1) (v := .int v_code) (C := RX1) (T := TX1) (N := 9) hx hb hts hwX hown hK hP 0 rfl rfl 5 (by decide) (hts (.fieldLink RX1 14 "StageWalkerModel" "code" "I") (by decide +kernel)) (fun _ h9 => h9) rfl dX1_entry_1 ?_
  refine lv_bipush (v := 20) hx hb dX1_entry_4 (by decide) ?_
  refine lv_icmp_eq (tgt := 27) hx hb dX1_entry_6 (by decide) (fun c_6 => ?_) (fun c_6 => ?_)
  · skip
    refine lv_aload_n hx hb dX1_entry_27 rfl (lv_at hl 0 rfl) ?_
    refine va_get (D := (dC, dI)) (ci := 1) (v := .int v_ofEntry) (C := RX1) (T := TX1) (N := 9) hx hb hts hwX hown hK hP 0 rfl rfl 8 (by decide) (hts (.fieldLink RX1 77 "StageWalkerModel" "ofEntry" "Z") (by decide +kernel)) (fun _ h9 => h9) rfl dX1_entry_28 ?_
    refine lv_if_eq (tgt := 38) hx hb dX1_entry_31 (by decide) (fun c_31 => ?_) (fun c_31 => ?_)
    · skip
      refine lv_iconst (v := 0) hx hb dX1_entry_38 (by decide) ?_
      exact W.zret (v := 0) (ty := .boolean) hx hb hr nb_0 (fun t ht hW => ⟨⟨_, (), rfl, by first | (rw [fm_entry, if_pos c_6, if_pos c_31]; done) | (simp only [fm_entry, if_pos c_6, if_pos c_31]; done) | (rw [fm_entry, if_pos c_6, if_pos c_31] <;> rfl), by rw [ht]; exact hP, va_K.moved hW.alike hK, hD⟩, hS.F ht⟩) hS.2.2 dX1_entry_39
    · skip
      refine lv_iconst (v := 1) hx hb dX1_entry_34 (by decide) ?_
      refine lv_goto (tgt := 39) hx hb dX1_entry_35 (by decide) ?_
      exact W.zret (v := 1) (ty := .boolean) hx hb hr nb_1 (fun t ht hW => ⟨⟨_, (), rfl, by first | (rw [fm_entry, if_pos c_6, if_neg c_31]; done) | (simp only [fm_entry, if_pos c_6, if_neg c_31]; done) | (rw [fm_entry, if_pos c_6, if_neg c_31] <;> rfl), by rw [ht]; exact hP, va_K.moved hW.alike hK, hD⟩, hS.F ht⟩) hS.2.2 dX1_entry_39
  · skip
    refine lv_aload_n hx hb dX1_entry_9 rfl (lv_at hl 0 rfl) ?_
    refine va_get (D := (dC, dI)) (ci := 1) (v := .int v_code) (C := RX1) (T := TX1) (N := 9) hx hb hts hwX hown hK hP 0 rfl rfl 5 (by decide) (hts (.fieldLink RX1 14 "StageWalkerModel" "code" "I") (by decide +kernel)) (fun _ h9 => h9) rfl dX1_entry_10 ?_
    refine lv_bipush (v := 21) hx hb dX1_entry_13 (by decide) ?_
    refine lv_icmp_eq (tgt := 27) hx hb dX1_entry_15 (by decide) (fun c_15 => ?_) (fun c_15 => ?_)
    · skip
      refine lv_aload_n hx hb dX1_entry_27 rfl (lv_at hl 0 rfl) ?_
      refine va_get (D := (dC, dI)) (ci := 1) (v := .int v_ofEntry) (C := RX1) (T := TX1) (N := 9) hx hb hts hwX hown hK hP 0 rfl rfl 8 (by decide) (hts (.fieldLink RX1 77 "StageWalkerModel" "ofEntry" "Z") (by decide +kernel)) (fun _ h9 => h9) rfl dX1_entry_28 ?_
      refine lv_if_eq (tgt := 38) hx hb dX1_entry_31 (by decide) (fun c_31 => ?_) (fun c_31 => ?_)
      · skip
        refine lv_iconst (v := 0) hx hb dX1_entry_38 (by decide) ?_
        exact W.zret (v := 0) (ty := .boolean) hx hb hr nb_0 (fun t ht hW => ⟨⟨_, (), rfl, by first | (rw [fm_entry, if_neg c_6, if_pos c_15, if_pos c_31]; done) | (simp only [fm_entry, if_neg c_6, if_pos c_15, if_pos c_31]; done) | (rw [fm_entry, if_neg c_6, if_pos c_15, if_pos c_31] <;> rfl), by rw [ht]; exact hP, va_K.moved hW.alike hK, hD⟩, hS.F ht⟩) hS.2.2 dX1_entry_39
      · skip
        refine lv_iconst (v := 1) hx hb dX1_entry_34 (by decide) ?_
        refine lv_goto (tgt := 39) hx hb dX1_entry_35 (by decide) ?_
        exact W.zret (v := 1) (ty := .boolean) hx hb hr nb_1 (fun t ht hW => ⟨⟨_, (), rfl, by first | (rw [fm_entry, if_neg c_6, if_pos c_15, if_neg c_31]; done) | (simp only [fm_entry, if_neg c_6, if_pos c_15, if_neg c_31]; done) | (rw [fm_entry, if_neg c_6, if_pos c_15, if_neg c_31] <;> rfl), by rw [ht]; exact hP, va_K.moved hW.alike hK, hD⟩, hS.F ht⟩) hS.2.2 dX1_entry_39
    · skip
      refine lv_aload_n hx hb dX1_entry_18 rfl (lv_at hl 0 rfl) ?_
      refine va_get (D := (dC, dI)) (ci := 1) (v := .int v_code) (C := RX1) (T := TX1) (N := 9) hx hb hts hwX hown hK hP 0 rfl rfl 5 (by decide) (hts (.fieldLink RX1 14 "StageWalkerModel" "code" "I") (by decide +kernel)) (fun _ h9 => h9) rfl dX1_entry_19 ?_
      refine lv_bipush (v := 23) hx hb dX1_entry_22 (by decide) ?_
      refine lv_icmp_ne (tgt := 38) hx hb dX1_entry_24 (by decide) (fun c_24 => ?_) (fun c_24 => ?_)
      · skip
        refine lv_iconst (v := 0) hx hb dX1_entry_38 (by decide) ?_
        exact W.zret (v := 0) (ty := .boolean) hx hb hr nb_0 (fun t ht hW => ⟨⟨_, (), rfl, by first | (rw [fm_entry, if_neg c_6, if_neg c_15, if_neg c_24]; done) | (simp only [fm_entry, if_neg c_6, if_neg c_15, if_neg c_24]; done) | (rw [fm_entry, if_neg c_6, if_neg c_15, if_neg c_24] <;> rfl), by rw [ht]; exact hP, va_K.moved hW.alike hK, hD⟩, hS.F ht⟩) hS.2.2 dX1_entry_39
      · skip
        refine lv_aload_n hx hb dX1_entry_27 rfl (lv_at hl 0 rfl) ?_
        refine va_get (D := (dC, dI)) (ci := 1) (v := .int v_ofEntry) (C := RX1) (T := TX1) (N := 9) hx hb hts hwX hown hK hP 0 rfl rfl 8 (by decide) (hts (.fieldLink RX1 77 "StageWalkerModel" "ofEntry" "Z") (by decide +kernel)) (fun _ h9 => h9) rfl dX1_entry_28 ?_
        refine lv_if_eq (tgt := 38) hx hb dX1_entry_31 (by decide) (fun c_31 => ?_) (fun c_31 => ?_)
        · skip
          refine lv_iconst (v := 0) hx hb dX1_entry_38 (by decide) ?_
          exact W.zret (v := 0) (ty := .boolean) hx hb hr nb_0 (fun t ht hW => ⟨⟨_, (), rfl, by first | (rw [fm_entry, if_neg c_6, if_neg c_15, if_pos c_24, if_pos c_31]; done) | (simp only [fm_entry, if_neg c_6, if_neg c_15, if_pos c_24, if_pos c_31]; done) | (rw [fm_entry, if_neg c_6, if_neg c_15, if_pos c_24, if_pos c_31] <;> rfl), by rw [ht]; exact hP, va_K.moved hW.alike hK, hD⟩, hS.F ht⟩) hS.2.2 dX1_entry_39
        · skip
          refine lv_iconst (v := 1) hx hb dX1_entry_34 (by decide) ?_
          refine lv_goto (tgt := 39) hx hb dX1_entry_35 (by decide) ?_
          exact W.zret (v := 1) (ty := .boolean) hx hb hr nb_1 (fun t ht hW => ⟨⟨_, (), rfl, by first | (rw [fm_entry, if_neg c_6, if_neg c_15, if_pos c_24, if_neg c_31]; done) | (simp only [fm_entry, if_neg c_6, if_neg c_15, if_pos c_24, if_neg c_31]; done) | (rw [fm_entry, if_neg c_6, if_neg c_15, if_pos c_24, if_neg c_31] <;> rfl), by rw [ht]; exact hP, va_K.moved hW.alike hK, hD⟩, hS.F ht⟩) hS.2.2 dX1_entry_39
end
