section
-- ===== PART A: goes FIRST, ahead of the names: the tables' words, and 'selects' of the private methods out of them =====
/-- a private method of a class that the tables say can be made, by its rows of tables_1 -/
def lw_okq (q : MethodName × Nat) : Prop := (q.1.cls ≠ "java/lang/invoke/MethodHandle" ∧ q.1.cls ≠ "java/lang/invoke/VarHandle") ∧ Cond.instantiable q.1.cls q.2 ∈ tables_1 ∧ Cond.privateMethod q.1 ∈ tables_1 ∧ Cond.instanceMethod q.1 ∈ tables_1
theorem lw_p0 : lw_okq (⟨"GroupedNumbers", "appendToRow", "(I)V"⟩, 5) := ⟨⟨by decide +kernel, by decide +kernel⟩, List.mem_of_getElem? (i := 5) (by decide +kernel), List.mem_of_getElem? (i := 34) (by decide +kernel), List.mem_of_getElem? (i := 35) (by decide +kernel)⟩
theorem lw_p1 : lw_okq (⟨"GroupedNumbers", "countGroups", "(II)I"⟩, 5) := ⟨⟨by decide +kernel, by decide +kernel⟩, List.mem_of_getElem? (i := 5) (by decide +kernel), List.mem_of_getElem? (i := 52) (by decide +kernel), List.mem_of_getElem? (i := 53) (by decide +kernel)⟩
theorem lw_p2 : lw_okq (⟨"GroupedNumbers", "joinGroups", "(II)J"⟩, 5) := ⟨⟨by decide +kernel, by decide +kernel⟩, List.mem_of_getElem? (i := 5) (by decide +kernel), List.mem_of_getElem? (i := 62) (by decide +kernel), List.mem_of_getElem? (i := 63) (by decide +kernel)⟩
theorem lw_p3 : lw_okq (⟨"GroupedNumbers", "appendToOutput", "(JI)V"⟩, 5) := ⟨⟨by decide +kernel, by decide +kernel⟩, List.mem_of_getElem? (i := 5) (by decide +kernel), List.mem_of_getElem? (i := 90) (by decide +kernel), List.mem_of_getElem? (i := 91) (by decide +kernel)⟩
theorem lw_p4 : lw_okq (⟨"GroupedNumbersModel", "word", "(I)V"⟩, 5) := ⟨⟨by decide +kernel, by decide +kernel⟩, List.mem_of_getElem? (i := 106) (by decide +kernel), List.mem_of_getElem? (i := 133) (by decide +kernel), List.mem_of_getElem? (i := 134) (by decide +kernel)⟩
def lw_privs_1 : List (MethodName × Nat) := [(⟨"GroupedNumbers", "appendToRow", "(I)V"⟩, 5), (⟨"GroupedNumbers", "countGroups", "(II)I"⟩, 5), (⟨"GroupedNumbers", "joinGroups", "(II)J"⟩, 5), (⟨"GroupedNumbers", "appendToOutput", "(JI)V"⟩, 5), (⟨"GroupedNumbersModel", "word", "(I)V"⟩, 5)]
theorem lw_r1 : ∀ q ∈ lw_privs_1, lw_okq q := List.forall_mem_cons.mpr ⟨lw_p0, List.forall_mem_cons.mpr ⟨lw_p1, List.forall_mem_cons.mpr ⟨lw_p2, List.forall_mem_cons.mpr ⟨lw_p3, List.forall_mem_cons.mpr ⟨lw_p4, fun _ h => absurd h List.not_mem_nil⟩⟩⟩⟩⟩
def lw_privs : List (MethodName × Nat) := lw_privs_1
def lw_tbl : List Cond := k2_sels lw_privs ++ tables_1
theorem lw_privs_ok : ∀ q ∈ lw_privs, lw_okq q := lw_r1
/-! ===== BEGIN words of one list among another's, by their places ===== -/
theorem goodIn_r {big : List Cond} (ws : List Cond) (ps : List Nat) (hp : ws = ps.filterMap (fun i => big[i]?)) (h : ws.all goodWord = true) : GoodIn big ws := by
  intro w hw
  have h1 := List.all_eq_true.mp h w hw
  rw [hp] at hw
  obtain ⟨i, -, hi⟩ := List.mem_filterMap.mp hw
  have hm : w ∈ big := by first | exact List.mem_of_getElem? hi | exact List.getElem?_mem hi
  exact ⟨hm, good_of_word h1⟩
theorem goodIn_app {big a b : List Cond} (ha : GoodIn big a) (hb : GoodIn big b) : GoodIn big (a ++ b) := fun w h => (List.mem_append.mp h).elim (ha w) (hb w)
theorem goodIn_ca {big a b : List Cond} {c : Cond} (ha : GoodIn big (c :: a)) (hb : GoodIn big b) : GoodIn big (c :: (a ++ b)) := fun w h => (List.mem_cons.mp h).elim (fun e => ha w (List.mem_cons.mpr (Or.inl e))) (fun h => (List.mem_append.mp h).elim (fun h => ha w (List.mem_cons.mpr (Or.inr h))) (hb w))
theorem goodIn_sub {big ws : List Cond} (hm : ∀ w ∈ ws, w ∈ big) (h : ws.all goodWord = true) : GoodIn big ws := fun w hw => ⟨hm w hw, good_of_word (List.all_eq_true.mp h w hw)⟩
/-! ===== END ===== -/

/-! ===== BEGIN printed: names, fields, word lists, decode rows ===== -/
def RX0 : String := "GroupedNumbers"
def TX0 : u_T := fun k => match k with
  | 0 => ("GroupedNumbers", "row", "[I", true)
  | 1 => ("GroupedNumbers", "rowLength", "I", false)
  | 2 => ("GroupedNumbers", "output", "[I", true)
  | 3 => ("GroupedNumbers", "outputLength", "I", false)
  | _ => ("GroupedNumbers", "lastRead", "J", false)
def tyX0 : Nat → FieldType := fun k => match k with
  | 0 => .array .int
  | 1 => .int
  | 2 => .array .int
  | 3 => .int
  | _ => .long
abbrev wsX00 : List Cond := u_ws RX0 TX0 5
theorem nmX0 : ∀ a, a < 5 → ∀ b, b < 5 → a ≠ b → (TX0 a).2.1 ≠ (TX0 b).2.1 := by decide +kernel
theorem tyX0_ok : ∀ k, k < 5 → parseFieldDescriptor (TX0 k).2.2.1 = some (tyX0 k) := by decide +kernel
abbrev cX0_init : ByteArray := prog_1_method_1_code
def yX0_init : MethodName := ⟨RX0, "<init>", "()V"⟩
abbrev cX0_feed : ByteArray := prog_1_method_2_code
def yX0_feed : MethodName := ⟨RX0, "feed", "(IIIII)I"⟩
abbrev cX0_end : ByteArray := prog_1_method_3_code
def yX0_end : MethodName := ⟨RX0, "end", "(I)I"⟩
abbrev cX0_read : ByteArray := prog_1_method_4_code
def yX0_read : MethodName := ⟨RX0, "read", "(II)I"⟩
abbrev cX0_value : ByteArray := prog_1_method_5_code
def yX0_value : MethodName := ⟨RX0, "value", "()J"⟩
abbrev cX0_write : ByteArray := prog_1_method_6_code
def yX0_write : MethodName := ⟨RX0, "write", "(IJ)I"⟩
abbrev cX0_size : ByteArray := prog_1_method_7_code
def yX0_size : MethodName := ⟨RX0, "size", "()I"⟩
abbrev cX0_at : ByteArray := prog_1_method_8_code
def yX0_at : MethodName := ⟨RX0, "at", "(I)I"⟩
abbrev cX0_clear : ByteArray := prog_1_method_9_code
def yX0_clear : MethodName := ⟨RX0, "clear", "()V"⟩
abbrev cX0_isKind : ByteArray := prog_1_method_10_code
def yX0_isKind : MethodName := ⟨RX0, "isKind", "(I)Z"⟩
abbrev cX0_mostGroups : ByteArray := prog_1_method_11_code
def yX0_mostGroups : MethodName := ⟨RX0, "mostGroups", "(I)I"⟩
abbrev cX0_mayEndLongest : ByteArray := prog_1_method_12_code
def yX0_mayEndLongest : MethodName := ⟨RX0, "mayEndLongest", "(II)Z"⟩
abbrev cX0_isNumberOf : ByteArray := prog_1_method_13_code
def yX0_isNumberOf : MethodName := ⟨RX0, "isNumberOf", "(IJ)Z"⟩
abbrev cX0_groupsNeeded : ByteArray := prog_1_method_14_code
def yX0_groupsNeeded : MethodName := ⟨RX0, "groupsNeeded", "(IJ)I"⟩
abbrev cX0_fitsGroups : ByteArray := prog_1_method_15_code
def yX0_fitsGroups : MethodName := ⟨RX0, "fitsGroups", "(IJI)Z"⟩
abbrev cX0_extendSign : ByteArray := prog_1_method_16_code
def yX0_extendSign : MethodName := ⟨RX0, "extendSign", "(JII)J"⟩
abbrev cX0_countGroups : ByteArray := prog_1_method_17_code
def yX0_countGroups : MethodName := ⟨RX0, "countGroups", "(II)I"⟩
abbrev cX0_joinGroups : ByteArray := prog_1_method_18_code
def yX0_joinGroups : MethodName := ⟨RX0, "joinGroups", "(II)J"⟩
abbrev cX0_appendToRow : ByteArray := prog_1_method_19_code
def yX0_appendToRow : MethodName := ⟨RX0, "appendToRow", "(I)V"⟩
abbrev cX0_appendToOutput : ByteArray := prog_1_method_20_code
def yX0_appendToOutput : MethodName := ⟨RX0, "appendToOutput", "(JI)V"⟩
def RX1 : String := "GroupedNumbersModel"
def TX1 : u_T := fun k => match k with
  | 0 => ("GroupedNumbersModel", "row", "[B", true)
  | 1 => ("GroupedNumbersModel", "out", "[B", true)
  | 2 => ("GroupedNumbersModel", "rows", "I", false)
  | 3 => ("GroupedNumbersModel", "outs", "I", false)
  | _ => ("GroupedNumbersModel", "value", "J", false)
def tyX1 : Nat → FieldType := fun k => match k with
  | 0 => .array .byte
  | 1 => .array .byte
  | 2 => .int
  | 3 => .int
  | _ => .long
abbrev wsX10 : List Cond := u_ws RX1 TX1 5
theorem nmX1 : ∀ a, a < 5 → ∀ b, b < 5 → a ≠ b → (TX1 a).2.1 ≠ (TX1 b).2.1 := by decide +kernel
theorem tyX1_ok : ∀ k, k < 5 → parseFieldDescriptor (TX1 k).2.2.1 = some (tyX1 k) := by decide +kernel
abbrev cX1_init : ByteArray := prog_3_method_1_code
def yX1_init : MethodName := ⟨RX1, "<init>", "()V"⟩
abbrev cX1_feed : ByteArray := prog_3_method_3_code
def yX1_feed : MethodName := ⟨RX1, "feed", "(IIIII)I"⟩
abbrev cX1_word : ByteArray := prog_3_method_4_code
def yX1_word : MethodName := ⟨RX1, "word", "(I)V"⟩
abbrev cX1_end : ByteArray := prog_3_method_5_code
def yX1_end : MethodName := ⟨RX1, "end", "(I)I"⟩
abbrev cX1_read : ByteArray := prog_3_method_6_code
def yX1_read : MethodName := ⟨RX1, "read", "(II)I"⟩
abbrev cX1_value : ByteArray := prog_3_method_7_code
def yX1_value : MethodName := ⟨RX1, "value", "()J"⟩
abbrev cX1_isEnough : ByteArray := prog_3_method_8_code
def yX1_isEnough : MethodName := ⟨RX1, "isEnough", "(IJI)Z"⟩
abbrev cX1_write : ByteArray := prog_3_method_9_code
def yX1_write : MethodName := ⟨RX1, "write", "(IJ)I"⟩
abbrev cX1_size : ByteArray := prog_3_method_10_code
def yX1_size : MethodName := ⟨RX1, "size", "()I"⟩
abbrev cX1_at : ByteArray := prog_3_method_11_code
def yX1_at : MethodName := ⟨RX1, "at", "(I)I"⟩
abbrev cX1_clear : ByteArray := prog_3_method_12_code
def yX1_clear : MethodName := ⟨RX1, "clear", "()V"⟩
def RJ9 : String := "java/lang/Math"
def TJ9 : u_T := fun k => match k with
  | _ => ("", "", "", false)
def tyJ9 : Nat → FieldType := fun k => match k with
  | _ => .int
abbrev wsJ90 : List Cond := u_ws RJ9 TJ9 0
theorem nmJ9 : ∀ a, a < 0 → ∀ b, b < 0 → a ≠ b → (TJ9 a).2.1 ≠ (TJ9 b).2.1 := by decide +kernel
theorem tyJ9_ok : ∀ k, k < 0 → parseFieldDescriptor (TJ9 k).2.2.1 = some (tyJ9 k) := by decide +kernel
abbrev cJ9_min_7cf53 : ByteArray := prog_4_method_69_code
def yJ9_min_7cf53 : MethodName := ⟨RJ9, "min", "(II)I"⟩
def RL : String := "GroupedNumbersLaw"
abbrev cL_law : ByteArray := code
def yL_law : MethodName := ⟨RL, "law", "([I)Z"⟩
def wsX0_init : List Cond := .code yX0_init cX0_init 1 none :: ([.methodLink RX0 1 objectInit, .instanceMethod objectInit, .code objectInit ⟨#[0xb1]⟩ 1 none, .arrayClass .int, .fieldLink RX0 9 "GroupedNumbers" "row" "[I", .fieldLink RX0 13 "GroupedNumbers" "rowLength" "I", .fieldLink RX0 17 "GroupedNumbers" "output" "[I", .fieldLink RX0 20 "GroupedNumbers" "outputLength" "I", .fieldLink RX0 23 "GroupedNumbers" "lastRead" "J"] ++ wsX00)
def wsX0_appendToRow : List Cond := .code yX0_appendToRow cX0_appendToRow 3 none :: ([.fieldLink RX0 9 "GroupedNumbers" "row" "[I", .fieldLink RX0 13 "GroupedNumbers" "rowLength" "I"] ++ wsX00)
def wsX0_feed : List Cond := .code yX0_feed cX0_feed 6 (some .int) :: ([.fieldLink RX0 13 "GroupedNumbers" "rowLength" "I", .methodLink RX0 27 yX0_appendToRow, .instanceMethod yX0_appendToRow, .selects RX0 yX0_appendToRow yX0_appendToRow, .initialized RX0, .code yX0_appendToRow cX0_appendToRow 3 none, .fieldLink RX0 9 "GroupedNumbers" "row" "[I"] ++ wsX00)
def wsX0_end : List Cond := .code yX0_end cX0_end 2 (some .int) :: ([.fieldLink RX0 13 "GroupedNumbers" "rowLength" "I"] ++ wsX00)
def wsX0_isKind : List Cond := .code yX0_isKind cX0_isKind 1 (some .boolean) :: ([])
def wsX0_mostGroups : List Cond := .code yX0_mostGroups cX0_mostGroups 1 (some .int) :: ([])
def wsX0_countGroups : List Cond := .code yX0_countGroups cX0_countGroups 5 (some .int) :: ([.fieldLink RX0 13 "GroupedNumbers" "rowLength" "I", .methodLink RX0 79 Lib.Math.min.name, .static Lib.Math.min.name, .initialized "java/lang/Math", .code Lib.Math.min.name Lib.Math.min.code 2 (some .int), .fieldLink RX0 9 "GroupedNumbers" "row" "[I"] ++ wsX00)
def wsX0_mayEndLongest : List Cond := .code yX0_mayEndLongest cX0_mayEndLongest 2 (some .boolean) :: ([])
def wsX0_joinGroups : List Cond := .code yX0_joinGroups cX0_joinGroups 8 (some .long) :: ([.fieldLink RX0 9 "GroupedNumbers" "row" "[I"] ++ wsX00)
def wsX0_extendSign : List Cond := .code yX0_extendSign cX0_extendSign 5 (some .long) :: ([.constantLong RX0 77 (-1)])
def wsX0_read_r1 : List Cond := [Cond.fieldLink RX0 13 "GroupedNumbers" "rowLength" "I", Cond.fieldLink RX0 9 "GroupedNumbers" "row" "[I", Cond.fieldLink RX0 23 "GroupedNumbers" "lastRead" "J", Cond.methodLink RX0 31 yX0_isKind, Cond.static yX0_isKind, Cond.initialized RX0, Cond.code yX0_isKind cX0_isKind 1 (some .boolean), Cond.methodLink RX0 35 yX0_mostGroups, Cond.static yX0_mostGroups, Cond.code yX0_mostGroups cX0_mostGroups 1 (some .int), Cond.methodLink RX0 39 yX0_countGroups, Cond.instanceMethod yX0_countGroups, Cond.selects RX0 yX0_countGroups yX0_countGroups, Cond.code yX0_countGroups cX0_countGroups 5 (some .int), Cond.methodLink RX0 79 Lib.Math.min.name, Cond.static Lib.Math.min.name, Cond.initialized "java/lang/Math", Cond.code Lib.Math.min.name Lib.Math.min.code 2 (some .int), Cond.methodLink RX0 43 yX0_mayEndLongest, Cond.static yX0_mayEndLongest, Cond.code yX0_mayEndLongest cX0_mayEndLongest 2 (some .boolean), Cond.methodLink RX0 47 yX0_joinGroups, Cond.instanceMethod yX0_joinGroups, Cond.selects RX0 yX0_joinGroups yX0_joinGroups]
def wsX0_read_r2 : List Cond := [Cond.code yX0_joinGroups cX0_joinGroups 8 (some .long), Cond.methodLink RX0 51 yX0_extendSign, Cond.static yX0_extendSign, Cond.code yX0_extendSign cX0_extendSign 5 (some .long), Cond.constantLong RX0 77 (-1)]
def wsX0_read : List Cond := .code yX0_read cX0_read 7 (some .int) :: ((wsX0_read_r1 ++ wsX0_read_r2) ++ wsX00)
def wsX0_value : List Cond := .code yX0_value cX0_value 1 (some .long) :: ([.fieldLink RX0 23 "GroupedNumbers" "lastRead" "J"] ++ wsX00)
def wsX0_isNumberOf : List Cond := .code yX0_isNumberOf cX0_isNumberOf 3 (some .boolean) :: ([.constantLong RX0 67 (4294967295), .constantLong RX0 69 (-2147483648), .constantLong RX0 71 (2147483647)])
def wsX0_fitsGroups : List Cond := .code yX0_fitsGroups cX0_fitsGroups 6 (some .boolean) :: ([.constantLong RX0 77 (-1)])
def wsX0_groupsNeeded : List Cond := .code yX0_groupsNeeded cX0_groupsNeeded 5 (some .int) :: ([.methodLink RX0 35 yX0_mostGroups, .static yX0_mostGroups, .initialized RX0, .code yX0_mostGroups cX0_mostGroups 1 (some .int), .methodLink RX0 73 yX0_fitsGroups, .static yX0_fitsGroups, .code yX0_fitsGroups cX0_fitsGroups 6 (some .boolean), .constantLong RX0 77 (-1)])
def wsX0_appendToOutput : List Cond := .code yX0_appendToOutput cX0_appendToOutput 6 none :: ([.fieldLink RX0 17 "GroupedNumbers" "output" "[I", .fieldLink RX0 20 "GroupedNumbers" "outputLength" "I"] ++ wsX00)
def wsX0_write_r1 : List Cond := [Cond.fieldLink RX0 20 "GroupedNumbers" "outputLength" "I", Cond.methodLink RX0 31 yX0_isKind, Cond.static yX0_isKind, Cond.initialized RX0, Cond.code yX0_isKind cX0_isKind 1 (some .boolean), Cond.methodLink RX0 55 yX0_isNumberOf, Cond.static yX0_isNumberOf, Cond.code yX0_isNumberOf cX0_isNumberOf 3 (some .boolean), Cond.constantLong RX0 67 (4294967295), Cond.constantLong RX0 69 (-2147483648), Cond.constantLong RX0 71 (2147483647), Cond.methodLink RX0 59 yX0_groupsNeeded, Cond.static yX0_groupsNeeded, Cond.code yX0_groupsNeeded cX0_groupsNeeded 5 (some .int), Cond.methodLink RX0 35 yX0_mostGroups, Cond.static yX0_mostGroups, Cond.code yX0_mostGroups cX0_mostGroups 1 (some .int), Cond.methodLink RX0 73 yX0_fitsGroups, Cond.static yX0_fitsGroups, Cond.code yX0_fitsGroups cX0_fitsGroups 6 (some .boolean), Cond.constantLong RX0 77 (-1), Cond.methodLink RX0 63 yX0_appendToOutput, Cond.instanceMethod yX0_appendToOutput, Cond.selects RX0 yX0_appendToOutput yX0_appendToOutput]
def wsX0_write_r2 : List Cond := [Cond.code yX0_appendToOutput cX0_appendToOutput 6 none, Cond.fieldLink RX0 17 "GroupedNumbers" "output" "[I"]
def wsX0_write : List Cond := .code yX0_write cX0_write 5 (some .int) :: ((wsX0_write_r1 ++ wsX0_write_r2) ++ wsX00)
def wsX0_size : List Cond := .code yX0_size cX0_size 1 (some .int) :: ([.fieldLink RX0 20 "GroupedNumbers" "outputLength" "I"] ++ wsX00)
def wsX0_at : List Cond := .code yX0_at cX0_at 2 (some .int) :: ([.fieldLink RX0 20 "GroupedNumbers" "outputLength" "I", .fieldLink RX0 17 "GroupedNumbers" "output" "[I"] ++ wsX00)
def wsX0_clear : List Cond := .code yX0_clear cX0_clear 1 none :: ([.fieldLink RX0 20 "GroupedNumbers" "outputLength" "I", .fieldLink RX0 13 "GroupedNumbers" "rowLength" "I"] ++ wsX00)
def wsX1_init : List Cond := .code yX1_init cX1_init 1 none :: ([.methodLink RX1 1 objectInit, .instanceMethod objectInit, .code objectInit ⟨#[0xb1]⟩ 1 none, .arrayClass .byte, .fieldLink RX1 9 "GroupedNumbersModel" "row" "[B", .fieldLink RX1 13 "GroupedNumbersModel" "out" "[B"] ++ wsX10)
def wsX1_word : List Cond := .code yX1_word cX1_word 3 none :: ([.fieldLink RX1 9 "GroupedNumbersModel" "row" "[B", .fieldLink RX1 16 "GroupedNumbersModel" "rows" "I"] ++ wsX10)
def wsX1_feed : List Cond := .code yX1_feed cX1_feed 6 (some .int) :: ([.fieldLink RX1 16 "GroupedNumbersModel" "rows" "I", .methodLink RX1 20 yX1_word, .instanceMethod yX1_word, .selects RX1 yX1_word yX1_word, .initialized RX1, .code yX1_word cX1_word 3 none, .fieldLink RX1 9 "GroupedNumbersModel" "row" "[B"] ++ wsX10)
def wsX1_end : List Cond := .code yX1_end cX1_end 2 (some .int) :: ([.fieldLink RX1 16 "GroupedNumbersModel" "rows" "I"] ++ wsX10)
def wsX1_read : List Cond := .code yX1_read cX1_read 9 (some .int) :: ([.fieldLink RX1 16 "GroupedNumbersModel" "rows" "I", .fieldLink RX1 9 "GroupedNumbersModel" "row" "[B", .constantLong RX1 24 (-1), .fieldLink RX1 26 "GroupedNumbersModel" "value" "J"] ++ wsX10)
def wsX1_value : List Cond := .code yX1_value cX1_value 1 (some .long) :: ([.fieldLink RX1 26 "GroupedNumbersModel" "value" "J"] ++ wsX10)
def wsX1_isEnough : List Cond := .code yX1_isEnough cX1_isEnough 5 (some .boolean) :: ([.constantLong RX1 24 (-1)])
def wsX1_write : List Cond := .code yX1_write cX1_write 7 (some .int) :: ([.constantLong RX1 30 (4294967295), .fieldLink RX1 36 "GroupedNumbersModel" "outs" "I", .methodLink RX1 39 Lib.Math.min.name, .static Lib.Math.min.name, .initialized "java/lang/Math", .code Lib.Math.min.name Lib.Math.min.code 2 (some .int), .fieldLink RX1 13 "GroupedNumbersModel" "out" "[B", .methodLink RX1 32 yX1_isEnough, .static yX1_isEnough, .initialized RX1, .code yX1_isEnough cX1_isEnough 5 (some .boolean), .constantLong RX1 24 (-1)] ++ wsX10)
def wsX1_size : List Cond := .code yX1_size cX1_size 1 (some .int) :: ([.fieldLink RX1 36 "GroupedNumbersModel" "outs" "I"] ++ wsX10)
def wsX1_at : List Cond := .code yX1_at cX1_at 2 (some .int) :: ([.fieldLink RX1 36 "GroupedNumbersModel" "outs" "I", .fieldLink RX1 13 "GroupedNumbersModel" "out" "[B"] ++ wsX10)
def wsX1_clear : List Cond := .code yX1_clear cX1_clear 1 none :: ([.fieldLink RX1 16 "GroupedNumbersModel" "rows" "I", .fieldLink RX1 36 "GroupedNumbersModel" "outs" "I"] ++ wsX10)
def wsJ9_min_7cf53 : List Cond := .code yJ9_min_7cf53 cJ9_min_7cf53 2 (some .int) :: ([])
def wsL_law_r1 : List Cond := [Cond.classLink RL 7 RX0, Cond.instantiable RX0 5, Cond.initialized RX0, Cond.classLink RL 10 RX1, Cond.instantiable RX1 5, Cond.initialized RX1, Cond.constantLong RL 33 (4294967295), Cond.methodLink RL 9 yX0_init, Cond.instanceMethod yX0_init, Cond.code yX0_init cX0_init 1 none, Cond.methodLink RX0 1 objectInit, Cond.instanceMethod objectInit, Cond.code objectInit ⟨#[0xb1]⟩ 1 none, Cond.arrayClass .int, Cond.fieldLink RX0 9 "GroupedNumbers" "row" "[I", Cond.fieldLink RX0 13 "GroupedNumbers" "rowLength" "I", Cond.fieldLink RX0 17 "GroupedNumbers" "output" "[I", Cond.fieldLink RX0 20 "GroupedNumbers" "outputLength" "I", Cond.fieldLink RX0 23 "GroupedNumbers" "lastRead" "J", Cond.methodLink RL 12 yX1_init, Cond.instanceMethod yX1_init, Cond.code yX1_init cX1_init 1 none, Cond.methodLink RX1 1 objectInit, Cond.arrayClass .byte]
def wsL_law_r2 : List Cond := [Cond.fieldLink RX1 9 "GroupedNumbersModel" "row" "[B", Cond.fieldLink RX1 13 "GroupedNumbersModel" "out" "[B", Cond.methodLink RL 13 yX0_feed, Cond.instanceMethod yX0_feed, Cond.selects RX0 yX0_feed yX0_feed, Cond.code yX0_feed cX0_feed 6 (some .int), Cond.methodLink RX0 27 yX0_appendToRow, Cond.instanceMethod yX0_appendToRow, Cond.selects RX0 yX0_appendToRow yX0_appendToRow, Cond.code yX0_appendToRow cX0_appendToRow 3 none, Cond.methodLink RL 17 yX1_feed, Cond.instanceMethod yX1_feed, Cond.selects RX1 yX1_feed yX1_feed, Cond.code yX1_feed cX1_feed 6 (some .int), Cond.fieldLink RX1 16 "GroupedNumbersModel" "rows" "I", Cond.methodLink RX1 20 yX1_word, Cond.instanceMethod yX1_word, Cond.selects RX1 yX1_word yX1_word, Cond.code yX1_word cX1_word 3 none, Cond.methodLink RL 18 yX0_end, Cond.instanceMethod yX0_end, Cond.selects RX0 yX0_end yX0_end, Cond.code yX0_end cX0_end 2 (some .int), Cond.methodLink RL 22 yX1_end]
def wsL_law_r3 : List Cond := [Cond.instanceMethod yX1_end, Cond.selects RX1 yX1_end yX1_end, Cond.code yX1_end cX1_end 2 (some .int), Cond.methodLink RL 23 yX0_read, Cond.instanceMethod yX0_read, Cond.selects RX0 yX0_read yX0_read, Cond.code yX0_read cX0_read 7 (some .int), Cond.methodLink RX0 31 yX0_isKind, Cond.static yX0_isKind, Cond.code yX0_isKind cX0_isKind 1 (some .boolean), Cond.methodLink RX0 35 yX0_mostGroups, Cond.static yX0_mostGroups, Cond.code yX0_mostGroups cX0_mostGroups 1 (some .int), Cond.methodLink RX0 39 yX0_countGroups, Cond.instanceMethod yX0_countGroups, Cond.selects RX0 yX0_countGroups yX0_countGroups, Cond.code yX0_countGroups cX0_countGroups 5 (some .int), Cond.methodLink RX0 79 Lib.Math.min.name, Cond.static Lib.Math.min.name, Cond.initialized "java/lang/Math", Cond.code Lib.Math.min.name Lib.Math.min.code 2 (some .int), Cond.methodLink RX0 43 yX0_mayEndLongest, Cond.static yX0_mayEndLongest, Cond.code yX0_mayEndLongest cX0_mayEndLongest 2 (some .boolean)]
def wsL_law_r4 : List Cond := [Cond.methodLink RX0 47 yX0_joinGroups, Cond.instanceMethod yX0_joinGroups, Cond.selects RX0 yX0_joinGroups yX0_joinGroups, Cond.code yX0_joinGroups cX0_joinGroups 8 (some .long), Cond.methodLink RX0 51 yX0_extendSign, Cond.static yX0_extendSign, Cond.code yX0_extendSign cX0_extendSign 5 (some .long), Cond.constantLong RX0 77 (-1), Cond.methodLink RL 27 yX1_read, Cond.instanceMethod yX1_read, Cond.selects RX1 yX1_read yX1_read, Cond.code yX1_read cX1_read 9 (some .int), Cond.constantLong RX1 24 (-1), Cond.fieldLink RX1 26 "GroupedNumbersModel" "value" "J", Cond.methodLink RL 28 yX0_value, Cond.instanceMethod yX0_value, Cond.selects RX0 yX0_value yX0_value, Cond.code yX0_value cX0_value 1 (some .long), Cond.methodLink RL 32 yX1_value, Cond.instanceMethod yX1_value, Cond.selects RX1 yX1_value yX1_value, Cond.code yX1_value cX1_value 1 (some .long), Cond.methodLink RL 35 yX0_write, Cond.instanceMethod yX0_write]
def wsL_law_r5 : List Cond := [Cond.selects RX0 yX0_write yX0_write, Cond.code yX0_write cX0_write 5 (some .int), Cond.methodLink RX0 55 yX0_isNumberOf, Cond.static yX0_isNumberOf, Cond.code yX0_isNumberOf cX0_isNumberOf 3 (some .boolean), Cond.constantLong RX0 67 (4294967295), Cond.constantLong RX0 69 (-2147483648), Cond.constantLong RX0 71 (2147483647), Cond.methodLink RX0 59 yX0_groupsNeeded, Cond.static yX0_groupsNeeded, Cond.code yX0_groupsNeeded cX0_groupsNeeded 5 (some .int), Cond.methodLink RX0 73 yX0_fitsGroups, Cond.static yX0_fitsGroups, Cond.code yX0_fitsGroups cX0_fitsGroups 6 (some .boolean), Cond.methodLink RX0 63 yX0_appendToOutput, Cond.instanceMethod yX0_appendToOutput, Cond.selects RX0 yX0_appendToOutput yX0_appendToOutput, Cond.code yX0_appendToOutput cX0_appendToOutput 6 none, Cond.methodLink RL 39 yX1_write, Cond.instanceMethod yX1_write, Cond.selects RX1 yX1_write yX1_write, Cond.code yX1_write cX1_write 7 (some .int), Cond.constantLong RX1 30 (4294967295), Cond.fieldLink RX1 36 "GroupedNumbersModel" "outs" "I"]
def wsL_law_r6 : List Cond := [Cond.methodLink RX1 39 Lib.Math.min.name, Cond.methodLink RX1 32 yX1_isEnough, Cond.static yX1_isEnough, Cond.code yX1_isEnough cX1_isEnough 5 (some .boolean), Cond.methodLink RL 40 yX0_size, Cond.instanceMethod yX0_size, Cond.selects RX0 yX0_size yX0_size, Cond.code yX0_size cX0_size 1 (some .int), Cond.methodLink RL 44 yX1_size, Cond.instanceMethod yX1_size, Cond.selects RX1 yX1_size yX1_size, Cond.code yX1_size cX1_size 1 (some .int), Cond.methodLink RL 45 yX0_at, Cond.instanceMethod yX0_at, Cond.selects RX0 yX0_at yX0_at, Cond.code yX0_at cX0_at 2 (some .int), Cond.methodLink RL 48 yX1_at, Cond.instanceMethod yX1_at, Cond.selects RX1 yX1_at yX1_at, Cond.code yX1_at cX1_at 2 (some .int), Cond.methodLink RL 49 yX0_clear, Cond.instanceMethod yX0_clear, Cond.selects RX0 yX0_clear yX0_clear, Cond.code yX0_clear cX0_clear 1 none]
def wsL_law_r7 : List Cond := [Cond.methodLink RL 52 yX1_clear, Cond.instanceMethod yX1_clear, Cond.selects RX1 yX1_clear yX1_clear, Cond.code yX1_clear cX1_clear 1 none]
def wsL_law : List Cond := (wsL_law_r1 ++ (wsL_law_r2 ++ (wsL_law_r3 ++ (wsL_law_r4 ++ (wsL_law_r5 ++ (wsL_law_r6 ++ wsL_law_r7)))))) ++ wsX00 ++ wsX10 ++ ([] : List Cond)
set_option maxRecDepth 20000 in
theorem wsL_law_in : ∀ w ∈ wsL_law, w ∈ lw_tbl := fun w h => (goodIn_p wsL_law [13, 16, 114, 37, 41, 136, 140, 45, 144, 49, 52, 55, 59, 62, 65, 69, 72, 148, 77, 153, 81, 84, 90, 93, 97, 157, 161, 101, 166, 105, 170, 109, 174] (by decide +kernel) (by decide +kernel) w h).1
theorem inlX0 : ∀ w ∈ wsX00, w ∈ wsL_law := fun _ h => List.mem_append_left _ (List.mem_append_left _ (List.mem_append_right _ h))
theorem inX0 : ∀ w ∈ wsX00, w ∈ lw_tbl := fun w h => wsL_law_in w (inlX0 w h)
theorem inlX1 : ∀ w ∈ wsX10, w ∈ wsL_law := fun _ h => List.mem_append_left _ (List.mem_append_right _ h)
theorem inX1 : ∀ w ∈ wsX10, w ∈ lw_tbl := fun w h => wsL_law_in w (inlX1 w h)
theorem inJ9 : ∀ w ∈ wsJ90, w ∈ lw_tbl := by decide +kernel
set_option maxRecDepth 20000 in
theorem ggX0_feed_X0_appendToRow : GoodIn wsX0_feed wsX0_appendToRow := goodIn_r _ [6, 7, 1, 8, 9, 10, 11, 12] (by decide +kernel) (by decide +kernel)
set_option maxRecDepth 20000 in
theorem gX0_feed_X0_appendToRow : GoodIn wsX0_feed (wsV RX0 27 RX0 yX0_appendToRow wsX0_appendToRow) := goodIn_app (goodIn_of _ (by decide +kernel)) ggX0_feed_X0_appendToRow
set_option maxRecDepth 20000 in
theorem ggX0_read_X0_isKind : GoodIn wsX0_read wsX0_isKind := goodIn_r _ [7] (by decide +kernel) (by decide +kernel)
set_option maxRecDepth 20000 in
theorem gX0_read_X0_isKind : GoodIn wsX0_read (va_wsS RX0 31 yX0_isKind wsX0_isKind) := goodIn_app (goodIn_of _ (by decide +kernel)) ggX0_read_X0_isKind
set_option maxRecDepth 20000 in
theorem ggX0_read_X0_mostGroups : GoodIn wsX0_read wsX0_mostGroups := goodIn_r _ [10] (by decide +kernel) (by decide +kernel)
set_option maxRecDepth 20000 in
theorem gX0_read_X0_mostGroups : GoodIn wsX0_read (va_wsS RX0 35 yX0_mostGroups wsX0_mostGroups) := goodIn_app (goodIn_of _ (by decide +kernel)) ggX0_read_X0_mostGroups
set_option maxRecDepth 20000 in
theorem ggX0_read_X0_countGroups : GoodIn wsX0_read wsX0_countGroups := goodIn_r _ [14, 1, 15, 16, 17, 18, 2, 30, 31, 32, 33, 34] (by decide +kernel) (by decide +kernel)
set_option maxRecDepth 20000 in
theorem gX0_read_X0_countGroups : GoodIn wsX0_read (wsV RX0 39 RX0 yX0_countGroups wsX0_countGroups) := goodIn_app (goodIn_of _ (by decide +kernel)) ggX0_read_X0_countGroups
set_option maxRecDepth 20000 in
theorem ggX0_read_X0_mayEndLongest : GoodIn wsX0_read wsX0_mayEndLongest := goodIn_r _ [21] (by decide +kernel) (by decide +kernel)
set_option maxRecDepth 20000 in
theorem gX0_read_X0_mayEndLongest : GoodIn wsX0_read (va_wsS RX0 43 yX0_mayEndLongest wsX0_mayEndLongest) := goodIn_app (goodIn_of _ (by decide +kernel)) ggX0_read_X0_mayEndLongest
set_option maxRecDepth 20000 in
theorem ggX0_read_X0_joinGroups : GoodIn wsX0_read wsX0_joinGroups := goodIn_r _ [25, 2, 30, 31, 32, 33, 34] (by decide +kernel) (by decide +kernel)
set_option maxRecDepth 20000 in
theorem gX0_read_X0_joinGroups : GoodIn wsX0_read (wsV RX0 47 RX0 yX0_joinGroups wsX0_joinGroups) := goodIn_app (goodIn_of _ (by decide +kernel)) ggX0_read_X0_joinGroups
set_option maxRecDepth 20000 in
theorem ggX0_read_X0_extendSign : GoodIn wsX0_read wsX0_extendSign := goodIn_r _ [28, 29] (by decide +kernel) (by decide +kernel)
set_option maxRecDepth 20000 in
theorem gX0_read_X0_extendSign : GoodIn wsX0_read (va_wsS RX0 51 yX0_extendSign wsX0_extendSign) := goodIn_app (goodIn_of _ (by decide +kernel)) ggX0_read_X0_extendSign
set_option maxRecDepth 20000 in
theorem ggX0_write_X0_isKind : GoodIn wsX0_write wsX0_isKind := goodIn_r _ [5] (by decide +kernel) (by decide +kernel)
set_option maxRecDepth 20000 in
theorem gX0_write_X0_isKind : GoodIn wsX0_write (va_wsS RX0 31 yX0_isKind wsX0_isKind) := goodIn_app (goodIn_of _ (by decide +kernel)) ggX0_write_X0_isKind
set_option maxRecDepth 20000 in
theorem ggX0_write_X0_isNumberOf : GoodIn wsX0_write wsX0_isNumberOf := goodIn_r _ [8, 9, 10, 11] (by decide +kernel) (by decide +kernel)
set_option maxRecDepth 20000 in
theorem gX0_write_X0_isNumberOf : GoodIn wsX0_write (va_wsS RX0 55 yX0_isNumberOf wsX0_isNumberOf) := goodIn_app (goodIn_of _ (by decide +kernel)) ggX0_write_X0_isNumberOf
set_option maxRecDepth 20000 in
theorem ggX0_write_X0_groupsNeeded : GoodIn wsX0_write wsX0_groupsNeeded := goodIn_r _ [14, 15, 16, 4, 17, 18, 19, 20, 21] (by decide +kernel) (by decide +kernel)
set_option maxRecDepth 20000 in
theorem gX0_write_X0_groupsNeeded : GoodIn wsX0_write (va_wsS RX0 59 yX0_groupsNeeded wsX0_groupsNeeded) := goodIn_app (goodIn_of _ (by decide +kernel)) ggX0_write_X0_groupsNeeded
set_option maxRecDepth 20000 in
theorem ggX0_write_X0_appendToOutput : GoodIn wsX0_write wsX0_appendToOutput := goodIn_r _ [25, 26, 1, 27, 28, 29, 30, 31] (by decide +kernel) (by decide +kernel)
set_option maxRecDepth 20000 in
theorem gX0_write_X0_appendToOutput : GoodIn wsX0_write (wsV RX0 63 RX0 yX0_appendToOutput wsX0_appendToOutput) := goodIn_app (goodIn_of _ (by decide +kernel)) ggX0_write_X0_appendToOutput
set_option maxRecDepth 20000 in
theorem ggX0_groupsNeeded_X0_mostGroups : GoodIn wsX0_groupsNeeded wsX0_mostGroups := goodIn_r _ [4] (by decide +kernel) (by decide +kernel)
set_option maxRecDepth 20000 in
theorem gX0_groupsNeeded_X0_mostGroups : GoodIn wsX0_groupsNeeded (va_wsS RX0 35 yX0_mostGroups wsX0_mostGroups) := goodIn_app (goodIn_of _ (by decide +kernel)) ggX0_groupsNeeded_X0_mostGroups
set_option maxRecDepth 20000 in
theorem ggX0_groupsNeeded_X0_fitsGroups : GoodIn wsX0_groupsNeeded wsX0_fitsGroups := goodIn_r _ [7, 8] (by decide +kernel) (by decide +kernel)
set_option maxRecDepth 20000 in
theorem gX0_groupsNeeded_X0_fitsGroups : GoodIn wsX0_groupsNeeded (va_wsS RX0 73 yX0_fitsGroups wsX0_fitsGroups) := goodIn_app (goodIn_of _ (by decide +kernel)) ggX0_groupsNeeded_X0_fitsGroups
set_option maxRecDepth 20000 in
theorem ggX1_feed_X1_word : GoodIn wsX1_feed wsX1_word := goodIn_r _ [6, 7, 1, 8, 9, 10, 11, 12] (by decide +kernel) (by decide +kernel)
set_option maxRecDepth 20000 in
theorem gX1_feed_X1_word : GoodIn wsX1_feed (wsV RX1 20 RX1 yX1_word wsX1_word) := goodIn_app (goodIn_of _ (by decide +kernel)) ggX1_feed_X1_word
set_option maxRecDepth 20000 in
theorem ggX1_write_X1_isEnough : GoodIn wsX1_write wsX1_isEnough := goodIn_r _ [11, 12] (by decide +kernel) (by decide +kernel)
set_option maxRecDepth 20000 in
theorem gX1_write_X1_isEnough : GoodIn wsX1_write (va_wsS RX1 32 yX1_isEnough wsX1_isEnough) := goodIn_app (goodIn_of _ (by decide +kernel)) ggX1_write_X1_isEnough
set_option maxRecDepth 20000 in
theorem ggL_law_X0_init : GoodIn wsL_law wsX0_init := goodIn_r _ [9, 10, 11, 12, 13, 14, 15, 16, 17, 18, 148, 149, 150, 151, 152] (by decide +kernel) (by decide +kernel)
set_option maxRecDepth 20000 in
theorem gL_law_X0_init : GoodIn wsL_law (wsX0_init) := ggL_law_X0_init
set_option maxRecDepth 20000 in
theorem ggL_law_X1_init : GoodIn wsL_law wsX1_init := goodIn_r _ [21, 22, 11, 12, 23, 24, 25, 153, 154, 155, 156, 157] (by decide +kernel) (by decide +kernel)
set_option maxRecDepth 20000 in
theorem gL_law_X1_init : GoodIn wsL_law (wsX1_init) := ggL_law_X1_init
set_option maxRecDepth 20000 in
theorem ggL_law_X0_feed : GoodIn wsL_law wsX0_feed := goodIn_r _ [29, 15, 30, 31, 32, 2, 33, 14, 148, 149, 150, 151, 152] (by decide +kernel) (by decide +kernel)
set_option maxRecDepth 20000 in
theorem gL_law_X0_feed : GoodIn wsL_law (wsV RL 13 RX0 yX0_feed wsX0_feed) := goodIn_app (goodIn_of _ (by decide +kernel)) ggL_law_X0_feed
set_option maxRecDepth 20000 in
theorem ggL_law_X1_feed : GoodIn wsL_law wsX1_feed := goodIn_r _ [37, 38, 39, 40, 41, 5, 42, 24, 153, 154, 155, 156, 157] (by decide +kernel) (by decide +kernel)
set_option maxRecDepth 20000 in
theorem gL_law_X1_feed : GoodIn wsL_law (wsV RL 17 RX1 yX1_feed wsX1_feed) := goodIn_app (goodIn_of _ (by decide +kernel)) ggL_law_X1_feed
set_option maxRecDepth 20000 in
theorem ggL_law_X0_end : GoodIn wsL_law wsX0_end := goodIn_r _ [46, 15, 148, 149, 150, 151, 152] (by decide +kernel) (by decide +kernel)
set_option maxRecDepth 20000 in
theorem gL_law_X0_end : GoodIn wsL_law (wsV RL 18 RX0 yX0_end wsX0_end) := goodIn_app (goodIn_of _ (by decide +kernel)) ggL_law_X0_end
set_option maxRecDepth 20000 in
theorem ggL_law_X1_end : GoodIn wsL_law wsX1_end := goodIn_r _ [50, 38, 153, 154, 155, 156, 157] (by decide +kernel) (by decide +kernel)
set_option maxRecDepth 20000 in
theorem gL_law_X1_end : GoodIn wsL_law (wsV RL 22 RX1 yX1_end wsX1_end) := goodIn_app (goodIn_of _ (by decide +kernel)) ggL_law_X1_end
set_option maxRecDepth 20000 in
theorem ggL_law_X0_read : GoodIn wsL_law wsX0_read := goodIn_r _ [54, 15, 14, 18, 55, 56, 2, 57, 58, 59, 60, 61, 62, 63, 64, 65, 66, 67, 68, 69, 70, 71, 72, 73, 74, 75, 76, 77, 78, 79, 148, 149, 150, 151, 152] (by decide +kernel) (by decide +kernel)
set_option maxRecDepth 20000 in
theorem gL_law_X0_read : GoodIn wsL_law (wsV RL 23 RX0 yX0_read wsX0_read) := goodIn_app (goodIn_of _ (by decide +kernel)) ggL_law_X0_read
set_option maxRecDepth 20000 in
theorem ggL_law_X1_read : GoodIn wsL_law wsX1_read := goodIn_r _ [83, 38, 24, 84, 85, 153, 154, 155, 156, 157] (by decide +kernel) (by decide +kernel)
set_option maxRecDepth 20000 in
theorem gL_law_X1_read : GoodIn wsL_law (wsV RL 27 RX1 yX1_read wsX1_read) := goodIn_app (goodIn_of _ (by decide +kernel)) ggL_law_X1_read
set_option maxRecDepth 20000 in
theorem ggL_law_X0_value : GoodIn wsL_law wsX0_value := goodIn_r _ [89, 18, 148, 149, 150, 151, 152] (by decide +kernel) (by decide +kernel)
set_option maxRecDepth 20000 in
theorem gL_law_X0_value : GoodIn wsL_law (wsV RL 28 RX0 yX0_value wsX0_value) := goodIn_app (goodIn_of _ (by decide +kernel)) ggL_law_X0_value
set_option maxRecDepth 20000 in
theorem ggL_law_X1_value : GoodIn wsL_law wsX1_value := goodIn_r _ [93, 85, 153, 154, 155, 156, 157] (by decide +kernel) (by decide +kernel)
set_option maxRecDepth 20000 in
theorem gL_law_X1_value : GoodIn wsL_law (wsV RL 32 RX1 yX1_value wsX1_value) := goodIn_app (goodIn_of _ (by decide +kernel)) ggL_law_X1_value
set_option maxRecDepth 20000 in
theorem ggL_law_X0_write : GoodIn wsL_law wsX0_write := goodIn_r _ [97, 17, 55, 56, 2, 57, 98, 99, 100, 101, 102, 103, 104, 105, 106, 58, 59, 60, 107, 108, 109, 79, 110, 111, 112, 113, 16, 148, 149, 150, 151, 152] (by decide +kernel) (by decide +kernel)
set_option maxRecDepth 20000 in
theorem gL_law_X0_write : GoodIn wsL_law (wsV RL 35 RX0 yX0_write wsX0_write) := goodIn_app (goodIn_of _ (by decide +kernel)) ggL_law_X0_write
set_option maxRecDepth 20000 in
theorem ggL_law_X1_write : GoodIn wsL_law wsX1_write := goodIn_r _ [117, 118, 119, 120, 66, 67, 68, 25, 121, 122, 5, 123, 84, 153, 154, 155, 156, 157] (by decide +kernel) (by decide +kernel)
set_option maxRecDepth 20000 in
theorem gL_law_X1_write : GoodIn wsL_law (wsV RL 39 RX1 yX1_write wsX1_write) := goodIn_app (goodIn_of _ (by decide +kernel)) ggL_law_X1_write
set_option maxRecDepth 20000 in
theorem ggL_law_X0_size : GoodIn wsL_law wsX0_size := goodIn_r _ [127, 17, 148, 149, 150, 151, 152] (by decide +kernel) (by decide +kernel)
set_option maxRecDepth 20000 in
theorem gL_law_X0_size : GoodIn wsL_law (wsV RL 40 RX0 yX0_size wsX0_size) := goodIn_app (goodIn_of _ (by decide +kernel)) ggL_law_X0_size
set_option maxRecDepth 20000 in
theorem ggL_law_X1_size : GoodIn wsL_law wsX1_size := goodIn_r _ [131, 119, 153, 154, 155, 156, 157] (by decide +kernel) (by decide +kernel)
set_option maxRecDepth 20000 in
theorem gL_law_X1_size : GoodIn wsL_law (wsV RL 44 RX1 yX1_size wsX1_size) := goodIn_app (goodIn_of _ (by decide +kernel)) ggL_law_X1_size
set_option maxRecDepth 20000 in
theorem ggL_law_X0_at : GoodIn wsL_law wsX0_at := goodIn_r _ [135, 17, 16, 148, 149, 150, 151, 152] (by decide +kernel) (by decide +kernel)
set_option maxRecDepth 20000 in
theorem gL_law_X0_at : GoodIn wsL_law (wsV RL 45 RX0 yX0_at wsX0_at) := goodIn_app (goodIn_of _ (by decide +kernel)) ggL_law_X0_at
set_option maxRecDepth 20000 in
theorem ggL_law_X1_at : GoodIn wsL_law wsX1_at := goodIn_r _ [139, 119, 25, 153, 154, 155, 156, 157] (by decide +kernel) (by decide +kernel)
set_option maxRecDepth 20000 in
theorem gL_law_X1_at : GoodIn wsL_law (wsV RL 48 RX1 yX1_at wsX1_at) := goodIn_app (goodIn_of _ (by decide +kernel)) ggL_law_X1_at
set_option maxRecDepth 20000 in
theorem ggL_law_X0_clear : GoodIn wsL_law wsX0_clear := goodIn_r _ [143, 17, 15, 148, 149, 150, 151, 152] (by decide +kernel) (by decide +kernel)
set_option maxRecDepth 20000 in
theorem gL_law_X0_clear : GoodIn wsL_law (wsV RL 49 RX0 yX0_clear wsX0_clear) := goodIn_app (goodIn_of _ (by decide +kernel)) ggL_law_X0_clear
set_option maxRecDepth 20000 in
theorem ggL_law_X1_clear : GoodIn wsL_law wsX1_clear := goodIn_r _ [147, 38, 119, 153, 154, 155, 156, 157] (by decide +kernel) (by decide +kernel)
set_option maxRecDepth 20000 in
theorem gL_law_X1_clear : GoodIn wsL_law (wsV RL 52 RX1 yX1_clear wsX1_clear) := goodIn_app (goodIn_of _ (by decide +kernel)) ggL_law_X1_clear
abbrev vwCl : List vw_C := [(RX0, TX0, 5), (RX1, TX1, 5)]
end
section
theorem dX0_init_0 : decode cX0_init 0 = .ok (.aload_n 0, 1) := by decide +kernel
theorem dX0_init_1 : decode cX0_init 1 = .ok (.invokespecial 1, 3) := by decide +kernel
theorem dX0_init_4 : decode cX0_init 4 = .ok (.aload_n 0, 1) := by decide +kernel
theorem dX0_init_5 : decode cX0_init 5 = .ok (.sipush 1000, 3) := by decide +kernel
theorem dX0_init_8 : decode cX0_init 8 = .ok (.newarray .int, 2) := by decide +kernel
theorem dX0_init_10 : decode cX0_init 10 = .ok (.putfield 9, 3) := by decide +kernel
theorem dX0_init_13 : decode cX0_init 13 = .ok (.aload_n 0, 1) := by decide +kernel
theorem dX0_init_14 : decode cX0_init 14 = .ok (.iconst 0, 1) := by decide +kernel
theorem dX0_init_15 : decode cX0_init 15 = .ok (.putfield 13, 3) := by decide +kernel
theorem dX0_init_18 : decode cX0_init 18 = .ok (.aload_n 0, 1) := by decide +kernel
theorem dX0_init_19 : decode cX0_init 19 = .ok (.sipush 1000, 3) := by decide +kernel
theorem dX0_init_22 : decode cX0_init 22 = .ok (.newarray .int, 2) := by decide +kernel
theorem dX0_init_24 : decode cX0_init 24 = .ok (.putfield 17, 3) := by decide +kernel
theorem dX0_init_27 : decode cX0_init 27 = .ok (.aload_n 0, 1) := by decide +kernel
theorem dX0_init_28 : decode cX0_init 28 = .ok (.iconst 0, 1) := by decide +kernel
theorem dX0_init_29 : decode cX0_init 29 = .ok (.putfield 20, 3) := by decide +kernel
theorem dX0_init_32 : decode cX0_init 32 = .ok (.aload_n 0, 1) := by decide +kernel
theorem dX0_init_33 : decode cX0_init 33 = .ok (.lconst 0, 1) := by decide +kernel
theorem dX0_init_34 : decode cX0_init 34 = .ok (.putfield 23, 3) := by decide +kernel
theorem dX0_init_37 : decode cX0_init 37 = .ok (.return_, 1) := by decide +kernel
theorem dX0_feed_0 : decode cX0_feed 0 = .ok (.aload_n 0, 1) := by decide +kernel
theorem dX0_feed_1 : decode cX0_feed 1 = .ok (.getfield 13, 3) := by decide +kernel
theorem dX0_feed_4 : decode cX0_feed 4 = .ok (.sipush 980, 3) := by decide +kernel
theorem dX0_feed_7 : decode cX0_feed 7 = .ok (.if_icmp .le 5, 3) := by decide +kernel
theorem dX0_feed_10 : decode cX0_feed 10 = .ok (.iconst (-1), 1) := by decide +kernel
theorem dX0_feed_11 : decode cX0_feed 11 = .ok (.ireturn, 1) := by decide +kernel
theorem dX0_feed_12 : decode cX0_feed 12 = .ok (.aload_n 0, 1) := by decide +kernel
theorem dX0_feed_13 : decode cX0_feed 13 = .ok (.iload_n 1, 1) := by decide +kernel
theorem dX0_feed_14 : decode cX0_feed 14 = .ok (.invokevirtual 27, 3) := by decide +kernel
theorem dX0_feed_17 : decode cX0_feed 17 = .ok (.aload_n 0, 1) := by decide +kernel
theorem dX0_feed_18 : decode cX0_feed 18 = .ok (.iload_n 2, 1) := by decide +kernel
theorem dX0_feed_19 : decode cX0_feed 19 = .ok (.invokevirtual 27, 3) := by decide +kernel
theorem dX0_feed_22 : decode cX0_feed 22 = .ok (.aload_n 0, 1) := by decide +kernel
theorem dX0_feed_23 : decode cX0_feed 23 = .ok (.iload_n 3, 1) := by decide +kernel
theorem dX0_feed_24 : decode cX0_feed 24 = .ok (.invokevirtual 27, 3) := by decide +kernel
theorem dX0_feed_27 : decode cX0_feed 27 = .ok (.aload_n 0, 1) := by decide +kernel
theorem dX0_feed_28 : decode cX0_feed 28 = .ok (.iload 4, 2) := by decide +kernel
theorem dX0_feed_30 : decode cX0_feed 30 = .ok (.invokevirtual 27, 3) := by decide +kernel
theorem dX0_feed_33 : decode cX0_feed 33 = .ok (.aload_n 0, 1) := by decide +kernel
theorem dX0_feed_34 : decode cX0_feed 34 = .ok (.iload 5, 2) := by decide +kernel
theorem dX0_feed_36 : decode cX0_feed 36 = .ok (.invokevirtual 27, 3) := by decide +kernel
theorem dX0_feed_39 : decode cX0_feed 39 = .ok (.aload_n 0, 1) := by decide +kernel
theorem dX0_feed_40 : decode cX0_feed 40 = .ok (.getfield 13, 3) := by decide +kernel
theorem dX0_feed_43 : decode cX0_feed 43 = .ok (.ireturn, 1) := by decide +kernel
theorem dX0_end_0 : decode cX0_end 0 = .ok (.iload_n 1, 1) := by decide +kernel
theorem dX0_end_1 : decode cX0_end 1 = .ok (.ifCond .lt 11, 3) := by decide +kernel
theorem dX0_end_4 : decode cX0_end 4 = .ok (.iload_n 1, 1) := by decide +kernel
theorem dX0_end_5 : decode cX0_end 5 = .ok (.aload_n 0, 1) := by decide +kernel
theorem dX0_end_6 : decode cX0_end 6 = .ok (.getfield 13, 3) := by decide +kernel
theorem dX0_end_9 : decode cX0_end 9 = .ok (.if_icmp .le 5, 3) := by decide +kernel
theorem dX0_end_12 : decode cX0_end 12 = .ok (.iconst (-1), 1) := by decide +kernel
theorem dX0_end_13 : decode cX0_end 13 = .ok (.ireturn, 1) := by decide +kernel
theorem dX0_end_14 : decode cX0_end 14 = .ok (.aload_n 0, 1) := by decide +kernel
theorem dX0_end_15 : decode cX0_end 15 = .ok (.iload_n 1, 1) := by decide +kernel
theorem dX0_end_16 : decode cX0_end 16 = .ok (.putfield 13, 3) := by decide +kernel
theorem dX0_end_19 : decode cX0_end 19 = .ok (.iload_n 1, 1) := by decide +kernel
theorem dX0_end_20 : decode cX0_end 20 = .ok (.ireturn, 1) := by decide +kernel
theorem dX0_read_0 : decode cX0_read 0 = .ok (.iload_n 1, 1) := by decide +kernel
theorem dX0_read_1 : decode cX0_read 1 = .ok (.invokestatic 31, 3) := by decide +kernel
theorem dX0_read_4 : decode cX0_read 4 = .ok (.ifCond .eq 15, 3) := by decide +kernel
theorem dX0_read_7 : decode cX0_read 7 = .ok (.iload_n 2, 1) := by decide +kernel
theorem dX0_read_8 : decode cX0_read 8 = .ok (.ifCond .lt 11, 3) := by decide +kernel
theorem dX0_read_11 : decode cX0_read 11 = .ok (.iload_n 2, 1) := by decide +kernel
theorem dX0_read_12 : decode cX0_read 12 = .ok (.aload_n 0, 1) := by decide +kernel
theorem dX0_read_13 : decode cX0_read 13 = .ok (.getfield 13, 3) := by decide +kernel
theorem dX0_read_16 : decode cX0_read 16 = .ok (.if_icmp .le 6, 3) := by decide +kernel
theorem dX0_read_19 : decode cX0_read 19 = .ok (.bipush (-2), 2) := by decide +kernel
theorem dX0_read_21 : decode cX0_read 21 = .ok (.ireturn, 1) := by decide +kernel
theorem dX0_read_22 : decode cX0_read 22 = .ok (.aload_n 0, 1) := by decide +kernel
theorem dX0_read_23 : decode cX0_read 23 = .ok (.iload_n 2, 1) := by decide +kernel
theorem dX0_read_24 : decode cX0_read 24 = .ok (.iload_n 1, 1) := by decide +kernel
theorem dX0_read_25 : decode cX0_read 25 = .ok (.invokestatic 35, 3) := by decide +kernel
theorem dX0_read_28 : decode cX0_read 28 = .ok (.invokevirtual 39, 3) := by decide +kernel
theorem dX0_read_31 : decode cX0_read 31 = .ok (.istore_n 3, 1) := by decide +kernel
theorem dX0_read_32 : decode cX0_read 32 = .ok (.iload_n 3, 1) := by decide +kernel
theorem dX0_read_33 : decode cX0_read 33 = .ok (.ifCond .ne 5, 3) := by decide +kernel
theorem dX0_read_36 : decode cX0_read 36 = .ok (.iconst (-1), 1) := by decide +kernel
theorem dX0_read_37 : decode cX0_read 37 = .ok (.ireturn, 1) := by decide +kernel
theorem dX0_read_38 : decode cX0_read 38 = .ok (.aload_n 0, 1) := by decide +kernel
theorem dX0_read_39 : decode cX0_read 39 = .ok (.getfield 9, 3) := by decide +kernel
theorem dX0_read_42 : decode cX0_read 42 = .ok (.iload_n 2, 1) := by decide +kernel
theorem dX0_read_43 : decode cX0_read 43 = .ok (.iload_n 3, 1) := by decide +kernel
theorem dX0_read_44 : decode cX0_read 44 = .ok (.iadd, 1) := by decide +kernel
theorem dX0_read_45 : decode cX0_read 45 = .ok (.iconst 1, 1) := by decide +kernel
theorem dX0_read_46 : decode cX0_read 46 = .ok (.isub, 1) := by decide +kernel
theorem dX0_read_47 : decode cX0_read 47 = .ok (.iaload, 1) := by decide +kernel
theorem dX0_read_48 : decode cX0_read 48 = .ok (.istore 4, 2) := by decide +kernel
theorem dX0_read_50 : decode cX0_read 50 = .ok (.iload_n 3, 1) := by decide +kernel
theorem dX0_read_51 : decode cX0_read 51 = .ok (.iload_n 1, 1) := by decide +kernel
theorem dX0_read_52 : decode cX0_read 52 = .ok (.invokestatic 35, 3) := by decide +kernel
theorem dX0_read_55 : decode cX0_read 55 = .ok (.if_icmp .ne 14, 3) := by decide +kernel
theorem dX0_read_58 : decode cX0_read 58 = .ok (.iload_n 1, 1) := by decide +kernel
theorem dX0_read_59 : decode cX0_read 59 = .ok (.iload 4, 2) := by decide +kernel
theorem dX0_read_61 : decode cX0_read 61 = .ok (.invokestatic 43, 3) := by decide +kernel
theorem dX0_read_64 : decode cX0_read 64 = .ok (.ifCond .ne 5, 3) := by decide +kernel
theorem dX0_read_67 : decode cX0_read 67 = .ok (.iconst (-1), 1) := by decide +kernel
theorem dX0_read_68 : decode cX0_read 68 = .ok (.ireturn, 1) := by decide +kernel
theorem dX0_read_69 : decode cX0_read 69 = .ok (.aload_n 0, 1) := by decide +kernel
theorem dX0_read_70 : decode cX0_read 70 = .ok (.iload_n 2, 1) := by decide +kernel
theorem dX0_read_71 : decode cX0_read 71 = .ok (.iload_n 3, 1) := by decide +kernel
theorem dX0_read_72 : decode cX0_read 72 = .ok (.invokevirtual 47, 3) := by decide +kernel
theorem dX0_read_75 : decode cX0_read 75 = .ok (.lstore 5, 2) := by decide +kernel
theorem dX0_read_77 : decode cX0_read 77 = .ok (.aload_n 0, 1) := by decide +kernel
theorem dX0_read_78 : decode cX0_read 78 = .ok (.iload_n 1, 1) := by decide +kernel
theorem dX0_read_79 : decode cX0_read 79 = .ok (.ifCond .ne 8, 3) := by decide +kernel
theorem dX0_read_82 : decode cX0_read 82 = .ok (.lload 5, 2) := by decide +kernel
theorem dX0_read_84 : decode cX0_read 84 = .ok (.goto 11, 3) := by decide +kernel
theorem dX0_read_87 : decode cX0_read 87 = .ok (.lload 5, 2) := by decide +kernel
theorem dX0_read_89 : decode cX0_read 89 = .ok (.iload 4, 2) := by decide +kernel
theorem dX0_read_91 : decode cX0_read 91 = .ok (.iload_n 3, 1) := by decide +kernel
theorem dX0_read_92 : decode cX0_read 92 = .ok (.invokestatic 51, 3) := by decide +kernel
theorem dX0_read_95 : decode cX0_read 95 = .ok (.putfield 23, 3) := by decide +kernel
theorem dX0_read_98 : decode cX0_read 98 = .ok (.iload_n 3, 1) := by decide +kernel
theorem dX0_read_99 : decode cX0_read 99 = .ok (.ireturn, 1) := by decide +kernel
theorem dX0_value_0 : decode cX0_value 0 = .ok (.aload_n 0, 1) := by decide +kernel
theorem dX0_value_1 : decode cX0_value 1 = .ok (.getfield 23, 3) := by decide +kernel
theorem dX0_value_4 : decode cX0_value 4 = .ok (.lreturn, 1) := by decide +kernel
theorem dX0_write_0 : decode cX0_write 0 = .ok (.iload_n 1, 1) := by decide +kernel
theorem dX0_write_1 : decode cX0_write 1 = .ok (.invokestatic 31, 3) := by decide +kernel
theorem dX0_write_4 : decode cX0_write 4 = .ok (.ifCond .ne 6, 3) := by decide +kernel
theorem dX0_write_7 : decode cX0_write 7 = .ok (.bipush (-2), 2) := by decide +kernel
theorem dX0_write_9 : decode cX0_write 9 = .ok (.ireturn, 1) := by decide +kernel
theorem dX0_write_10 : decode cX0_write 10 = .ok (.iload_n 1, 1) := by decide +kernel
theorem dX0_write_11 : decode cX0_write 11 = .ok (.lload_n 2, 1) := by decide +kernel
theorem dX0_write_12 : decode cX0_write 12 = .ok (.invokestatic 55, 3) := by decide +kernel
theorem dX0_write_15 : decode cX0_write 15 = .ok (.ifCond .ne 5, 3) := by decide +kernel
theorem dX0_write_18 : decode cX0_write 18 = .ok (.iconst (-1), 1) := by decide +kernel
theorem dX0_write_19 : decode cX0_write 19 = .ok (.ireturn, 1) := by decide +kernel
theorem dX0_write_20 : decode cX0_write 20 = .ok (.iload_n 1, 1) := by decide +kernel
theorem dX0_write_21 : decode cX0_write 21 = .ok (.lload_n 2, 1) := by decide +kernel
theorem dX0_write_22 : decode cX0_write 22 = .ok (.invokestatic 59, 3) := by decide +kernel
theorem dX0_write_25 : decode cX0_write 25 = .ok (.istore 4, 2) := by decide +kernel
theorem dX0_write_27 : decode cX0_write 27 = .ok (.iload 4, 2) := by decide +kernel
theorem dX0_write_29 : decode cX0_write 29 = .ok (.sipush 1000, 3) := by decide +kernel
theorem dX0_write_32 : decode cX0_write 32 = .ok (.aload_n 0, 1) := by decide +kernel
theorem dX0_write_33 : decode cX0_write 33 = .ok (.getfield 20, 3) := by decide +kernel
theorem dX0_write_36 : decode cX0_write 36 = .ok (.isub, 1) := by decide +kernel
theorem dX0_write_37 : decode cX0_write 37 = .ok (.if_icmp .le 6, 3) := by decide +kernel
theorem dX0_write_40 : decode cX0_write 40 = .ok (.bipush (-2), 2) := by decide +kernel
theorem dX0_write_42 : decode cX0_write 42 = .ok (.ireturn, 1) := by decide +kernel
theorem dX0_write_43 : decode cX0_write 43 = .ok (.aload_n 0, 1) := by decide +kernel
theorem dX0_write_44 : decode cX0_write 44 = .ok (.lload_n 2, 1) := by decide +kernel
theorem dX0_write_45 : decode cX0_write 45 = .ok (.iload 4, 2) := by decide +kernel
theorem dX0_write_47 : decode cX0_write 47 = .ok (.invokevirtual 63, 3) := by decide +kernel
theorem dX0_write_50 : decode cX0_write 50 = .ok (.iload 4, 2) := by decide +kernel
theorem dX0_write_52 : decode cX0_write 52 = .ok (.ireturn, 1) := by decide +kernel
theorem dX0_size_0 : decode cX0_size 0 = .ok (.aload_n 0, 1) := by decide +kernel
theorem dX0_size_1 : decode cX0_size 1 = .ok (.getfield 20, 3) := by decide +kernel
theorem dX0_size_4 : decode cX0_size 4 = .ok (.ireturn, 1) := by decide +kernel
theorem dX0_at_0 : decode cX0_at 0 = .ok (.iload_n 1, 1) := by decide +kernel
theorem dX0_at_1 : decode cX0_at 1 = .ok (.ifCond .lt 11, 3) := by decide +kernel
theorem dX0_at_4 : decode cX0_at 4 = .ok (.iload_n 1, 1) := by decide +kernel
theorem dX0_at_5 : decode cX0_at 5 = .ok (.aload_n 0, 1) := by decide +kernel
theorem dX0_at_6 : decode cX0_at 6 = .ok (.getfield 20, 3) := by decide +kernel
theorem dX0_at_9 : decode cX0_at 9 = .ok (.if_icmp .lt 5, 3) := by decide +kernel
theorem dX0_at_12 : decode cX0_at 12 = .ok (.iconst (-1), 1) := by decide +kernel
theorem dX0_at_13 : decode cX0_at 13 = .ok (.ireturn, 1) := by decide +kernel
theorem dX0_at_14 : decode cX0_at 14 = .ok (.aload_n 0, 1) := by decide +kernel
theorem dX0_at_15 : decode cX0_at 15 = .ok (.getfield 17, 3) := by decide +kernel
theorem dX0_at_18 : decode cX0_at 18 = .ok (.iload_n 1, 1) := by decide +kernel
theorem dX0_at_19 : decode cX0_at 19 = .ok (.iaload, 1) := by decide +kernel
theorem dX0_at_20 : decode cX0_at 20 = .ok (.ireturn, 1) := by decide +kernel
theorem dX0_clear_0 : decode cX0_clear 0 = .ok (.aload_n 0, 1) := by decide +kernel
theorem dX0_clear_1 : decode cX0_clear 1 = .ok (.iconst 0, 1) := by decide +kernel
theorem dX0_clear_2 : decode cX0_clear 2 = .ok (.putfield 20, 3) := by decide +kernel
theorem dX0_clear_5 : decode cX0_clear 5 = .ok (.aload_n 0, 1) := by decide +kernel
theorem dX0_clear_6 : decode cX0_clear 6 = .ok (.iconst 0, 1) := by decide +kernel
theorem dX0_clear_7 : decode cX0_clear 7 = .ok (.putfield 13, 3) := by decide +kernel
theorem dX0_clear_10 : decode cX0_clear 10 = .ok (.return_, 1) := by decide +kernel
theorem dX0_isKind_0 : decode cX0_isKind 0 = .ok (.iload_n 0, 1) := by decide +kernel
theorem dX0_isKind_1 : decode cX0_isKind 1 = .ok (.ifCond .eq 13, 3) := by decide +kernel
theorem dX0_isKind_4 : decode cX0_isKind 4 = .ok (.iload_n 0, 1) := by decide +kernel
theorem dX0_isKind_5 : decode cX0_isKind 5 = .ok (.iconst 1, 1) := by decide +kernel
theorem dX0_isKind_6 : decode cX0_isKind 6 = .ok (.if_icmp .eq 8, 3) := by decide +kernel
theorem dX0_isKind_9 : decode cX0_isKind 9 = .ok (.iload_n 0, 1) := by decide +kernel
theorem dX0_isKind_10 : decode cX0_isKind 10 = .ok (.iconst 2, 1) := by decide +kernel
theorem dX0_isKind_11 : decode cX0_isKind 11 = .ok (.if_icmp .ne 7, 3) := by decide +kernel
theorem dX0_isKind_14 : decode cX0_isKind 14 = .ok (.iconst 1, 1) := by decide +kernel
theorem dX0_isKind_15 : decode cX0_isKind 15 = .ok (.goto 4, 3) := by decide +kernel
theorem dX0_isKind_18 : decode cX0_isKind 18 = .ok (.iconst 0, 1) := by decide +kernel
theorem dX0_isKind_19 : decode cX0_isKind 19 = .ok (.ireturn, 1) := by decide +kernel
theorem dX0_mostGroups_0 : decode cX0_mostGroups 0 = .ok (.iload_n 0, 1) := by decide +kernel
theorem dX0_mostGroups_1 : decode cX0_mostGroups 1 = .ok (.iconst 2, 1) := by decide +kernel
theorem dX0_mostGroups_2 : decode cX0_mostGroups 2 = .ok (.if_icmp .ne 8, 3) := by decide +kernel
theorem dX0_mostGroups_5 : decode cX0_mostGroups 5 = .ok (.bipush 10, 2) := by decide +kernel
theorem dX0_mostGroups_7 : decode cX0_mostGroups 7 = .ok (.goto 4, 3) := by decide +kernel
theorem dX0_mostGroups_10 : decode cX0_mostGroups 10 = .ok (.iconst 5, 1) := by decide +kernel
theorem dX0_mostGroups_11 : decode cX0_mostGroups 11 = .ok (.ireturn, 1) := by decide +kernel
theorem dX0_mayEndLongest_0 : decode cX0_mayEndLongest 0 = .ok (.iload_n 0, 1) := by decide +kernel
theorem dX0_mayEndLongest_1 : decode cX0_mayEndLongest 1 = .ok (.ifCond .ne 15, 3) := by decide +kernel
theorem dX0_mayEndLongest_4 : decode cX0_mayEndLongest 4 = .ok (.iload_n 1, 1) := by decide +kernel
theorem dX0_mayEndLongest_5 : decode cX0_mayEndLongest 5 = .ok (.bipush 15, 2) := by decide +kernel
theorem dX0_mayEndLongest_7 : decode cX0_mayEndLongest 7 = .ok (.if_icmp .gt 7, 3) := by decide +kernel
theorem dX0_mayEndLongest_10 : decode cX0_mayEndLongest 10 = .ok (.iconst 1, 1) := by decide +kernel
theorem dX0_mayEndLongest_11 : decode cX0_mayEndLongest 11 = .ok (.goto 4, 3) := by decide +kernel
theorem dX0_mayEndLongest_14 : decode cX0_mayEndLongest 14 = .ok (.iconst 0, 1) := by decide +kernel
theorem dX0_mayEndLongest_15 : decode cX0_mayEndLongest 15 = .ok (.ireturn, 1) := by decide +kernel
theorem dX0_mayEndLongest_16 : decode cX0_mayEndLongest 16 = .ok (.iload_n 0, 1) := by decide +kernel
theorem dX0_mayEndLongest_17 : decode cX0_mayEndLongest 17 = .ok (.iconst 1, 1) := by decide +kernel
theorem dX0_mayEndLongest_18 : decode cX0_mayEndLongest 18 = .ok (.if_icmp .ne 21, 3) := by decide +kernel
theorem dX0_mayEndLongest_21 : decode cX0_mayEndLongest 21 = .ok (.iload_n 1, 1) := by decide +kernel
theorem dX0_mayEndLongest_22 : decode cX0_mayEndLongest 22 = .ok (.bipush 7, 2) := by decide +kernel
theorem dX0_mayEndLongest_24 : decode cX0_mayEndLongest 24 = .ok (.if_icmp .le 9, 3) := by decide +kernel
theorem dX0_mayEndLongest_27 : decode cX0_mayEndLongest 27 = .ok (.iload_n 1, 1) := by decide +kernel
theorem dX0_mayEndLongest_28 : decode cX0_mayEndLongest 28 = .ok (.bipush 120, 2) := by decide +kernel
theorem dX0_mayEndLongest_30 : decode cX0_mayEndLongest 30 = .ok (.if_icmp .lt 7, 3) := by decide +kernel
theorem dX0_mayEndLongest_33 : decode cX0_mayEndLongest 33 = .ok (.iconst 1, 1) := by decide +kernel
theorem dX0_mayEndLongest_34 : decode cX0_mayEndLongest 34 = .ok (.goto 4, 3) := by decide +kernel
theorem dX0_mayEndLongest_37 : decode cX0_mayEndLongest 37 = .ok (.iconst 0, 1) := by decide +kernel
theorem dX0_mayEndLongest_38 : decode cX0_mayEndLongest 38 = .ok (.ireturn, 1) := by decide +kernel
theorem dX0_mayEndLongest_39 : decode cX0_mayEndLongest 39 = .ok (.iload_n 1, 1) := by decide +kernel
theorem dX0_mayEndLongest_40 : decode cX0_mayEndLongest 40 = .ok (.ifCond .eq 9, 3) := by decide +kernel
theorem dX0_mayEndLongest_43 : decode cX0_mayEndLongest 43 = .ok (.iload_n 1, 1) := by decide +kernel
theorem dX0_mayEndLongest_44 : decode cX0_mayEndLongest 44 = .ok (.bipush 127, 2) := by decide +kernel
theorem dX0_mayEndLongest_46 : decode cX0_mayEndLongest 46 = .ok (.if_icmp .ne 7, 3) := by decide +kernel
theorem dX0_mayEndLongest_49 : decode cX0_mayEndLongest 49 = .ok (.iconst 1, 1) := by decide +kernel
theorem dX0_mayEndLongest_50 : decode cX0_mayEndLongest 50 = .ok (.goto 4, 3) := by decide +kernel
theorem dX0_mayEndLongest_53 : decode cX0_mayEndLongest 53 = .ok (.iconst 0, 1) := by decide +kernel
theorem dX0_mayEndLongest_54 : decode cX0_mayEndLongest 54 = .ok (.ireturn, 1) := by decide +kernel
theorem dX0_isNumberOf_0 : decode cX0_isNumberOf 0 = .ok (.iload_n 0, 1) := by decide +kernel
theorem dX0_isNumberOf_1 : decode cX0_isNumberOf 1 = .ok (.ifCond .ne 23, 3) := by decide +kernel
theorem dX0_isNumberOf_4 : decode cX0_isNumberOf 4 = .ok (.lload_n 1, 1) := by decide +kernel
theorem dX0_isNumberOf_5 : decode cX0_isNumberOf 5 = .ok (.lconst 0, 1) := by decide +kernel
theorem dX0_isNumberOf_6 : decode cX0_isNumberOf 6 = .ok (.lcmp, 1) := by decide +kernel
theorem dX0_isNumberOf_7 : decode cX0_isNumberOf 7 = .ok (.ifCond .lt 15, 3) := by decide +kernel
theorem dX0_isNumberOf_10 : decode cX0_isNumberOf 10 = .ok (.lload_n 1, 1) := by decide +kernel
theorem dX0_isNumberOf_11 : decode cX0_isNumberOf 11 = .ok (.ldc2_w 67, 3) := by decide +kernel
theorem dX0_isNumberOf_14 : decode cX0_isNumberOf 14 = .ok (.lcmp, 1) := by decide +kernel
theorem dX0_isNumberOf_15 : decode cX0_isNumberOf 15 = .ok (.ifCond .gt 7, 3) := by decide +kernel
theorem dX0_isNumberOf_18 : decode cX0_isNumberOf 18 = .ok (.iconst 1, 1) := by decide +kernel
theorem dX0_isNumberOf_19 : decode cX0_isNumberOf 19 = .ok (.goto 4, 3) := by decide +kernel
theorem dX0_isNumberOf_22 : decode cX0_isNumberOf 22 = .ok (.iconst 0, 1) := by decide +kernel
theorem dX0_isNumberOf_23 : decode cX0_isNumberOf 23 = .ok (.ireturn, 1) := by decide +kernel
theorem dX0_isNumberOf_24 : decode cX0_isNumberOf 24 = .ok (.iload_n 0, 1) := by decide +kernel
theorem dX0_isNumberOf_25 : decode cX0_isNumberOf 25 = .ok (.iconst 1, 1) := by decide +kernel
theorem dX0_isNumberOf_26 : decode cX0_isNumberOf 26 = .ok (.if_icmp .ne 25, 3) := by decide +kernel
theorem dX0_isNumberOf_29 : decode cX0_isNumberOf 29 = .ok (.lload_n 1, 1) := by decide +kernel
theorem dX0_isNumberOf_30 : decode cX0_isNumberOf 30 = .ok (.ldc2_w 69, 3) := by decide +kernel
theorem dX0_isNumberOf_33 : decode cX0_isNumberOf 33 = .ok (.lcmp, 1) := by decide +kernel
theorem dX0_isNumberOf_34 : decode cX0_isNumberOf 34 = .ok (.ifCond .lt 15, 3) := by decide +kernel
theorem dX0_isNumberOf_37 : decode cX0_isNumberOf 37 = .ok (.lload_n 1, 1) := by decide +kernel
theorem dX0_isNumberOf_38 : decode cX0_isNumberOf 38 = .ok (.ldc2_w 71, 3) := by decide +kernel
theorem dX0_isNumberOf_41 : decode cX0_isNumberOf 41 = .ok (.lcmp, 1) := by decide +kernel
theorem dX0_isNumberOf_42 : decode cX0_isNumberOf 42 = .ok (.ifCond .gt 7, 3) := by decide +kernel
theorem dX0_isNumberOf_45 : decode cX0_isNumberOf 45 = .ok (.iconst 1, 1) := by decide +kernel
theorem dX0_isNumberOf_46 : decode cX0_isNumberOf 46 = .ok (.goto 4, 3) := by decide +kernel
theorem dX0_isNumberOf_49 : decode cX0_isNumberOf 49 = .ok (.iconst 0, 1) := by decide +kernel
theorem dX0_isNumberOf_50 : decode cX0_isNumberOf 50 = .ok (.ireturn, 1) := by decide +kernel
theorem dX0_isNumberOf_51 : decode cX0_isNumberOf 51 = .ok (.iconst 1, 1) := by decide +kernel
theorem dX0_isNumberOf_52 : decode cX0_isNumberOf 52 = .ok (.ireturn, 1) := by decide +kernel
theorem dX0_groupsNeeded_0 : decode cX0_groupsNeeded 0 = .ok (.iload_n 0, 1) := by decide +kernel
theorem dX0_groupsNeeded_1 : decode cX0_groupsNeeded 1 = .ok (.invokestatic 35, 3) := by decide +kernel
theorem dX0_groupsNeeded_4 : decode cX0_groupsNeeded 4 = .ok (.istore_n 3, 1) := by decide +kernel
theorem dX0_groupsNeeded_5 : decode cX0_groupsNeeded 5 = .ok (.iconst 1, 1) := by decide +kernel
theorem dX0_groupsNeeded_6 : decode cX0_groupsNeeded 6 = .ok (.istore 4, 2) := by decide +kernel
theorem dX0_groupsNeeded_8 : decode cX0_groupsNeeded 8 = .ok (.iload 4, 2) := by decide +kernel
theorem dX0_groupsNeeded_10 : decode cX0_groupsNeeded 10 = .ok (.iload_n 3, 1) := by decide +kernel
theorem dX0_groupsNeeded_11 : decode cX0_groupsNeeded 11 = .ok (.if_icmp .ge 22, 3) := by decide +kernel
theorem dX0_groupsNeeded_14 : decode cX0_groupsNeeded 14 = .ok (.iload_n 0, 1) := by decide +kernel
theorem dX0_groupsNeeded_15 : decode cX0_groupsNeeded 15 = .ok (.lload_n 1, 1) := by decide +kernel
theorem dX0_groupsNeeded_16 : decode cX0_groupsNeeded 16 = .ok (.iload 4, 2) := by decide +kernel
theorem dX0_groupsNeeded_18 : decode cX0_groupsNeeded 18 = .ok (.invokestatic 73, 3) := by decide +kernel
theorem dX0_groupsNeeded_21 : decode cX0_groupsNeeded 21 = .ok (.ifCond .eq 6, 3) := by decide +kernel
theorem dX0_groupsNeeded_24 : decode cX0_groupsNeeded 24 = .ok (.iload 4, 2) := by decide +kernel
theorem dX0_groupsNeeded_26 : decode cX0_groupsNeeded 26 = .ok (.ireturn, 1) := by decide +kernel
theorem dX0_groupsNeeded_27 : decode cX0_groupsNeeded 27 = .ok (.iinc 4 1, 3) := by decide +kernel
theorem dX0_groupsNeeded_30 : decode cX0_groupsNeeded 30 = .ok (.goto (-22), 3) := by decide +kernel
theorem dX0_groupsNeeded_33 : decode cX0_groupsNeeded 33 = .ok (.iload_n 3, 1) := by decide +kernel
theorem dX0_groupsNeeded_34 : decode cX0_groupsNeeded 34 = .ok (.ireturn, 1) := by decide +kernel
theorem dX0_fitsGroups_0 : decode cX0_fitsGroups 0 = .ok (.iload_n 0, 1) := by decide +kernel
theorem dX0_fitsGroups_1 : decode cX0_fitsGroups 1 = .ok (.ifCond .ne 20, 3) := by decide +kernel
theorem dX0_fitsGroups_4 : decode cX0_fitsGroups 4 = .ok (.lload_n 1, 1) := by decide +kernel
theorem dX0_fitsGroups_5 : decode cX0_fitsGroups 5 = .ok (.bipush 7, 2) := by decide +kernel
theorem dX0_fitsGroups_7 : decode cX0_fitsGroups 7 = .ok (.iload_n 3, 1) := by decide +kernel
theorem dX0_fitsGroups_8 : decode cX0_fitsGroups 8 = .ok (.imul, 1) := by decide +kernel
theorem dX0_fitsGroups_9 : decode cX0_fitsGroups 9 = .ok (.lshr, 1) := by decide +kernel
theorem dX0_fitsGroups_10 : decode cX0_fitsGroups 10 = .ok (.lconst 0, 1) := by decide +kernel
theorem dX0_fitsGroups_11 : decode cX0_fitsGroups 11 = .ok (.lcmp, 1) := by decide +kernel
theorem dX0_fitsGroups_12 : decode cX0_fitsGroups 12 = .ok (.ifCond .ne 7, 3) := by decide +kernel
theorem dX0_fitsGroups_15 : decode cX0_fitsGroups 15 = .ok (.iconst 1, 1) := by decide +kernel
theorem dX0_fitsGroups_16 : decode cX0_fitsGroups 16 = .ok (.goto 4, 3) := by decide +kernel
theorem dX0_fitsGroups_19 : decode cX0_fitsGroups 19 = .ok (.iconst 0, 1) := by decide +kernel
theorem dX0_fitsGroups_20 : decode cX0_fitsGroups 20 = .ok (.ireturn, 1) := by decide +kernel
theorem dX0_fitsGroups_21 : decode cX0_fitsGroups 21 = .ok (.lload_n 1, 1) := by decide +kernel
theorem dX0_fitsGroups_22 : decode cX0_fitsGroups 22 = .ok (.bipush 7, 2) := by decide +kernel
theorem dX0_fitsGroups_24 : decode cX0_fitsGroups 24 = .ok (.iload_n 3, 1) := by decide +kernel
theorem dX0_fitsGroups_25 : decode cX0_fitsGroups 25 = .ok (.imul, 1) := by decide +kernel
theorem dX0_fitsGroups_26 : decode cX0_fitsGroups 26 = .ok (.iconst 1, 1) := by decide +kernel
theorem dX0_fitsGroups_27 : decode cX0_fitsGroups 27 = .ok (.isub, 1) := by decide +kernel
theorem dX0_fitsGroups_28 : decode cX0_fitsGroups 28 = .ok (.lshr, 1) := by decide +kernel
theorem dX0_fitsGroups_29 : decode cX0_fitsGroups 29 = .ok (.lstore 4, 2) := by decide +kernel
theorem dX0_fitsGroups_31 : decode cX0_fitsGroups 31 = .ok (.lload 4, 2) := by decide +kernel
theorem dX0_fitsGroups_33 : decode cX0_fitsGroups 33 = .ok (.lconst 0, 1) := by decide +kernel
theorem dX0_fitsGroups_34 : decode cX0_fitsGroups 34 = .ok (.lcmp, 1) := by decide +kernel
theorem dX0_fitsGroups_35 : decode cX0_fitsGroups 35 = .ok (.ifCond .eq 12, 3) := by decide +kernel
theorem dX0_fitsGroups_38 : decode cX0_fitsGroups 38 = .ok (.lload 4, 2) := by decide +kernel
theorem dX0_fitsGroups_40 : decode cX0_fitsGroups 40 = .ok (.ldc2_w 77, 3) := by decide +kernel
theorem dX0_fitsGroups_43 : decode cX0_fitsGroups 43 = .ok (.lcmp, 1) := by decide +kernel
theorem dX0_fitsGroups_44 : decode cX0_fitsGroups 44 = .ok (.ifCond .ne 7, 3) := by decide +kernel
theorem dX0_fitsGroups_47 : decode cX0_fitsGroups 47 = .ok (.iconst 1, 1) := by decide +kernel
theorem dX0_fitsGroups_48 : decode cX0_fitsGroups 48 = .ok (.goto 4, 3) := by decide +kernel
theorem dX0_fitsGroups_51 : decode cX0_fitsGroups 51 = .ok (.iconst 0, 1) := by decide +kernel
theorem dX0_fitsGroups_52 : decode cX0_fitsGroups 52 = .ok (.ireturn, 1) := by decide +kernel
theorem dX0_extendSign_0 : decode cX0_extendSign 0 = .ok (.bipush 7, 2) := by decide +kernel
theorem dX0_extendSign_2 : decode cX0_extendSign 2 = .ok (.iload_n 3, 1) := by decide +kernel
theorem dX0_extendSign_3 : decode cX0_extendSign 3 = .ok (.imul, 1) := by decide +kernel
theorem dX0_extendSign_4 : decode cX0_extendSign 4 = .ok (.istore 4, 2) := by decide +kernel
theorem dX0_extendSign_6 : decode cX0_extendSign 6 = .ok (.iload_n 2, 1) := by decide +kernel
theorem dX0_extendSign_7 : decode cX0_extendSign 7 = .ok (.bipush 64, 2) := by decide +kernel
theorem dX0_extendSign_9 : decode cX0_extendSign 9 = .ok (.iand, 1) := by decide +kernel
theorem dX0_extendSign_10 : decode cX0_extendSign 10 = .ok (.ifCond .eq 10, 3) := by decide +kernel
theorem dX0_extendSign_13 : decode cX0_extendSign 13 = .ok (.iload 4, 2) := by decide +kernel
theorem dX0_extendSign_15 : decode cX0_extendSign 15 = .ok (.bipush 64, 2) := by decide +kernel
theorem dX0_extendSign_17 : decode cX0_extendSign 17 = .ok (.if_icmp .lt 5, 3) := by decide +kernel
theorem dX0_extendSign_20 : decode cX0_extendSign 20 = .ok (.lload_n 0, 1) := by decide +kernel
theorem dX0_extendSign_21 : decode cX0_extendSign 21 = .ok (.lreturn, 1) := by decide +kernel
theorem dX0_extendSign_22 : decode cX0_extendSign 22 = .ok (.lload_n 0, 1) := by decide +kernel
theorem dX0_extendSign_23 : decode cX0_extendSign 23 = .ok (.ldc2_w 77, 3) := by decide +kernel
theorem dX0_extendSign_26 : decode cX0_extendSign 26 = .ok (.iload 4, 2) := by decide +kernel
theorem dX0_extendSign_28 : decode cX0_extendSign 28 = .ok (.lshl, 1) := by decide +kernel
theorem dX0_extendSign_29 : decode cX0_extendSign 29 = .ok (.lor, 1) := by decide +kernel
theorem dX0_extendSign_30 : decode cX0_extendSign 30 = .ok (.lreturn, 1) := by decide +kernel
theorem dX0_countGroups_0 : decode cX0_countGroups 0 = .ok (.iload_n 2, 1) := by decide +kernel
theorem dX0_countGroups_1 : decode cX0_countGroups 1 = .ok (.aload_n 0, 1) := by decide +kernel
theorem dX0_countGroups_2 : decode cX0_countGroups 2 = .ok (.getfield 13, 3) := by decide +kernel
theorem dX0_countGroups_5 : decode cX0_countGroups 5 = .ok (.iload_n 1, 1) := by decide +kernel
theorem dX0_countGroups_6 : decode cX0_countGroups 6 = .ok (.isub, 1) := by decide +kernel
theorem dX0_countGroups_7 : decode cX0_countGroups 7 = .ok (.invokestatic 79, 3) := by decide +kernel
theorem dX0_countGroups_10 : decode cX0_countGroups 10 = .ok (.istore_n 3, 1) := by decide +kernel
theorem dX0_countGroups_11 : decode cX0_countGroups 11 = .ok (.iconst 0, 1) := by decide +kernel
theorem dX0_countGroups_12 : decode cX0_countGroups 12 = .ok (.istore 4, 2) := by decide +kernel
theorem dX0_countGroups_14 : decode cX0_countGroups 14 = .ok (.iload 4, 2) := by decide +kernel
theorem dX0_countGroups_16 : decode cX0_countGroups 16 = .ok (.iload_n 3, 1) := by decide +kernel
theorem dX0_countGroups_17 : decode cX0_countGroups 17 = .ok (.if_icmp .ge 29, 3) := by decide +kernel
theorem dX0_countGroups_20 : decode cX0_countGroups 20 = .ok (.aload_n 0, 1) := by decide +kernel
theorem dX0_countGroups_21 : decode cX0_countGroups 21 = .ok (.getfield 9, 3) := by decide +kernel
theorem dX0_countGroups_24 : decode cX0_countGroups 24 = .ok (.iload_n 1, 1) := by decide +kernel
theorem dX0_countGroups_25 : decode cX0_countGroups 25 = .ok (.iload 4, 2) := by decide +kernel
theorem dX0_countGroups_27 : decode cX0_countGroups 27 = .ok (.iadd, 1) := by decide +kernel
theorem dX0_countGroups_28 : decode cX0_countGroups 28 = .ok (.iaload, 1) := by decide +kernel
theorem dX0_countGroups_29 : decode cX0_countGroups 29 = .ok (.sipush 128, 3) := by decide +kernel
theorem dX0_countGroups_32 : decode cX0_countGroups 32 = .ok (.if_icmp .ge 8, 3) := by decide +kernel
theorem dX0_countGroups_35 : decode cX0_countGroups 35 = .ok (.iload 4, 2) := by decide +kernel
theorem dX0_countGroups_37 : decode cX0_countGroups 37 = .ok (.iconst 1, 1) := by decide +kernel
theorem dX0_countGroups_38 : decode cX0_countGroups 38 = .ok (.iadd, 1) := by decide +kernel
theorem dX0_countGroups_39 : decode cX0_countGroups 39 = .ok (.ireturn, 1) := by decide +kernel
theorem dX0_countGroups_40 : decode cX0_countGroups 40 = .ok (.iinc 4 1, 3) := by decide +kernel
theorem dX0_countGroups_43 : decode cX0_countGroups 43 = .ok (.goto (-29), 3) := by decide +kernel
theorem dX0_countGroups_46 : decode cX0_countGroups 46 = .ok (.iconst 0, 1) := by decide +kernel
theorem dX0_countGroups_47 : decode cX0_countGroups 47 = .ok (.ireturn, 1) := by decide +kernel
theorem dX0_joinGroups_0 : decode cX0_joinGroups 0 = .ok (.lconst 0, 1) := by decide +kernel
theorem dX0_joinGroups_1 : decode cX0_joinGroups 1 = .ok (.lstore_n 3, 1) := by decide +kernel
theorem dX0_joinGroups_2 : decode cX0_joinGroups 2 = .ok (.iconst 0, 1) := by decide +kernel
theorem dX0_joinGroups_3 : decode cX0_joinGroups 3 = .ok (.istore 5, 2) := by decide +kernel
theorem dX0_joinGroups_5 : decode cX0_joinGroups 5 = .ok (.iload 5, 2) := by decide +kernel
theorem dX0_joinGroups_7 : decode cX0_joinGroups 7 = .ok (.iload_n 2, 1) := by decide +kernel
theorem dX0_joinGroups_8 : decode cX0_joinGroups 8 = .ok (.if_icmp .ge 35, 3) := by decide +kernel
theorem dX0_joinGroups_11 : decode cX0_joinGroups 11 = .ok (.aload_n 0, 1) := by decide +kernel
theorem dX0_joinGroups_12 : decode cX0_joinGroups 12 = .ok (.getfield 9, 3) := by decide +kernel
theorem dX0_joinGroups_15 : decode cX0_joinGroups 15 = .ok (.iload_n 1, 1) := by decide +kernel
theorem dX0_joinGroups_16 : decode cX0_joinGroups 16 = .ok (.iload 5, 2) := by decide +kernel
theorem dX0_joinGroups_18 : decode cX0_joinGroups 18 = .ok (.iadd, 1) := by decide +kernel
theorem dX0_joinGroups_19 : decode cX0_joinGroups 19 = .ok (.iaload, 1) := by decide +kernel
theorem dX0_joinGroups_20 : decode cX0_joinGroups 20 = .ok (.bipush 127, 2) := by decide +kernel
theorem dX0_joinGroups_22 : decode cX0_joinGroups 22 = .ok (.iand, 1) := by decide +kernel
theorem dX0_joinGroups_23 : decode cX0_joinGroups 23 = .ok (.i2l, 1) := by decide +kernel
theorem dX0_joinGroups_24 : decode cX0_joinGroups 24 = .ok (.lstore 6, 2) := by decide +kernel
theorem dX0_joinGroups_26 : decode cX0_joinGroups 26 = .ok (.lload_n 3, 1) := by decide +kernel
theorem dX0_joinGroups_27 : decode cX0_joinGroups 27 = .ok (.lload 6, 2) := by decide +kernel
theorem dX0_joinGroups_29 : decode cX0_joinGroups 29 = .ok (.bipush 7, 2) := by decide +kernel
theorem dX0_joinGroups_31 : decode cX0_joinGroups 31 = .ok (.iload 5, 2) := by decide +kernel
theorem dX0_joinGroups_33 : decode cX0_joinGroups 33 = .ok (.imul, 1) := by decide +kernel
theorem dX0_joinGroups_34 : decode cX0_joinGroups 34 = .ok (.lshl, 1) := by decide +kernel
theorem dX0_joinGroups_35 : decode cX0_joinGroups 35 = .ok (.lor, 1) := by decide +kernel
theorem dX0_joinGroups_36 : decode cX0_joinGroups 36 = .ok (.lstore_n 3, 1) := by decide +kernel
theorem dX0_joinGroups_37 : decode cX0_joinGroups 37 = .ok (.iinc 5 1, 3) := by decide +kernel
theorem dX0_joinGroups_40 : decode cX0_joinGroups 40 = .ok (.goto (-35), 3) := by decide +kernel
theorem dX0_joinGroups_43 : decode cX0_joinGroups 43 = .ok (.lload_n 3, 1) := by decide +kernel
theorem dX0_joinGroups_44 : decode cX0_joinGroups 44 = .ok (.lreturn, 1) := by decide +kernel
theorem dX0_appendToRow_0 : decode cX0_appendToRow 0 = .ok (.iconst 0, 1) := by decide +kernel
theorem dX0_appendToRow_1 : decode cX0_appendToRow 1 = .ok (.istore_n 2, 1) := by decide +kernel
theorem dX0_appendToRow_2 : decode cX0_appendToRow 2 = .ok (.iload_n 2, 1) := by decide +kernel
theorem dX0_appendToRow_3 : decode cX0_appendToRow 3 = .ok (.iconst 4, 1) := by decide +kernel
theorem dX0_appendToRow_4 : decode cX0_appendToRow 4 = .ok (.if_icmp .ge 41, 3) := by decide +kernel
theorem dX0_appendToRow_7 : decode cX0_appendToRow 7 = .ok (.aload_n 0, 1) := by decide +kernel
theorem dX0_appendToRow_8 : decode cX0_appendToRow 8 = .ok (.getfield 9, 3) := by decide +kernel
theorem dX0_appendToRow_11 : decode cX0_appendToRow 11 = .ok (.aload_n 0, 1) := by decide +kernel
theorem dX0_appendToRow_12 : decode cX0_appendToRow 12 = .ok (.getfield 13, 3) := by decide +kernel
theorem dX0_appendToRow_15 : decode cX0_appendToRow 15 = .ok (.iload_n 1, 1) := by decide +kernel
theorem dX0_appendToRow_16 : decode cX0_appendToRow 16 = .ok (.bipush 24, 2) := by decide +kernel
theorem dX0_appendToRow_18 : decode cX0_appendToRow 18 = .ok (.bipush 8, 2) := by decide +kernel
theorem dX0_appendToRow_20 : decode cX0_appendToRow 20 = .ok (.iload_n 2, 1) := by decide +kernel
theorem dX0_appendToRow_21 : decode cX0_appendToRow 21 = .ok (.imul, 1) := by decide +kernel
theorem dX0_appendToRow_22 : decode cX0_appendToRow 22 = .ok (.isub, 1) := by decide +kernel
theorem dX0_appendToRow_23 : decode cX0_appendToRow 23 = .ok (.iushr, 1) := by decide +kernel
theorem dX0_appendToRow_24 : decode cX0_appendToRow 24 = .ok (.sipush 255, 3) := by decide +kernel
theorem dX0_appendToRow_27 : decode cX0_appendToRow 27 = .ok (.iand, 1) := by decide +kernel
theorem dX0_appendToRow_28 : decode cX0_appendToRow 28 = .ok (.iastore, 1) := by decide +kernel
theorem dX0_appendToRow_29 : decode cX0_appendToRow 29 = .ok (.aload_n 0, 1) := by decide +kernel
theorem dX0_appendToRow_30 : decode cX0_appendToRow 30 = .ok (.dup, 1) := by decide +kernel
theorem dX0_appendToRow_31 : decode cX0_appendToRow 31 = .ok (.getfield 13, 3) := by decide +kernel
theorem dX0_appendToRow_34 : decode cX0_appendToRow 34 = .ok (.iconst 1, 1) := by decide +kernel
theorem dX0_appendToRow_35 : decode cX0_appendToRow 35 = .ok (.iadd, 1) := by decide +kernel
theorem dX0_appendToRow_36 : decode cX0_appendToRow 36 = .ok (.putfield 13, 3) := by decide +kernel
theorem dX0_appendToRow_39 : decode cX0_appendToRow 39 = .ok (.iinc 2 1, 3) := by decide +kernel
theorem dX0_appendToRow_42 : decode cX0_appendToRow 42 = .ok (.goto (-40), 3) := by decide +kernel
theorem dX0_appendToRow_45 : decode cX0_appendToRow 45 = .ok (.return_, 1) := by decide +kernel
theorem dX0_appendToOutput_0 : decode cX0_appendToOutput 0 = .ok (.iconst 0, 1) := by decide +kernel
theorem dX0_appendToOutput_1 : decode cX0_appendToOutput 1 = .ok (.istore 4, 2) := by decide +kernel
theorem dX0_appendToOutput_3 : decode cX0_appendToOutput 3 = .ok (.iload 4, 2) := by decide +kernel
theorem dX0_appendToOutput_5 : decode cX0_appendToOutput 5 = .ok (.iload_n 3, 1) := by decide +kernel
theorem dX0_appendToOutput_6 : decode cX0_appendToOutput 6 = .ok (.if_icmp .ge 60, 3) := by decide +kernel
theorem dX0_appendToOutput_9 : decode cX0_appendToOutput 9 = .ok (.lload_n 1, 1) := by decide +kernel
theorem dX0_appendToOutput_10 : decode cX0_appendToOutput 10 = .ok (.bipush 7, 2) := by decide +kernel
theorem dX0_appendToOutput_12 : decode cX0_appendToOutput 12 = .ok (.iload 4, 2) := by decide +kernel
theorem dX0_appendToOutput_14 : decode cX0_appendToOutput 14 = .ok (.imul, 1) := by decide +kernel
theorem dX0_appendToOutput_15 : decode cX0_appendToOutput 15 = .ok (.lshr, 1) := by decide +kernel
theorem dX0_appendToOutput_16 : decode cX0_appendToOutput 16 = .ok (.l2i, 1) := by decide +kernel
theorem dX0_appendToOutput_17 : decode cX0_appendToOutput 17 = .ok (.bipush 127, 2) := by decide +kernel
theorem dX0_appendToOutput_19 : decode cX0_appendToOutput 19 = .ok (.iand, 1) := by decide +kernel
theorem dX0_appendToOutput_20 : decode cX0_appendToOutput 20 = .ok (.istore 5, 2) := by decide +kernel
theorem dX0_appendToOutput_22 : decode cX0_appendToOutput 22 = .ok (.aload_n 0, 1) := by decide +kernel
theorem dX0_appendToOutput_23 : decode cX0_appendToOutput 23 = .ok (.getfield 17, 3) := by decide +kernel
theorem dX0_appendToOutput_26 : decode cX0_appendToOutput 26 = .ok (.aload_n 0, 1) := by decide +kernel
theorem dX0_appendToOutput_27 : decode cX0_appendToOutput 27 = .ok (.getfield 20, 3) := by decide +kernel
theorem dX0_appendToOutput_30 : decode cX0_appendToOutput 30 = .ok (.iload 4, 2) := by decide +kernel
theorem dX0_appendToOutput_32 : decode cX0_appendToOutput 32 = .ok (.iload_n 3, 1) := by decide +kernel
theorem dX0_appendToOutput_33 : decode cX0_appendToOutput 33 = .ok (.iconst 1, 1) := by decide +kernel
theorem dX0_appendToOutput_34 : decode cX0_appendToOutput 34 = .ok (.isub, 1) := by decide +kernel
theorem dX0_appendToOutput_35 : decode cX0_appendToOutput 35 = .ok (.if_icmp .ge 12, 3) := by decide +kernel
theorem dX0_appendToOutput_38 : decode cX0_appendToOutput 38 = .ok (.iload 5, 2) := by decide +kernel
theorem dX0_appendToOutput_40 : decode cX0_appendToOutput 40 = .ok (.sipush 128, 3) := by decide +kernel
theorem dX0_appendToOutput_43 : decode cX0_appendToOutput 43 = .ok (.iadd, 1) := by decide +kernel
theorem dX0_appendToOutput_44 : decode cX0_appendToOutput 44 = .ok (.goto 5, 3) := by decide +kernel
theorem dX0_appendToOutput_47 : decode cX0_appendToOutput 47 = .ok (.iload 5, 2) := by decide +kernel
theorem dX0_appendToOutput_49 : decode cX0_appendToOutput 49 = .ok (.iastore, 1) := by decide +kernel
theorem dX0_appendToOutput_50 : decode cX0_appendToOutput 50 = .ok (.aload_n 0, 1) := by decide +kernel
theorem dX0_appendToOutput_51 : decode cX0_appendToOutput 51 = .ok (.dup, 1) := by decide +kernel
theorem dX0_appendToOutput_52 : decode cX0_appendToOutput 52 = .ok (.getfield 20, 3) := by decide +kernel
theorem dX0_appendToOutput_55 : decode cX0_appendToOutput 55 = .ok (.iconst 1, 1) := by decide +kernel
theorem dX0_appendToOutput_56 : decode cX0_appendToOutput 56 = .ok (.iadd, 1) := by decide +kernel
theorem dX0_appendToOutput_57 : decode cX0_appendToOutput 57 = .ok (.putfield 20, 3) := by decide +kernel
theorem dX0_appendToOutput_60 : decode cX0_appendToOutput 60 = .ok (.iinc 4 1, 3) := by decide +kernel
theorem dX0_appendToOutput_63 : decode cX0_appendToOutput 63 = .ok (.goto (-60), 3) := by decide +kernel
theorem dX0_appendToOutput_66 : decode cX0_appendToOutput 66 = .ok (.return_, 1) := by decide +kernel
theorem dX1_init_0 : decode cX1_init 0 = .ok (.aload_n 0, 1) := by decide +kernel
theorem dX1_init_1 : decode cX1_init 1 = .ok (.invokespecial 1, 3) := by decide +kernel
theorem dX1_init_4 : decode cX1_init 4 = .ok (.aload_n 0, 1) := by decide +kernel
theorem dX1_init_5 : decode cX1_init 5 = .ok (.sipush 1000, 3) := by decide +kernel
theorem dX1_init_8 : decode cX1_init 8 = .ok (.newarray .byte, 2) := by decide +kernel
theorem dX1_init_10 : decode cX1_init 10 = .ok (.putfield 9, 3) := by decide +kernel
theorem dX1_init_13 : decode cX1_init 13 = .ok (.aload_n 0, 1) := by decide +kernel
theorem dX1_init_14 : decode cX1_init 14 = .ok (.sipush 1000, 3) := by decide +kernel
theorem dX1_init_17 : decode cX1_init 17 = .ok (.newarray .byte, 2) := by decide +kernel
theorem dX1_init_19 : decode cX1_init 19 = .ok (.putfield 13, 3) := by decide +kernel
theorem dX1_init_22 : decode cX1_init 22 = .ok (.return_, 1) := by decide +kernel
theorem dX1_feed_0 : decode cX1_feed 0 = .ok (.aload_n 0, 1) := by decide +kernel
theorem dX1_feed_1 : decode cX1_feed 1 = .ok (.getfield 16, 3) := by decide +kernel
theorem dX1_feed_4 : decode cX1_feed 4 = .ok (.bipush 20, 2) := by decide +kernel
theorem dX1_feed_6 : decode cX1_feed 6 = .ok (.iadd, 1) := by decide +kernel
theorem dX1_feed_7 : decode cX1_feed 7 = .ok (.sipush 1000, 3) := by decide +kernel
theorem dX1_feed_10 : decode cX1_feed 10 = .ok (.if_icmp .le 5, 3) := by decide +kernel
theorem dX1_feed_13 : decode cX1_feed 13 = .ok (.iconst (-1), 1) := by decide +kernel
theorem dX1_feed_14 : decode cX1_feed 14 = .ok (.ireturn, 1) := by decide +kernel
theorem dX1_feed_15 : decode cX1_feed 15 = .ok (.aload_n 0, 1) := by decide +kernel
theorem dX1_feed_16 : decode cX1_feed 16 = .ok (.iload_n 1, 1) := by decide +kernel
theorem dX1_feed_17 : decode cX1_feed 17 = .ok (.invokevirtual 20, 3) := by decide +kernel
theorem dX1_feed_20 : decode cX1_feed 20 = .ok (.aload_n 0, 1) := by decide +kernel
theorem dX1_feed_21 : decode cX1_feed 21 = .ok (.iload_n 2, 1) := by decide +kernel
theorem dX1_feed_22 : decode cX1_feed 22 = .ok (.invokevirtual 20, 3) := by decide +kernel
theorem dX1_feed_25 : decode cX1_feed 25 = .ok (.aload_n 0, 1) := by decide +kernel
theorem dX1_feed_26 : decode cX1_feed 26 = .ok (.iload_n 3, 1) := by decide +kernel
theorem dX1_feed_27 : decode cX1_feed 27 = .ok (.invokevirtual 20, 3) := by decide +kernel
theorem dX1_feed_30 : decode cX1_feed 30 = .ok (.aload_n 0, 1) := by decide +kernel
theorem dX1_feed_31 : decode cX1_feed 31 = .ok (.iload 4, 2) := by decide +kernel
theorem dX1_feed_33 : decode cX1_feed 33 = .ok (.invokevirtual 20, 3) := by decide +kernel
theorem dX1_feed_36 : decode cX1_feed 36 = .ok (.aload_n 0, 1) := by decide +kernel
theorem dX1_feed_37 : decode cX1_feed 37 = .ok (.iload 5, 2) := by decide +kernel
theorem dX1_feed_39 : decode cX1_feed 39 = .ok (.invokevirtual 20, 3) := by decide +kernel
theorem dX1_feed_42 : decode cX1_feed 42 = .ok (.aload_n 0, 1) := by decide +kernel
theorem dX1_feed_43 : decode cX1_feed 43 = .ok (.getfield 16, 3) := by decide +kernel
theorem dX1_feed_46 : decode cX1_feed 46 = .ok (.ireturn, 1) := by decide +kernel
theorem dX1_word_0 : decode cX1_word 0 = .ok (.iconst 0, 1) := by decide +kernel
theorem dX1_word_1 : decode cX1_word 1 = .ok (.istore_n 2, 1) := by decide +kernel
theorem dX1_word_2 : decode cX1_word 2 = .ok (.iload_n 2, 1) := by decide +kernel
theorem dX1_word_3 : decode cX1_word 3 = .ok (.iconst 4, 1) := by decide +kernel
theorem dX1_word_4 : decode cX1_word 4 = .ok (.if_icmp .ge 38, 3) := by decide +kernel
theorem dX1_word_7 : decode cX1_word 7 = .ok (.aload_n 0, 1) := by decide +kernel
theorem dX1_word_8 : decode cX1_word 8 = .ok (.getfield 9, 3) := by decide +kernel
theorem dX1_word_11 : decode cX1_word 11 = .ok (.aload_n 0, 1) := by decide +kernel
theorem dX1_word_12 : decode cX1_word 12 = .ok (.getfield 16, 3) := by decide +kernel
theorem dX1_word_15 : decode cX1_word 15 = .ok (.iload_n 1, 1) := by decide +kernel
theorem dX1_word_16 : decode cX1_word 16 = .ok (.bipush 24, 2) := by decide +kernel
theorem dX1_word_18 : decode cX1_word 18 = .ok (.bipush 8, 2) := by decide +kernel
theorem dX1_word_20 : decode cX1_word 20 = .ok (.iload_n 2, 1) := by decide +kernel
theorem dX1_word_21 : decode cX1_word 21 = .ok (.imul, 1) := by decide +kernel
theorem dX1_word_22 : decode cX1_word 22 = .ok (.isub, 1) := by decide +kernel
theorem dX1_word_23 : decode cX1_word 23 = .ok (.ishr, 1) := by decide +kernel
theorem dX1_word_24 : decode cX1_word 24 = .ok (.i2b, 1) := by decide +kernel
theorem dX1_word_25 : decode cX1_word 25 = .ok (.bastore, 1) := by decide +kernel
theorem dX1_word_26 : decode cX1_word 26 = .ok (.aload_n 0, 1) := by decide +kernel
theorem dX1_word_27 : decode cX1_word 27 = .ok (.dup, 1) := by decide +kernel
theorem dX1_word_28 : decode cX1_word 28 = .ok (.getfield 16, 3) := by decide +kernel
theorem dX1_word_31 : decode cX1_word 31 = .ok (.iconst 1, 1) := by decide +kernel
theorem dX1_word_32 : decode cX1_word 32 = .ok (.iadd, 1) := by decide +kernel
theorem dX1_word_33 : decode cX1_word 33 = .ok (.putfield 16, 3) := by decide +kernel
theorem dX1_word_36 : decode cX1_word 36 = .ok (.iinc 2 1, 3) := by decide +kernel
theorem dX1_word_39 : decode cX1_word 39 = .ok (.goto (-37), 3) := by decide +kernel
theorem dX1_word_42 : decode cX1_word 42 = .ok (.return_, 1) := by decide +kernel
theorem dX1_end_0 : decode cX1_end 0 = .ok (.iload_n 1, 1) := by decide +kernel
theorem dX1_end_1 : decode cX1_end 1 = .ok (.ifCond .lt 11, 3) := by decide +kernel
theorem dX1_end_4 : decode cX1_end 4 = .ok (.iload_n 1, 1) := by decide +kernel
theorem dX1_end_5 : decode cX1_end 5 = .ok (.aload_n 0, 1) := by decide +kernel
theorem dX1_end_6 : decode cX1_end 6 = .ok (.getfield 16, 3) := by decide +kernel
theorem dX1_end_9 : decode cX1_end 9 = .ok (.if_icmp .le 5, 3) := by decide +kernel
theorem dX1_end_12 : decode cX1_end 12 = .ok (.iconst (-1), 1) := by decide +kernel
theorem dX1_end_13 : decode cX1_end 13 = .ok (.ireturn, 1) := by decide +kernel
theorem dX1_end_14 : decode cX1_end 14 = .ok (.aload_n 0, 1) := by decide +kernel
theorem dX1_end_15 : decode cX1_end 15 = .ok (.iload_n 1, 1) := by decide +kernel
theorem dX1_end_16 : decode cX1_end 16 = .ok (.putfield 16, 3) := by decide +kernel
theorem dX1_end_19 : decode cX1_end 19 = .ok (.iload_n 1, 1) := by decide +kernel
theorem dX1_end_20 : decode cX1_end 20 = .ok (.ireturn, 1) := by decide +kernel
theorem dX1_read_0 : decode cX1_read 0 = .ok (.iload_n 1, 1) := by decide +kernel
theorem dX1_read_1 : decode cX1_read 1 = .ok (.ifCond .lt 20, 3) := by decide +kernel
theorem dX1_read_4 : decode cX1_read 4 = .ok (.iload_n 1, 1) := by decide +kernel
theorem dX1_read_5 : decode cX1_read 5 = .ok (.iconst 2, 1) := by decide +kernel
theorem dX1_read_6 : decode cX1_read 6 = .ok (.if_icmp .gt 15, 3) := by decide +kernel
theorem dX1_read_9 : decode cX1_read 9 = .ok (.iload_n 2, 1) := by decide +kernel
theorem dX1_read_10 : decode cX1_read 10 = .ok (.ifCond .lt 11, 3) := by decide +kernel
theorem dX1_read_13 : decode cX1_read 13 = .ok (.iload_n 2, 1) := by decide +kernel
theorem dX1_read_14 : decode cX1_read 14 = .ok (.aload_n 0, 1) := by decide +kernel
theorem dX1_read_15 : decode cX1_read 15 = .ok (.getfield 16, 3) := by decide +kernel
theorem dX1_read_18 : decode cX1_read 18 = .ok (.if_icmp .le 6, 3) := by decide +kernel
theorem dX1_read_21 : decode cX1_read 21 = .ok (.bipush (-2), 2) := by decide +kernel
theorem dX1_read_23 : decode cX1_read 23 = .ok (.ireturn, 1) := by decide +kernel
theorem dX1_read_24 : decode cX1_read 24 = .ok (.iload_n 1, 1) := by decide +kernel
theorem dX1_read_25 : decode cX1_read 25 = .ok (.iconst 2, 1) := by decide +kernel
theorem dX1_read_26 : decode cX1_read 26 = .ok (.if_icmp .ne 8, 3) := by decide +kernel
theorem dX1_read_29 : decode cX1_read 29 = .ok (.bipush 10, 2) := by decide +kernel
theorem dX1_read_31 : decode cX1_read 31 = .ok (.goto 4, 3) := by decide +kernel
theorem dX1_read_34 : decode cX1_read 34 = .ok (.iconst 5, 1) := by decide +kernel
theorem dX1_read_35 : decode cX1_read 35 = .ok (.istore_n 3, 1) := by decide +kernel
theorem dX1_read_36 : decode cX1_read 36 = .ok (.iconst 0, 1) := by decide +kernel
theorem dX1_read_37 : decode cX1_read 37 = .ok (.istore 4, 2) := by decide +kernel
theorem dX1_read_39 : decode cX1_read 39 = .ok (.iload 4, 2) := by decide +kernel
theorem dX1_read_41 : decode cX1_read 41 = .ok (.iload_n 3, 1) := by decide +kernel
theorem dX1_read_42 : decode cX1_read 42 = .ok (.if_icmp .ge 32, 3) := by decide +kernel
theorem dX1_read_45 : decode cX1_read 45 = .ok (.iload_n 2, 1) := by decide +kernel
theorem dX1_read_46 : decode cX1_read 46 = .ok (.iload 4, 2) := by decide +kernel
theorem dX1_read_48 : decode cX1_read 48 = .ok (.iadd, 1) := by decide +kernel
theorem dX1_read_49 : decode cX1_read 49 = .ok (.aload_n 0, 1) := by decide +kernel
theorem dX1_read_50 : decode cX1_read 50 = .ok (.getfield 16, 3) := by decide +kernel
theorem dX1_read_53 : decode cX1_read 53 = .ok (.if_icmp .ge 21, 3) := by decide +kernel
theorem dX1_read_56 : decode cX1_read 56 = .ok (.aload_n 0, 1) := by decide +kernel
theorem dX1_read_57 : decode cX1_read 57 = .ok (.getfield 9, 3) := by decide +kernel
theorem dX1_read_60 : decode cX1_read 60 = .ok (.iload_n 2, 1) := by decide +kernel
theorem dX1_read_61 : decode cX1_read 61 = .ok (.iload 4, 2) := by decide +kernel
theorem dX1_read_63 : decode cX1_read 63 = .ok (.iadd, 1) := by decide +kernel
theorem dX1_read_64 : decode cX1_read 64 = .ok (.baload, 1) := by decide +kernel
theorem dX1_read_65 : decode cX1_read 65 = .ok (.ifCond .ge 9, 3) := by decide +kernel
theorem dX1_read_68 : decode cX1_read 68 = .ok (.iinc 4 1, 3) := by decide +kernel
theorem dX1_read_71 : decode cX1_read 71 = .ok (.goto (-32), 3) := by decide +kernel
theorem dX1_read_74 : decode cX1_read 74 = .ok (.iload 4, 2) := by decide +kernel
theorem dX1_read_76 : decode cX1_read 76 = .ok (.iload_n 3, 1) := by decide +kernel
theorem dX1_read_77 : decode cX1_read 77 = .ok (.if_icmp .eq 14, 3) := by decide +kernel
theorem dX1_read_80 : decode cX1_read 80 = .ok (.iload_n 2, 1) := by decide +kernel
theorem dX1_read_81 : decode cX1_read 81 = .ok (.iload 4, 2) := by decide +kernel
theorem dX1_read_83 : decode cX1_read 83 = .ok (.iadd, 1) := by decide +kernel
theorem dX1_read_84 : decode cX1_read 84 = .ok (.aload_n 0, 1) := by decide +kernel
theorem dX1_read_85 : decode cX1_read 85 = .ok (.getfield 16, 3) := by decide +kernel
theorem dX1_read_88 : decode cX1_read 88 = .ok (.if_icmp .lt 5, 3) := by decide +kernel
theorem dX1_read_91 : decode cX1_read 91 = .ok (.iconst (-1), 1) := by decide +kernel
theorem dX1_read_92 : decode cX1_read 92 = .ok (.ireturn, 1) := by decide +kernel
theorem dX1_read_93 : decode cX1_read 93 = .ok (.iinc 4 1, 3) := by decide +kernel
theorem dX1_read_96 : decode cX1_read 96 = .ok (.aload_n 0, 1) := by decide +kernel
theorem dX1_read_97 : decode cX1_read 97 = .ok (.getfield 9, 3) := by decide +kernel
theorem dX1_read_100 : decode cX1_read 100 = .ok (.iload_n 2, 1) := by decide +kernel
theorem dX1_read_101 : decode cX1_read 101 = .ok (.iload 4, 2) := by decide +kernel
theorem dX1_read_103 : decode cX1_read 103 = .ok (.iadd, 1) := by decide +kernel
theorem dX1_read_104 : decode cX1_read 104 = .ok (.iconst 1, 1) := by decide +kernel
theorem dX1_read_105 : decode cX1_read 105 = .ok (.isub, 1) := by decide +kernel
theorem dX1_read_106 : decode cX1_read 106 = .ok (.baload, 1) := by decide +kernel
theorem dX1_read_107 : decode cX1_read 107 = .ok (.istore 5, 2) := by decide +kernel
theorem dX1_read_109 : decode cX1_read 109 = .ok (.iload 4, 2) := by decide +kernel
theorem dX1_read_111 : decode cX1_read 111 = .ok (.iload_n 3, 1) := by decide +kernel
theorem dX1_read_112 : decode cX1_read 112 = .ok (.if_icmp .ne 16, 3) := by decide +kernel
theorem dX1_read_115 : decode cX1_read 115 = .ok (.iload_n 1, 1) := by decide +kernel
theorem dX1_read_116 : decode cX1_read 116 = .ok (.ifCond .ne 12, 3) := by decide +kernel
theorem dX1_read_119 : decode cX1_read 119 = .ok (.iload 5, 2) := by decide +kernel
theorem dX1_read_121 : decode cX1_read 121 = .ok (.bipush 15, 2) := by decide +kernel
theorem dX1_read_123 : decode cX1_read 123 = .ok (.if_icmp .le 5, 3) := by decide +kernel
theorem dX1_read_126 : decode cX1_read 126 = .ok (.iconst (-1), 1) := by decide +kernel
theorem dX1_read_127 : decode cX1_read 127 = .ok (.ireturn, 1) := by decide +kernel
theorem dX1_read_128 : decode cX1_read 128 = .ok (.iload 4, 2) := by decide +kernel
theorem dX1_read_130 : decode cX1_read 130 = .ok (.iload_n 3, 1) := by decide +kernel
theorem dX1_read_131 : decode cX1_read 131 = .ok (.if_icmp .ne 24, 3) := by decide +kernel
theorem dX1_read_134 : decode cX1_read 134 = .ok (.iload_n 1, 1) := by decide +kernel
theorem dX1_read_135 : decode cX1_read 135 = .ok (.iconst 1, 1) := by decide +kernel
theorem dX1_read_136 : decode cX1_read 136 = .ok (.if_icmp .ne 19, 3) := by decide +kernel
theorem dX1_read_139 : decode cX1_read 139 = .ok (.iload 5, 2) := by decide +kernel
theorem dX1_read_141 : decode cX1_read 141 = .ok (.bipush 7, 2) := by decide +kernel
theorem dX1_read_143 : decode cX1_read 143 = .ok (.if_icmp .le 12, 3) := by decide +kernel
theorem dX1_read_146 : decode cX1_read 146 = .ok (.iload 5, 2) := by decide +kernel
theorem dX1_read_148 : decode cX1_read 148 = .ok (.bipush 120, 2) := by decide +kernel
theorem dX1_read_150 : decode cX1_read 150 = .ok (.if_icmp .ge 5, 3) := by decide +kernel
theorem dX1_read_153 : decode cX1_read 153 = .ok (.iconst (-1), 1) := by decide +kernel
theorem dX1_read_154 : decode cX1_read 154 = .ok (.ireturn, 1) := by decide +kernel
theorem dX1_read_155 : decode cX1_read 155 = .ok (.iload 4, 2) := by decide +kernel
theorem dX1_read_157 : decode cX1_read 157 = .ok (.iload_n 3, 1) := by decide +kernel
theorem dX1_read_158 : decode cX1_read 158 = .ok (.if_icmp .ne 22, 3) := by decide +kernel
theorem dX1_read_161 : decode cX1_read 161 = .ok (.iload_n 1, 1) := by decide +kernel
theorem dX1_read_162 : decode cX1_read 162 = .ok (.iconst 2, 1) := by decide +kernel
theorem dX1_read_163 : decode cX1_read 163 = .ok (.if_icmp .ne 17, 3) := by decide +kernel
theorem dX1_read_166 : decode cX1_read 166 = .ok (.iload 5, 2) := by decide +kernel
theorem dX1_read_168 : decode cX1_read 168 = .ok (.ifCond .le 12, 3) := by decide +kernel
theorem dX1_read_171 : decode cX1_read 171 = .ok (.iload 5, 2) := by decide +kernel
theorem dX1_read_173 : decode cX1_read 173 = .ok (.bipush 127, 2) := by decide +kernel
theorem dX1_read_175 : decode cX1_read 175 = .ok (.if_icmp .ge 5, 3) := by decide +kernel
theorem dX1_read_178 : decode cX1_read 178 = .ok (.iconst (-1), 1) := by decide +kernel
theorem dX1_read_179 : decode cX1_read 179 = .ok (.ireturn, 1) := by decide +kernel
theorem dX1_read_180 : decode cX1_read 180 = .ok (.iload_n 1, 1) := by decide +kernel
theorem dX1_read_181 : decode cX1_read 181 = .ok (.ifCond .le 16, 3) := by decide +kernel
theorem dX1_read_184 : decode cX1_read 184 = .ok (.iload 5, 2) := by decide +kernel
theorem dX1_read_186 : decode cX1_read 186 = .ok (.bipush 63, 2) := by decide +kernel
theorem dX1_read_188 : decode cX1_read 188 = .ok (.if_icmp .le 9, 3) := by decide +kernel
theorem dX1_read_191 : decode cX1_read 191 = .ok (.ldc2_w 24, 3) := by decide +kernel
theorem dX1_read_194 : decode cX1_read 194 = .ok (.goto 4, 3) := by decide +kernel
theorem dX1_read_197 : decode cX1_read 197 = .ok (.lconst 0, 1) := by decide +kernel
theorem dX1_read_198 : decode cX1_read 198 = .ok (.lstore 6, 2) := by decide +kernel
theorem dX1_read_200 : decode cX1_read 200 = .ok (.iload 4, 2) := by decide +kernel
theorem dX1_read_202 : decode cX1_read 202 = .ok (.iconst 1, 1) := by decide +kernel
theorem dX1_read_203 : decode cX1_read 203 = .ok (.isub, 1) := by decide +kernel
theorem dX1_read_204 : decode cX1_read 204 = .ok (.istore 8, 2) := by decide +kernel
theorem dX1_read_206 : decode cX1_read 206 = .ok (.iload 8, 2) := by decide +kernel
theorem dX1_read_208 : decode cX1_read 208 = .ok (.ifCond .lt 30, 3) := by decide +kernel
theorem dX1_read_211 : decode cX1_read 211 = .ok (.lload 6, 2) := by decide +kernel
theorem dX1_read_213 : decode cX1_read 213 = .ok (.bipush 7, 2) := by decide +kernel
theorem dX1_read_215 : decode cX1_read 215 = .ok (.lshl, 1) := by decide +kernel
theorem dX1_read_216 : decode cX1_read 216 = .ok (.aload_n 0, 1) := by decide +kernel
theorem dX1_read_217 : decode cX1_read 217 = .ok (.getfield 9, 3) := by decide +kernel
theorem dX1_read_220 : decode cX1_read 220 = .ok (.iload_n 2, 1) := by decide +kernel
theorem dX1_read_221 : decode cX1_read 221 = .ok (.iload 8, 2) := by decide +kernel
theorem dX1_read_223 : decode cX1_read 223 = .ok (.iadd, 1) := by decide +kernel
theorem dX1_read_224 : decode cX1_read 224 = .ok (.baload, 1) := by decide +kernel
theorem dX1_read_225 : decode cX1_read 225 = .ok (.bipush 127, 2) := by decide +kernel
theorem dX1_read_227 : decode cX1_read 227 = .ok (.iand, 1) := by decide +kernel
theorem dX1_read_228 : decode cX1_read 228 = .ok (.i2l, 1) := by decide +kernel
theorem dX1_read_229 : decode cX1_read 229 = .ok (.lor, 1) := by decide +kernel
theorem dX1_read_230 : decode cX1_read 230 = .ok (.lstore 6, 2) := by decide +kernel
theorem dX1_read_232 : decode cX1_read 232 = .ok (.iinc 8 (-1), 3) := by decide +kernel
theorem dX1_read_235 : decode cX1_read 235 = .ok (.goto (-29), 3) := by decide +kernel
theorem dX1_read_238 : decode cX1_read 238 = .ok (.aload_n 0, 1) := by decide +kernel
theorem dX1_read_239 : decode cX1_read 239 = .ok (.iload_n 1, 1) := by decide +kernel
theorem dX1_read_240 : decode cX1_read 240 = .ok (.iconst 1, 1) := by decide +kernel
theorem dX1_read_241 : decode cX1_read 241 = .ok (.if_icmp .ne 10, 3) := by decide +kernel
theorem dX1_read_244 : decode cX1_read 244 = .ok (.lload 6, 2) := by decide +kernel
theorem dX1_read_246 : decode cX1_read 246 = .ok (.l2i, 1) := by decide +kernel
theorem dX1_read_247 : decode cX1_read 247 = .ok (.i2l, 1) := by decide +kernel
theorem dX1_read_248 : decode cX1_read 248 = .ok (.goto 5, 3) := by decide +kernel
theorem dX1_read_251 : decode cX1_read 251 = .ok (.lload 6, 2) := by decide +kernel
theorem dX1_read_253 : decode cX1_read 253 = .ok (.putfield 26, 3) := by decide +kernel
theorem dX1_read_256 : decode cX1_read 256 = .ok (.iload 4, 2) := by decide +kernel
theorem dX1_read_258 : decode cX1_read 258 = .ok (.ireturn, 1) := by decide +kernel
theorem dX1_value_0 : decode cX1_value 0 = .ok (.aload_n 0, 1) := by decide +kernel
theorem dX1_value_1 : decode cX1_value 1 = .ok (.getfield 26, 3) := by decide +kernel
theorem dX1_value_4 : decode cX1_value 4 = .ok (.lreturn, 1) := by decide +kernel
theorem dX1_isEnough_0 : decode cX1_isEnough 0 = .ok (.bipush 7, 2) := by decide +kernel
theorem dX1_isEnough_2 : decode cX1_isEnough 2 = .ok (.iload_n 3, 1) := by decide +kernel
theorem dX1_isEnough_3 : decode cX1_isEnough 3 = .ok (.imul, 1) := by decide +kernel
theorem dX1_isEnough_4 : decode cX1_isEnough 4 = .ok (.istore 4, 2) := by decide +kernel
theorem dX1_isEnough_6 : decode cX1_isEnough 6 = .ok (.iload 4, 2) := by decide +kernel
theorem dX1_isEnough_8 : decode cX1_isEnough 8 = .ok (.bipush 63, 2) := by decide +kernel
theorem dX1_isEnough_10 : decode cX1_isEnough 10 = .ok (.if_icmp .le 5, 3) := by decide +kernel
theorem dX1_isEnough_13 : decode cX1_isEnough 13 = .ok (.iconst 1, 1) := by decide +kernel
theorem dX1_isEnough_14 : decode cX1_isEnough 14 = .ok (.ireturn, 1) := by decide +kernel
theorem dX1_isEnough_15 : decode cX1_isEnough 15 = .ok (.iload_n 0, 1) := by decide +kernel
theorem dX1_isEnough_16 : decode cX1_isEnough 16 = .ok (.ifCond .ne 20, 3) := by decide +kernel
theorem dX1_isEnough_19 : decode cX1_isEnough 19 = .ok (.lload_n 1, 1) := by decide +kernel
theorem dX1_isEnough_20 : decode cX1_isEnough 20 = .ok (.iload 4, 2) := by decide +kernel
theorem dX1_isEnough_22 : decode cX1_isEnough 22 = .ok (.lshr, 1) := by decide +kernel
theorem dX1_isEnough_23 : decode cX1_isEnough 23 = .ok (.lconst 0, 1) := by decide +kernel
theorem dX1_isEnough_24 : decode cX1_isEnough 24 = .ok (.lcmp, 1) := by decide +kernel
theorem dX1_isEnough_25 : decode cX1_isEnough 25 = .ok (.ifCond .ne 7, 3) := by decide +kernel
theorem dX1_isEnough_28 : decode cX1_isEnough 28 = .ok (.iconst 1, 1) := by decide +kernel
theorem dX1_isEnough_29 : decode cX1_isEnough 29 = .ok (.goto 36, 3) := by decide +kernel
theorem dX1_isEnough_32 : decode cX1_isEnough 32 = .ok (.iconst 0, 1) := by decide +kernel
theorem dX1_isEnough_33 : decode cX1_isEnough 33 = .ok (.goto 32, 3) := by decide +kernel
theorem dX1_isEnough_36 : decode cX1_isEnough 36 = .ok (.lload_n 1, 1) := by decide +kernel
theorem dX1_isEnough_37 : decode cX1_isEnough 37 = .ok (.iload 4, 2) := by decide +kernel
theorem dX1_isEnough_39 : decode cX1_isEnough 39 = .ok (.iconst 1, 1) := by decide +kernel
theorem dX1_isEnough_40 : decode cX1_isEnough 40 = .ok (.isub, 1) := by decide +kernel
theorem dX1_isEnough_41 : decode cX1_isEnough 41 = .ok (.lshr, 1) := by decide +kernel
theorem dX1_isEnough_42 : decode cX1_isEnough 42 = .ok (.lconst 0, 1) := by decide +kernel
theorem dX1_isEnough_43 : decode cX1_isEnough 43 = .ok (.lcmp, 1) := by decide +kernel
theorem dX1_isEnough_44 : decode cX1_isEnough 44 = .ok (.ifCond .eq 16, 3) := by decide +kernel
theorem dX1_isEnough_47 : decode cX1_isEnough 47 = .ok (.lload_n 1, 1) := by decide +kernel
theorem dX1_isEnough_48 : decode cX1_isEnough 48 = .ok (.iload 4, 2) := by decide +kernel
theorem dX1_isEnough_50 : decode cX1_isEnough 50 = .ok (.iconst 1, 1) := by decide +kernel
theorem dX1_isEnough_51 : decode cX1_isEnough 51 = .ok (.isub, 1) := by decide +kernel
theorem dX1_isEnough_52 : decode cX1_isEnough 52 = .ok (.lshr, 1) := by decide +kernel
theorem dX1_isEnough_53 : decode cX1_isEnough 53 = .ok (.ldc2_w 24, 3) := by decide +kernel
theorem dX1_isEnough_56 : decode cX1_isEnough 56 = .ok (.lcmp, 1) := by decide +kernel
theorem dX1_isEnough_57 : decode cX1_isEnough 57 = .ok (.ifCond .ne 7, 3) := by decide +kernel
theorem dX1_isEnough_60 : decode cX1_isEnough 60 = .ok (.iconst 1, 1) := by decide +kernel
theorem dX1_isEnough_61 : decode cX1_isEnough 61 = .ok (.goto 4, 3) := by decide +kernel
theorem dX1_isEnough_64 : decode cX1_isEnough 64 = .ok (.iconst 0, 1) := by decide +kernel
theorem dX1_isEnough_65 : decode cX1_isEnough 65 = .ok (.ireturn, 1) := by decide +kernel
theorem dX1_write_0 : decode cX1_write 0 = .ok (.iload_n 1, 1) := by decide +kernel
theorem dX1_write_1 : decode cX1_write 1 = .ok (.ifCond .lt 8, 3) := by decide +kernel
theorem dX1_write_4 : decode cX1_write 4 = .ok (.iload_n 1, 1) := by decide +kernel
theorem dX1_write_5 : decode cX1_write 5 = .ok (.iconst 2, 1) := by decide +kernel
theorem dX1_write_6 : decode cX1_write 6 = .ok (.if_icmp .le 6, 3) := by decide +kernel
theorem dX1_write_9 : decode cX1_write 9 = .ok (.bipush (-2), 2) := by decide +kernel
theorem dX1_write_11 : decode cX1_write 11 = .ok (.ireturn, 1) := by decide +kernel
theorem dX1_write_12 : decode cX1_write 12 = .ok (.iload_n 1, 1) := by decide +kernel
theorem dX1_write_13 : decode cX1_write 13 = .ok (.ifCond .ne 17, 3) := by decide +kernel
theorem dX1_write_16 : decode cX1_write 16 = .ok (.lload_n 2, 1) := by decide +kernel
theorem dX1_write_17 : decode cX1_write 17 = .ok (.lconst 0, 1) := by decide +kernel
theorem dX1_write_18 : decode cX1_write 18 = .ok (.lcmp, 1) := by decide +kernel
theorem dX1_write_19 : decode cX1_write 19 = .ok (.ifCond .lt 24, 3) := by decide +kernel
theorem dX1_write_22 : decode cX1_write 22 = .ok (.lload_n 2, 1) := by decide +kernel
theorem dX1_write_23 : decode cX1_write 23 = .ok (.ldc2_w 30, 3) := by decide +kernel
theorem dX1_write_26 : decode cX1_write 26 = .ok (.lcmp, 1) := by decide +kernel
theorem dX1_write_27 : decode cX1_write 27 = .ok (.ifCond .gt 16, 3) := by decide +kernel
theorem dX1_write_30 : decode cX1_write 30 = .ok (.iload_n 1, 1) := by decide +kernel
theorem dX1_write_31 : decode cX1_write 31 = .ok (.iconst 1, 1) := by decide +kernel
theorem dX1_write_32 : decode cX1_write 32 = .ok (.if_icmp .ne 13, 3) := by decide +kernel
theorem dX1_write_35 : decode cX1_write 35 = .ok (.lload_n 2, 1) := by decide +kernel
theorem dX1_write_36 : decode cX1_write 36 = .ok (.lload_n 2, 1) := by decide +kernel
theorem dX1_write_37 : decode cX1_write 37 = .ok (.l2i, 1) := by decide +kernel
theorem dX1_write_38 : decode cX1_write 38 = .ok (.i2l, 1) := by decide +kernel
theorem dX1_write_39 : decode cX1_write 39 = .ok (.lcmp, 1) := by decide +kernel
theorem dX1_write_40 : decode cX1_write 40 = .ok (.ifCond .eq 5, 3) := by decide +kernel
theorem dX1_write_43 : decode cX1_write 43 = .ok (.iconst (-1), 1) := by decide +kernel
theorem dX1_write_44 : decode cX1_write 44 = .ok (.ireturn, 1) := by decide +kernel
theorem dX1_write_45 : decode cX1_write 45 = .ok (.iconst 1, 1) := by decide +kernel
theorem dX1_write_46 : decode cX1_write 46 = .ok (.istore 4, 2) := by decide +kernel
theorem dX1_write_48 : decode cX1_write 48 = .ok (.iload_n 1, 1) := by decide +kernel
theorem dX1_write_49 : decode cX1_write 49 = .ok (.lload_n 2, 1) := by decide +kernel
theorem dX1_write_50 : decode cX1_write 50 = .ok (.iload 4, 2) := by decide +kernel
theorem dX1_write_52 : decode cX1_write 52 = .ok (.invokestatic 32, 3) := by decide +kernel
theorem dX1_write_55 : decode cX1_write 55 = .ok (.ifCond .ne 9, 3) := by decide +kernel
theorem dX1_write_58 : decode cX1_write 58 = .ok (.iinc 4 1, 3) := by decide +kernel
theorem dX1_write_61 : decode cX1_write 61 = .ok (.goto (-13), 3) := by decide +kernel
theorem dX1_write_64 : decode cX1_write 64 = .ok (.aload_n 0, 1) := by decide +kernel
theorem dX1_write_65 : decode cX1_write 65 = .ok (.getfield 36, 3) := by decide +kernel
theorem dX1_write_68 : decode cX1_write 68 = .ok (.iload 4, 2) := by decide +kernel
theorem dX1_write_70 : decode cX1_write 70 = .ok (.iadd, 1) := by decide +kernel
theorem dX1_write_71 : decode cX1_write 71 = .ok (.sipush 1000, 3) := by decide +kernel
theorem dX1_write_74 : decode cX1_write 74 = .ok (.if_icmp .le 6, 3) := by decide +kernel
theorem dX1_write_77 : decode cX1_write 77 = .ok (.bipush (-2), 2) := by decide +kernel
theorem dX1_write_79 : decode cX1_write 79 = .ok (.ireturn, 1) := by decide +kernel
theorem dX1_write_80 : decode cX1_write 80 = .ok (.iconst 0, 1) := by decide +kernel
theorem dX1_write_81 : decode cX1_write 81 = .ok (.istore 5, 2) := by decide +kernel
theorem dX1_write_83 : decode cX1_write 83 = .ok (.iload 5, 2) := by decide +kernel
theorem dX1_write_85 : decode cX1_write 85 = .ok (.iload 4, 2) := by decide +kernel
theorem dX1_write_87 : decode cX1_write 87 = .ok (.if_icmp .ge 67, 3) := by decide +kernel
theorem dX1_write_90 : decode cX1_write 90 = .ok (.lload_n 2, 1) := by decide +kernel
theorem dX1_write_91 : decode cX1_write 91 = .ok (.bipush 7, 2) := by decide +kernel
theorem dX1_write_93 : decode cX1_write 93 = .ok (.iload 5, 2) := by decide +kernel
theorem dX1_write_95 : decode cX1_write 95 = .ok (.imul, 1) := by decide +kernel
theorem dX1_write_96 : decode cX1_write 96 = .ok (.bipush 63, 2) := by decide +kernel
theorem dX1_write_98 : decode cX1_write 98 = .ok (.invokestatic 39, 3) := by decide +kernel
theorem dX1_write_101 : decode cX1_write 101 = .ok (.lshr, 1) := by decide +kernel
theorem dX1_write_102 : decode cX1_write 102 = .ok (.l2i, 1) := by decide +kernel
theorem dX1_write_103 : decode cX1_write 103 = .ok (.bipush 127, 2) := by decide +kernel
theorem dX1_write_105 : decode cX1_write 105 = .ok (.iand, 1) := by decide +kernel
theorem dX1_write_106 : decode cX1_write 106 = .ok (.istore 6, 2) := by decide +kernel
theorem dX1_write_108 : decode cX1_write 108 = .ok (.aload_n 0, 1) := by decide +kernel
theorem dX1_write_109 : decode cX1_write 109 = .ok (.getfield 13, 3) := by decide +kernel
theorem dX1_write_112 : decode cX1_write 112 = .ok (.aload_n 0, 1) := by decide +kernel
theorem dX1_write_113 : decode cX1_write 113 = .ok (.getfield 36, 3) := by decide +kernel
theorem dX1_write_116 : decode cX1_write 116 = .ok (.iload 5, 2) := by decide +kernel
theorem dX1_write_118 : decode cX1_write 118 = .ok (.iload 4, 2) := by decide +kernel
theorem dX1_write_120 : decode cX1_write 120 = .ok (.iconst 1, 1) := by decide +kernel
theorem dX1_write_121 : decode cX1_write 121 = .ok (.isub, 1) := by decide +kernel
theorem dX1_write_122 : decode cX1_write 122 = .ok (.if_icmp .ge 12, 3) := by decide +kernel
theorem dX1_write_125 : decode cX1_write 125 = .ok (.iload 6, 2) := by decide +kernel
theorem dX1_write_127 : decode cX1_write 127 = .ok (.sipush 128, 3) := by decide +kernel
theorem dX1_write_130 : decode cX1_write 130 = .ok (.ior, 1) := by decide +kernel
theorem dX1_write_131 : decode cX1_write 131 = .ok (.goto 5, 3) := by decide +kernel
theorem dX1_write_134 : decode cX1_write 134 = .ok (.iload 6, 2) := by decide +kernel
theorem dX1_write_136 : decode cX1_write 136 = .ok (.i2b, 1) := by decide +kernel
theorem dX1_write_137 : decode cX1_write 137 = .ok (.bastore, 1) := by decide +kernel
theorem dX1_write_138 : decode cX1_write 138 = .ok (.aload_n 0, 1) := by decide +kernel
theorem dX1_write_139 : decode cX1_write 139 = .ok (.dup, 1) := by decide +kernel
theorem dX1_write_140 : decode cX1_write 140 = .ok (.getfield 36, 3) := by decide +kernel
theorem dX1_write_143 : decode cX1_write 143 = .ok (.iconst 1, 1) := by decide +kernel
theorem dX1_write_144 : decode cX1_write 144 = .ok (.iadd, 1) := by decide +kernel
theorem dX1_write_145 : decode cX1_write 145 = .ok (.putfield 36, 3) := by decide +kernel
theorem dX1_write_148 : decode cX1_write 148 = .ok (.iinc 5 1, 3) := by decide +kernel
theorem dX1_write_151 : decode cX1_write 151 = .ok (.goto (-68), 3) := by decide +kernel
theorem dX1_write_154 : decode cX1_write 154 = .ok (.iload 4, 2) := by decide +kernel
theorem dX1_write_156 : decode cX1_write 156 = .ok (.ireturn, 1) := by decide +kernel
theorem dX1_size_0 : decode cX1_size 0 = .ok (.aload_n 0, 1) := by decide +kernel
theorem dX1_size_1 : decode cX1_size 1 = .ok (.getfield 36, 3) := by decide +kernel
theorem dX1_size_4 : decode cX1_size 4 = .ok (.ireturn, 1) := by decide +kernel
theorem dX1_at_0 : decode cX1_at 0 = .ok (.iload_n 1, 1) := by decide +kernel
theorem dX1_at_1 : decode cX1_at 1 = .ok (.ifCond .lt 24, 3) := by decide +kernel
theorem dX1_at_4 : decode cX1_at 4 = .ok (.iload_n 1, 1) := by decide +kernel
theorem dX1_at_5 : decode cX1_at 5 = .ok (.aload_n 0, 1) := by decide +kernel
theorem dX1_at_6 : decode cX1_at 6 = .ok (.getfield 36, 3) := by decide +kernel
theorem dX1_at_9 : decode cX1_at 9 = .ok (.if_icmp .ge 16, 3) := by decide +kernel
theorem dX1_at_12 : decode cX1_at 12 = .ok (.aload_n 0, 1) := by decide +kernel
theorem dX1_at_13 : decode cX1_at 13 = .ok (.getfield 13, 3) := by decide +kernel
theorem dX1_at_16 : decode cX1_at 16 = .ok (.iload_n 1, 1) := by decide +kernel
theorem dX1_at_17 : decode cX1_at 17 = .ok (.baload, 1) := by decide +kernel
theorem dX1_at_18 : decode cX1_at 18 = .ok (.sipush 255, 3) := by decide +kernel
theorem dX1_at_21 : decode cX1_at 21 = .ok (.iand, 1) := by decide +kernel
theorem dX1_at_22 : decode cX1_at 22 = .ok (.goto 4, 3) := by decide +kernel
theorem dX1_at_25 : decode cX1_at 25 = .ok (.iconst (-1), 1) := by decide +kernel
theorem dX1_at_26 : decode cX1_at 26 = .ok (.ireturn, 1) := by decide +kernel
theorem dX1_clear_0 : decode cX1_clear 0 = .ok (.aload_n 0, 1) := by decide +kernel
theorem dX1_clear_1 : decode cX1_clear 1 = .ok (.iconst 0, 1) := by decide +kernel
theorem dX1_clear_2 : decode cX1_clear 2 = .ok (.putfield 16, 3) := by decide +kernel
theorem dX1_clear_5 : decode cX1_clear 5 = .ok (.aload_n 0, 1) := by decide +kernel
theorem dX1_clear_6 : decode cX1_clear 6 = .ok (.iconst 0, 1) := by decide +kernel
theorem dX1_clear_7 : decode cX1_clear 7 = .ok (.putfield 36, 3) := by decide +kernel
theorem dX1_clear_10 : decode cX1_clear 10 = .ok (.return_, 1) := by decide +kernel
theorem dJ9_min_7cf53_0 : decode cJ9_min_7cf53 0 = .ok (.iload_n 0, 1) := by decide +kernel
theorem dJ9_min_7cf53_1 : decode cJ9_min_7cf53 1 = .ok (.iload_n 1, 1) := by decide +kernel
theorem dJ9_min_7cf53_2 : decode cJ9_min_7cf53 2 = .ok (.if_icmp .gt 7, 3) := by decide +kernel
theorem dJ9_min_7cf53_5 : decode cJ9_min_7cf53 5 = .ok (.iload_n 0, 1) := by decide +kernel
theorem dJ9_min_7cf53_6 : decode cJ9_min_7cf53 6 = .ok (.goto 4, 3) := by decide +kernel
theorem dJ9_min_7cf53_9 : decode cJ9_min_7cf53 9 = .ok (.iload_n 1, 1) := by decide +kernel
theorem dJ9_min_7cf53_10 : decode cJ9_min_7cf53 10 = .ok (.ireturn, 1) := by decide +kernel
theorem dL_law_0 : decode cL_law 0 = .ok (.new 7, 3) := by decide +kernel
theorem dL_law_3 : decode cL_law 3 = .ok (.dup, 1) := by decide +kernel
theorem dL_law_4 : decode cL_law 4 = .ok (.invokespecial 9, 3) := by decide +kernel
theorem dL_law_7 : decode cL_law 7 = .ok (.astore_n 1, 1) := by decide +kernel
theorem dL_law_8 : decode cL_law 8 = .ok (.new 10, 3) := by decide +kernel
theorem dL_law_11 : decode cL_law 11 = .ok (.dup, 1) := by decide +kernel
theorem dL_law_12 : decode cL_law 12 = .ok (.invokespecial 12, 3) := by decide +kernel
theorem dL_law_15 : decode cL_law 15 = .ok (.astore_n 2, 1) := by decide +kernel
theorem dL_law_16 : decode cL_law 16 = .ok (.iconst 0, 1) := by decide +kernel
theorem dL_law_17 : decode cL_law 17 = .ok (.istore_n 3, 1) := by decide +kernel
theorem dL_law_18 : decode cL_law 18 = .ok (.iload_n 3, 1) := by decide +kernel
theorem dL_law_19 : decode cL_law 19 = .ok (.aload_n 0, 1) := by decide +kernel
theorem dL_law_20 : decode cL_law 20 = .ok (.arraylength, 1) := by decide +kernel
theorem dL_law_21 : decode cL_law 21 = .ok (.bipush 6, 2) := by decide +kernel
theorem dL_law_23 : decode cL_law 23 = .ok (.isub, 1) := by decide +kernel
theorem dL_law_24 : decode cL_law 24 = .ok (.if_icmp .gt 305, 3) := by decide +kernel
theorem dL_law_27 : decode cL_law 27 = .ok (.aload_n 0, 1) := by decide +kernel
theorem dL_law_28 : decode cL_law 28 = .ok (.iload_n 3, 1) := by decide +kernel
theorem dL_law_29 : decode cL_law 29 = .ok (.iaload, 1) := by decide +kernel
theorem dL_law_30 : decode cL_law 30 = .ok (.bipush 7, 2) := by decide +kernel
theorem dL_law_32 : decode cL_law 32 = .ok (.iand, 1) := by decide +kernel
theorem dL_law_33 : decode cL_law 33 = .ok (.tableswitch 290 0 7 #[47, 110, 133, 166, 180, 243, 256, 279], 47) := by decide +kernel
theorem dL_law_80 : decode cL_law 80 = .ok (.aload_n 1, 1) := by decide +kernel
theorem dL_law_81 : decode cL_law 81 = .ok (.aload_n 0, 1) := by decide +kernel
theorem dL_law_82 : decode cL_law 82 = .ok (.iload_n 3, 1) := by decide +kernel
theorem dL_law_83 : decode cL_law 83 = .ok (.iconst 1, 1) := by decide +kernel
theorem dL_law_84 : decode cL_law 84 = .ok (.iadd, 1) := by decide +kernel
theorem dL_law_85 : decode cL_law 85 = .ok (.iaload, 1) := by decide +kernel
theorem dL_law_86 : decode cL_law 86 = .ok (.aload_n 0, 1) := by decide +kernel
theorem dL_law_87 : decode cL_law 87 = .ok (.iload_n 3, 1) := by decide +kernel
theorem dL_law_88 : decode cL_law 88 = .ok (.iconst 2, 1) := by decide +kernel
theorem dL_law_89 : decode cL_law 89 = .ok (.iadd, 1) := by decide +kernel
theorem dL_law_90 : decode cL_law 90 = .ok (.iaload, 1) := by decide +kernel
theorem dL_law_91 : decode cL_law 91 = .ok (.aload_n 0, 1) := by decide +kernel
theorem dL_law_92 : decode cL_law 92 = .ok (.iload_n 3, 1) := by decide +kernel
theorem dL_law_93 : decode cL_law 93 = .ok (.iconst 3, 1) := by decide +kernel
theorem dL_law_94 : decode cL_law 94 = .ok (.iadd, 1) := by decide +kernel
theorem dL_law_95 : decode cL_law 95 = .ok (.iaload, 1) := by decide +kernel
theorem dL_law_96 : decode cL_law 96 = .ok (.aload_n 0, 1) := by decide +kernel
theorem dL_law_97 : decode cL_law 97 = .ok (.iload_n 3, 1) := by decide +kernel
theorem dL_law_98 : decode cL_law 98 = .ok (.iconst 4, 1) := by decide +kernel
theorem dL_law_99 : decode cL_law 99 = .ok (.iadd, 1) := by decide +kernel
theorem dL_law_100 : decode cL_law 100 = .ok (.iaload, 1) := by decide +kernel
theorem dL_law_101 : decode cL_law 101 = .ok (.aload_n 0, 1) := by decide +kernel
theorem dL_law_102 : decode cL_law 102 = .ok (.iload_n 3, 1) := by decide +kernel
theorem dL_law_103 : decode cL_law 103 = .ok (.iconst 5, 1) := by decide +kernel
theorem dL_law_104 : decode cL_law 104 = .ok (.iadd, 1) := by decide +kernel
theorem dL_law_105 : decode cL_law 105 = .ok (.iaload, 1) := by decide +kernel
theorem dL_law_106 : decode cL_law 106 = .ok (.invokevirtual 13, 3) := by decide +kernel
theorem dL_law_109 : decode cL_law 109 = .ok (.aload_n 2, 1) := by decide +kernel
theorem dL_law_110 : decode cL_law 110 = .ok (.aload_n 0, 1) := by decide +kernel
theorem dL_law_111 : decode cL_law 111 = .ok (.iload_n 3, 1) := by decide +kernel
theorem dL_law_112 : decode cL_law 112 = .ok (.iconst 1, 1) := by decide +kernel
theorem dL_law_113 : decode cL_law 113 = .ok (.iadd, 1) := by decide +kernel
theorem dL_law_114 : decode cL_law 114 = .ok (.iaload, 1) := by decide +kernel
theorem dL_law_115 : decode cL_law 115 = .ok (.aload_n 0, 1) := by decide +kernel
theorem dL_law_116 : decode cL_law 116 = .ok (.iload_n 3, 1) := by decide +kernel
theorem dL_law_117 : decode cL_law 117 = .ok (.iconst 2, 1) := by decide +kernel
theorem dL_law_118 : decode cL_law 118 = .ok (.iadd, 1) := by decide +kernel
theorem dL_law_119 : decode cL_law 119 = .ok (.iaload, 1) := by decide +kernel
theorem dL_law_120 : decode cL_law 120 = .ok (.aload_n 0, 1) := by decide +kernel
theorem dL_law_121 : decode cL_law 121 = .ok (.iload_n 3, 1) := by decide +kernel
theorem dL_law_122 : decode cL_law 122 = .ok (.iconst 3, 1) := by decide +kernel
theorem dL_law_123 : decode cL_law 123 = .ok (.iadd, 1) := by decide +kernel
theorem dL_law_124 : decode cL_law 124 = .ok (.iaload, 1) := by decide +kernel
theorem dL_law_125 : decode cL_law 125 = .ok (.aload_n 0, 1) := by decide +kernel
theorem dL_law_126 : decode cL_law 126 = .ok (.iload_n 3, 1) := by decide +kernel
theorem dL_law_127 : decode cL_law 127 = .ok (.iconst 4, 1) := by decide +kernel
theorem dL_law_128 : decode cL_law 128 = .ok (.iadd, 1) := by decide +kernel
theorem dL_law_129 : decode cL_law 129 = .ok (.iaload, 1) := by decide +kernel
theorem dL_law_130 : decode cL_law 130 = .ok (.aload_n 0, 1) := by decide +kernel
theorem dL_law_131 : decode cL_law 131 = .ok (.iload_n 3, 1) := by decide +kernel
theorem dL_law_132 : decode cL_law 132 = .ok (.iconst 5, 1) := by decide +kernel
theorem dL_law_133 : decode cL_law 133 = .ok (.iadd, 1) := by decide +kernel
theorem dL_law_134 : decode cL_law 134 = .ok (.iaload, 1) := by decide +kernel
theorem dL_law_135 : decode cL_law 135 = .ok (.invokevirtual 17, 3) := by decide +kernel
theorem dL_law_138 : decode cL_law 138 = .ok (.if_icmp .eq 185, 3) := by decide +kernel
theorem dL_law_141 : decode cL_law 141 = .ok (.iconst 0, 1) := by decide +kernel
theorem dL_law_142 : decode cL_law 142 = .ok (.ireturn, 1) := by decide +kernel
theorem dL_law_143 : decode cL_law 143 = .ok (.aload_n 1, 1) := by decide +kernel
theorem dL_law_144 : decode cL_law 144 = .ok (.aload_n 0, 1) := by decide +kernel
theorem dL_law_145 : decode cL_law 145 = .ok (.iload_n 3, 1) := by decide +kernel
theorem dL_law_146 : decode cL_law 146 = .ok (.iconst 1, 1) := by decide +kernel
theorem dL_law_147 : decode cL_law 147 = .ok (.iadd, 1) := by decide +kernel
theorem dL_law_148 : decode cL_law 148 = .ok (.iaload, 1) := by decide +kernel
theorem dL_law_149 : decode cL_law 149 = .ok (.invokevirtual 18, 3) := by decide +kernel
theorem dL_law_152 : decode cL_law 152 = .ok (.aload_n 2, 1) := by decide +kernel
theorem dL_law_153 : decode cL_law 153 = .ok (.aload_n 0, 1) := by decide +kernel
theorem dL_law_154 : decode cL_law 154 = .ok (.iload_n 3, 1) := by decide +kernel
theorem dL_law_155 : decode cL_law 155 = .ok (.iconst 1, 1) := by decide +kernel
theorem dL_law_156 : decode cL_law 156 = .ok (.iadd, 1) := by decide +kernel
theorem dL_law_157 : decode cL_law 157 = .ok (.iaload, 1) := by decide +kernel
theorem dL_law_158 : decode cL_law 158 = .ok (.invokevirtual 22, 3) := by decide +kernel
theorem dL_law_161 : decode cL_law 161 = .ok (.if_icmp .eq 162, 3) := by decide +kernel
theorem dL_law_164 : decode cL_law 164 = .ok (.iconst 0, 1) := by decide +kernel
theorem dL_law_165 : decode cL_law 165 = .ok (.ireturn, 1) := by decide +kernel
theorem dL_law_166 : decode cL_law 166 = .ok (.aload_n 1, 1) := by decide +kernel
theorem dL_law_167 : decode cL_law 167 = .ok (.aload_n 0, 1) := by decide +kernel
theorem dL_law_168 : decode cL_law 168 = .ok (.iload_n 3, 1) := by decide +kernel
theorem dL_law_169 : decode cL_law 169 = .ok (.iconst 1, 1) := by decide +kernel
theorem dL_law_170 : decode cL_law 170 = .ok (.iadd, 1) := by decide +kernel
theorem dL_law_171 : decode cL_law 171 = .ok (.iaload, 1) := by decide +kernel
theorem dL_law_172 : decode cL_law 172 = .ok (.aload_n 0, 1) := by decide +kernel
theorem dL_law_173 : decode cL_law 173 = .ok (.iload_n 3, 1) := by decide +kernel
theorem dL_law_174 : decode cL_law 174 = .ok (.iconst 2, 1) := by decide +kernel
theorem dL_law_175 : decode cL_law 175 = .ok (.iadd, 1) := by decide +kernel
theorem dL_law_176 : decode cL_law 176 = .ok (.iaload, 1) := by decide +kernel
theorem dL_law_177 : decode cL_law 177 = .ok (.invokevirtual 23, 3) := by decide +kernel
theorem dL_law_180 : decode cL_law 180 = .ok (.aload_n 2, 1) := by decide +kernel
theorem dL_law_181 : decode cL_law 181 = .ok (.aload_n 0, 1) := by decide +kernel
theorem dL_law_182 : decode cL_law 182 = .ok (.iload_n 3, 1) := by decide +kernel
theorem dL_law_183 : decode cL_law 183 = .ok (.iconst 1, 1) := by decide +kernel
theorem dL_law_184 : decode cL_law 184 = .ok (.iadd, 1) := by decide +kernel
theorem dL_law_185 : decode cL_law 185 = .ok (.iaload, 1) := by decide +kernel
theorem dL_law_186 : decode cL_law 186 = .ok (.aload_n 0, 1) := by decide +kernel
theorem dL_law_187 : decode cL_law 187 = .ok (.iload_n 3, 1) := by decide +kernel
theorem dL_law_188 : decode cL_law 188 = .ok (.iconst 2, 1) := by decide +kernel
theorem dL_law_189 : decode cL_law 189 = .ok (.iadd, 1) := by decide +kernel
theorem dL_law_190 : decode cL_law 190 = .ok (.iaload, 1) := by decide +kernel
theorem dL_law_191 : decode cL_law 191 = .ok (.invokevirtual 27, 3) := by decide +kernel
theorem dL_law_194 : decode cL_law 194 = .ok (.if_icmp .eq 129, 3) := by decide +kernel
theorem dL_law_197 : decode cL_law 197 = .ok (.iconst 0, 1) := by decide +kernel
theorem dL_law_198 : decode cL_law 198 = .ok (.ireturn, 1) := by decide +kernel
theorem dL_law_199 : decode cL_law 199 = .ok (.aload_n 1, 1) := by decide +kernel
theorem dL_law_200 : decode cL_law 200 = .ok (.invokevirtual 28, 3) := by decide +kernel
theorem dL_law_203 : decode cL_law 203 = .ok (.aload_n 2, 1) := by decide +kernel
theorem dL_law_204 : decode cL_law 204 = .ok (.invokevirtual 32, 3) := by decide +kernel
theorem dL_law_207 : decode cL_law 207 = .ok (.lcmp, 1) := by decide +kernel
theorem dL_law_208 : decode cL_law 208 = .ok (.ifCond .eq 115, 3) := by decide +kernel
theorem dL_law_211 : decode cL_law 211 = .ok (.iconst 0, 1) := by decide +kernel
theorem dL_law_212 : decode cL_law 212 = .ok (.ireturn, 1) := by decide +kernel
theorem dL_law_213 : decode cL_law 213 = .ok (.aload_n 1, 1) := by decide +kernel
theorem dL_law_214 : decode cL_law 214 = .ok (.aload_n 0, 1) := by decide +kernel
theorem dL_law_215 : decode cL_law 215 = .ok (.iload_n 3, 1) := by decide +kernel
theorem dL_law_216 : decode cL_law 216 = .ok (.iconst 1, 1) := by decide +kernel
theorem dL_law_217 : decode cL_law 217 = .ok (.iadd, 1) := by decide +kernel
theorem dL_law_218 : decode cL_law 218 = .ok (.iaload, 1) := by decide +kernel
theorem dL_law_219 : decode cL_law 219 = .ok (.aload_n 0, 1) := by decide +kernel
theorem dL_law_220 : decode cL_law 220 = .ok (.iload_n 3, 1) := by decide +kernel
theorem dL_law_221 : decode cL_law 221 = .ok (.iconst 2, 1) := by decide +kernel
theorem dL_law_222 : decode cL_law 222 = .ok (.iadd, 1) := by decide +kernel
theorem dL_law_223 : decode cL_law 223 = .ok (.iaload, 1) := by decide +kernel
theorem dL_law_224 : decode cL_law 224 = .ok (.i2l, 1) := by decide +kernel
theorem dL_law_225 : decode cL_law 225 = .ok (.bipush 32, 2) := by decide +kernel
theorem dL_law_227 : decode cL_law 227 = .ok (.lshl, 1) := by decide +kernel
theorem dL_law_228 : decode cL_law 228 = .ok (.aload_n 0, 1) := by decide +kernel
theorem dL_law_229 : decode cL_law 229 = .ok (.iload_n 3, 1) := by decide +kernel
theorem dL_law_230 : decode cL_law 230 = .ok (.iconst 3, 1) := by decide +kernel
theorem dL_law_231 : decode cL_law 231 = .ok (.iadd, 1) := by decide +kernel
theorem dL_law_232 : decode cL_law 232 = .ok (.iaload, 1) := by decide +kernel
theorem dL_law_233 : decode cL_law 233 = .ok (.i2l, 1) := by decide +kernel
theorem dL_law_234 : decode cL_law 234 = .ok (.ldc2_w 33, 3) := by decide +kernel
theorem dL_law_237 : decode cL_law 237 = .ok (.land, 1) := by decide +kernel
theorem dL_law_238 : decode cL_law 238 = .ok (.lor, 1) := by decide +kernel
theorem dL_law_239 : decode cL_law 239 = .ok (.invokevirtual 35, 3) := by decide +kernel
theorem dL_law_242 : decode cL_law 242 = .ok (.aload_n 2, 1) := by decide +kernel
theorem dL_law_243 : decode cL_law 243 = .ok (.aload_n 0, 1) := by decide +kernel
theorem dL_law_244 : decode cL_law 244 = .ok (.iload_n 3, 1) := by decide +kernel
theorem dL_law_245 : decode cL_law 245 = .ok (.iconst 1, 1) := by decide +kernel
theorem dL_law_246 : decode cL_law 246 = .ok (.iadd, 1) := by decide +kernel
theorem dL_law_247 : decode cL_law 247 = .ok (.iaload, 1) := by decide +kernel
theorem dL_law_248 : decode cL_law 248 = .ok (.aload_n 0, 1) := by decide +kernel
theorem dL_law_249 : decode cL_law 249 = .ok (.iload_n 3, 1) := by decide +kernel
theorem dL_law_250 : decode cL_law 250 = .ok (.iconst 2, 1) := by decide +kernel
theorem dL_law_251 : decode cL_law 251 = .ok (.iadd, 1) := by decide +kernel
theorem dL_law_252 : decode cL_law 252 = .ok (.iaload, 1) := by decide +kernel
theorem dL_law_253 : decode cL_law 253 = .ok (.i2l, 1) := by decide +kernel
theorem dL_law_254 : decode cL_law 254 = .ok (.bipush 32, 2) := by decide +kernel
theorem dL_law_256 : decode cL_law 256 = .ok (.lshl, 1) := by decide +kernel
theorem dL_law_257 : decode cL_law 257 = .ok (.aload_n 0, 1) := by decide +kernel
theorem dL_law_258 : decode cL_law 258 = .ok (.iload_n 3, 1) := by decide +kernel
theorem dL_law_259 : decode cL_law 259 = .ok (.iconst 3, 1) := by decide +kernel
theorem dL_law_260 : decode cL_law 260 = .ok (.iadd, 1) := by decide +kernel
theorem dL_law_261 : decode cL_law 261 = .ok (.iaload, 1) := by decide +kernel
theorem dL_law_262 : decode cL_law 262 = .ok (.i2l, 1) := by decide +kernel
theorem dL_law_263 : decode cL_law 263 = .ok (.ldc2_w 33, 3) := by decide +kernel
theorem dL_law_266 : decode cL_law 266 = .ok (.land, 1) := by decide +kernel
theorem dL_law_267 : decode cL_law 267 = .ok (.lor, 1) := by decide +kernel
theorem dL_law_268 : decode cL_law 268 = .ok (.invokevirtual 39, 3) := by decide +kernel
theorem dL_law_271 : decode cL_law 271 = .ok (.if_icmp .eq 52, 3) := by decide +kernel
theorem dL_law_274 : decode cL_law 274 = .ok (.iconst 0, 1) := by decide +kernel
theorem dL_law_275 : decode cL_law 275 = .ok (.ireturn, 1) := by decide +kernel
theorem dL_law_276 : decode cL_law 276 = .ok (.aload_n 1, 1) := by decide +kernel
theorem dL_law_277 : decode cL_law 277 = .ok (.invokevirtual 40, 3) := by decide +kernel
theorem dL_law_280 : decode cL_law 280 = .ok (.aload_n 2, 1) := by decide +kernel
theorem dL_law_281 : decode cL_law 281 = .ok (.invokevirtual 44, 3) := by decide +kernel
theorem dL_law_284 : decode cL_law 284 = .ok (.if_icmp .eq 39, 3) := by decide +kernel
theorem dL_law_287 : decode cL_law 287 = .ok (.iconst 0, 1) := by decide +kernel
theorem dL_law_288 : decode cL_law 288 = .ok (.ireturn, 1) := by decide +kernel
theorem dL_law_289 : decode cL_law 289 = .ok (.aload_n 1, 1) := by decide +kernel
theorem dL_law_290 : decode cL_law 290 = .ok (.aload_n 0, 1) := by decide +kernel
theorem dL_law_291 : decode cL_law 291 = .ok (.iload_n 3, 1) := by decide +kernel
theorem dL_law_292 : decode cL_law 292 = .ok (.iconst 1, 1) := by decide +kernel
theorem dL_law_293 : decode cL_law 293 = .ok (.iadd, 1) := by decide +kernel
theorem dL_law_294 : decode cL_law 294 = .ok (.iaload, 1) := by decide +kernel
theorem dL_law_295 : decode cL_law 295 = .ok (.invokevirtual 45, 3) := by decide +kernel
theorem dL_law_298 : decode cL_law 298 = .ok (.aload_n 2, 1) := by decide +kernel
theorem dL_law_299 : decode cL_law 299 = .ok (.aload_n 0, 1) := by decide +kernel
theorem dL_law_300 : decode cL_law 300 = .ok (.iload_n 3, 1) := by decide +kernel
theorem dL_law_301 : decode cL_law 301 = .ok (.iconst 1, 1) := by decide +kernel
theorem dL_law_302 : decode cL_law 302 = .ok (.iadd, 1) := by decide +kernel
theorem dL_law_303 : decode cL_law 303 = .ok (.iaload, 1) := by decide +kernel
theorem dL_law_304 : decode cL_law 304 = .ok (.invokevirtual 48, 3) := by decide +kernel
theorem dL_law_307 : decode cL_law 307 = .ok (.if_icmp .eq 16, 3) := by decide +kernel
theorem dL_law_310 : decode cL_law 310 = .ok (.iconst 0, 1) := by decide +kernel
theorem dL_law_311 : decode cL_law 311 = .ok (.ireturn, 1) := by decide +kernel
theorem dL_law_312 : decode cL_law 312 = .ok (.aload_n 1, 1) := by decide +kernel
theorem dL_law_313 : decode cL_law 313 = .ok (.invokevirtual 49, 3) := by decide +kernel
theorem dL_law_316 : decode cL_law 316 = .ok (.aload_n 2, 1) := by decide +kernel
theorem dL_law_317 : decode cL_law 317 = .ok (.invokevirtual 52, 3) := by decide +kernel
theorem dL_law_320 : decode cL_law 320 = .ok (.goto 3, 3) := by decide +kernel
theorem dL_law_323 : decode cL_law 323 = .ok (.iinc 3 6, 3) := by decide +kernel
theorem dL_law_326 : decode cL_law 326 = .ok (.goto (-308), 3) := by decide +kernel
theorem dL_law_329 : decode cL_law 329 = .ok (.iconst 1, 1) := by decide +kernel
theorem dL_law_330 : decode cL_law 330 = .ok (.ireturn, 1) := by decide +kernel
end
section
/-! pure: the document's words as functions of bytes (each byte a Nat below 256) -/
def bt (x : Int32) (i : Nat) : Bool := x.toBitVec.getLsbD i
theorem b_ext {x y : Int32} (h : ∀ i, i < 32 → bt x i = bt y i) : x = y := Int32.toBitVec_inj.mp (BitVec.eq_of_getLsbD_eq (fun i hi => h i hi))
theorem b_and (x y : Int32) (i : Nat) : bt (x &&& y) i = (bt x i && bt y i) := by unfold bt; rw [Int32.toBitVec_and, BitVec.getLsbD_and]
theorem s_l : ∀ n, n < 32 → ((nI n &&& 31).toBitVec.smod 32).toNat = n := by decide +kernel
theorem s_u : ∀ n, n < 32 → (((nI n).toUInt32 &&& Int32.toUInt32 31).toBitVec % 32).toNat = n := by decide +kernel
theorem b_ushr (n : Nat) (hn : n < 32) (x : Int32) (i : Nat) : bt ((x.toUInt32 >>> ((nI n).toUInt32 &&& Int32.toUInt32 31)).toInt32) i = bt x (n + i) := by
  show (x.toUInt32 >>> ((nI n).toUInt32 &&& Int32.toUInt32 31)).toBitVec.getLsbD i = x.toUInt32.toBitVec.getLsbD (n + i)
  rw [UInt32.toBitVec_shiftRight]
  show (x.toUInt32.toBitVec >>> (((nI n).toUInt32 &&& Int32.toUInt32 31).toBitVec % 32).toNat).getLsbD i = _
  rw [s_u n hn, BitVec.getLsbD_ushiftRight]
theorem b_sshr (n : Nat) (hn : n < 32) (x : Int32) {i : Nat} (hi : i < 32) : bt (x >>> (nI n &&& 31)) i = if n + i < 32 then bt x (n + i) else bt x 31 := by
  unfold bt
  rw [Int32.toBitVec_shiftRight]
  show (x.toBitVec.sshiftRight ((nI n &&& 31).toBitVec.smod 32).toNat).getLsbD i = _
  rw [s_l n hn, BitVec.getLsbD_sshiftRight, BitVec.msb_eq_getLsbD_last]
  simp [hi]
theorem wb_tb (n : Nat) : (lN n).toBitVec = BitVec.ofNat 64 n := rfl
theorem wb_inj {a b : Int64} (h : a.toBitVec = b.toBitVec) : a = b := Int64.toBitVec_inj.mp h
theorem wb_c : ∀ k, k < 64 → ((nI k).toInt64 &&& 63) = lN k := by decide +kernel
theorem wb_sm : ∀ k, k < 64 → (BitVec.ofNat 64 k).smod 64 = BitVec.ofNat 64 k := by decide +kernel
theorem wb_shl (n : Nat) {k : Nat} (hk : k < 64) : lN n <<< ((nI k).toInt64 &&& 63) = lN (n * 2 ^ k) := by
  rw [wb_c k hk]
  apply wb_inj
  rw [Int64.toBitVec_shiftLeft, wb_tb, wb_tb, wb_tb, wb_sm k hk]
  apply BitVec.eq_of_toNat_eq
  rw [BitVec.shiftLeft_eq', BitVec.toNat_shiftLeft, BitVec.toNat_ofNat, BitVec.toNat_ofNat, BitVec.toNat_ofNat, Nat.mod_eq_of_lt (show k < 2 ^ 64 by omega), Nat.shiftLeft_eq, Nat.mul_mod, Nat.mod_mod, ← Nat.mul_mod]
theorem gg_or (a b : Nat) : lN a ||| lN b = lN (a ||| b) := by
  apply wb_inj
  rw [Int64.toBitVec_or, wb_tb, wb_tb, wb_tb]
  apply BitVec.eq_of_toNat_eq
  rw [BitVec.toNat_or, BitVec.toNat_ofNat, BitVec.toNat_ofNat, BitVec.toNat_ofNat, Nat.or_mod_two_pow]
theorem gg_nor {a b w : Nat} (h : a < 2 ^ w) : a ||| b * 2 ^ w = a + b * 2 ^ w := by
  rw [Nat.or_comm, Nat.mul_comm b, ← Nat.two_pow_add_eq_or_of_lt h, Nat.add_comm]
theorem gg_lmod (a b : Nat) : lN (a + 18446744073709551616 * b) = lN a := by
  apply wb_inj
  rw [wb_tb, wb_tb]
  apply BitVec.eq_of_toNat_eq
  rw [BitVec.toNat_ofNat, BitVec.toNat_ofNat]
  exact Nat.add_mul_mod_self_left a _ b
theorem gg_7 (k : Nat) : (7 : Int32) * nI k = nI (7 * k) := pk_mul 7 k
theorem gg_shr (v : Int64) {k : Nat} (hk : k < 64) : (v >>> ((nI k).toInt64 &&& 63)).toInt = v.toInt / 2 ^ k := by
  have hD : ∀ k, k < 64 → (((nI k).toInt64 &&& 63).toBitVec.smod 64).toNat = k := by decide +kernel
  have e : (v >>> ((nI k).toInt64 &&& 63)).toInt = v.toInt >>> k := by
    have h2 := BitVec.toInt_sshiftRight (x := v.toBitVec) (n := (((nI k).toInt64 &&& 63).toBitVec.smod 64).toNat)
    rw [hD k hk] at h2
    rw [← Int64.toInt_toBitVec, Int64.toBitVec_shiftRight]
    show (v.toBitVec.sshiftRight (((nI k).toInt64 &&& 63).toBitVec.smod 64).toNat).toInt = _
    rw [hD k hk]
    exact h2
  rw [e, Int.shiftRight_eq_div_pow]
  rfl
/-- a long that an int holds -/
theorem gg_tr {m : Nat} (h : m % 18446744073709551616 < 2147483648 ∨ 18446744071562067968 ≤ m % 18446744073709551616) : (lN m).toInt32.toInt64 = lN m := by
  rw [lN_i]
  apply Int64.toInt_inj.mp
  rw [Int32.toInt_toInt64]
  have h1 : (nI m).toInt = ((m : Nat) : Int).bmod 4294967296 := by
    first | exact BitVec.toInt_ofNat' | exact BitVec.toInt_ofNat' _ | exact BitVec.toInt_ofNat' _ _ | (show (BitVec.ofNat _ m).toInt = _; simp)
  have h2 : (lN m).toInt = ((m : Nat) : Int).bmod 18446744073709551616 := by
    first | exact BitVec.toInt_ofNat' | exact BitVec.toInt_ofNat' _ | exact BitVec.toInt_ofNat' _ _ | (show (BitVec.ofNat _ m).toInt = _; simp)
  rw [h1, h2]
  simp only [Int.bmod]
  split <;> split <;> omega
theorem gg_int (v : Int64) : v = v.toInt32.toInt64 ↔ (-2147483648 ≤ v ∧ v ≤ 2147483647) := by
  rw [← Int64.toInt_inj, Int32.toInt_toInt64, Int64.toInt_toInt32, Int64.le_iff_toInt_le, Int64.le_iff_toInt_le]
  have a1 : (-2147483648 : Int64).toInt = -2147483648 := by decide
  have a2 : (2147483647 : Int64).toInt = 2147483647 := by decide
  rw [a1, a2]
  have b1 := Int64.toInt_lt v
  have b2 := Int64.le_toInt v
  have e : (2 : Nat) ^ 32 = 4294967296 := by decide
  rw [e]
  simp only [Int.bmod]
  constructor
  · intro h
    split at h <;> omega
  · intro h
    split <;> omega
/-! the first place that has a property, from 1; 0 if none -/
def gg_first (P : Nat → Bool) : Nat → Nat
  | 0 => 0
  | k + 1 => if gg_first P k = 0 then (if P k = true then k + 1 else 0) else gg_first P k
theorem gg_first_none {P : Nat → Bool} : ∀ {k : Nat}, (∀ j, j < k → P j = false) → gg_first P k = 0
  | 0, _ => rfl
  | k + 1, h => by
    have h1 := gg_first_none (P := P) (k := k) (fun j hj => h j (by omega))
    simp [gg_first, h1, h k (by omega)]
theorem gg_first_hit {P : Nat → Bool} {i : Nat} (hb : ∀ j, j < i → P j = false) (hi : P i = true) : ∀ {k : Nat}, i < k → gg_first P k = i + 1
  | 0, h => absurd h (by omega)
  | k + 1, h => by
    rcases Nat.lt_or_ge i k with q | q
    · have h1 := gg_first_hit hb hi q
      simp [gg_first, h1]
    · have e : i = k := by omega
      subst e
      simp [gg_first, gg_first_none hb, hi]
theorem gg_first_le {P : Nat → Bool} : ∀ k : Nat, gg_first P k ≤ k
  | 0 => Nat.le_refl 0
  | k + 1 => by
    have h1 := gg_first_le (P := P) k
    simp only [gg_first]
    split
    · split <;> omega
    · omega
theorem gg_first_at {P : Nat → Bool} : ∀ {k c : Nat}, gg_first P k = c + 1 → P c = true
  | 0, c, h => by simp [gg_first] at h
  | k + 1, c, h => by
    simp only [gg_first] at h
    split at h
    · split at h
      · rename_i q
        have : k = c := by omega
        rw [← this]
        exact q
      · omega
    · exact gg_first_at h
/-! rows of bytes: as ints, as signed bytes -/
def gg_I (t : Nat → Nat) (n : Nat) (g : Nat → Int32) : Prop := ∀ j, j < n → t j < 256 ∧ g j = nI (t j)
theorem gg_I_push {t : Nat → Nat} {n : Nat} {g : Nat → Int32} {x : Int32} (h : gg_I t n g) (h1 : t n < 256) (hx : x = nI (t n)) : gg_I t (n + 1) (upd g n x) := by
  intro j hj
  by_cases e : j = n
  · subst e
    exact ⟨h1, by rw [pk_us]; exact hx⟩
  · rw [pk_un e]
    exact h j (by omega)
theorem gg_I_sub {t : Nat → Nat} {n m : Nat} {g : Nat → Int32} (h : gg_I t n g) (hm : m ≤ n) : gg_I t m g := fun j hj => h j (by omega)
theorem gg_I_cat {t s : Nat → Nat} {n : Nat} {g : Nat → Int32} (h : gg_I t n g) : gg_I (sb_cat t n s) n g := fun j hj => by rw [sb_cat_lo hj]; exact h j hj
theorem gg_B_push {t : Nat → Nat} {n : Nat} {g : Nat → Int32} {x : Int32} (h : sb_Lat t n g) (h1 : t n < 256) (hx : x = sb_b (t n)) : sb_Lat t (n + 1) (upd g n x) := by
  intro j hj
  by_cases e : j = n
  · subst e
    exact ⟨h1, by rw [pk_us]; exact hx⟩
  · rw [pk_un e]
    exact h j (by omega)
theorem gg_B_sub {t : Nat → Nat} {n m : Nat} {g : Nat → Int32} (h : sb_Lat t n g) (hm : m ≤ n) : sb_Lat t m g := fun j hj => h j (by omega)
theorem gg_B_cat {t s : Nat → Nat} {n : Nat} {g : Nat → Int32} (h : sb_Lat t n g) : sb_Lat (sb_cat t n s) n g := fun j hj => by rw [sb_cat_lo hj]; exact h j hj
theorem gg_b_neg : ∀ c, c < 256 → (¬ 0 ≤ sb_b c ↔ 128 ≤ c) := by decide +kernel
theorem gg_b_low : ∀ c, c < 128 → sb_b c = nI c := by decide +kernel
theorem gg_b_127 : ∀ c, c < 256 → sb_b c &&& 127 = nI (c % 128) := by decide +kernel
theorem gg_b_255 : ∀ c, c < 256 → sb_b c &&& 255 = nI c := by decide +kernel
theorem gg_i_127 : ∀ c, c < 256 → nI c &&& 127 = nI (c % 128) := by decide +kernel
theorem gg_or128 : ∀ c, c < 128 → nI c ||| 128 = nI (c + 128) := by decide +kernel
theorem gg_and64 : ∀ c, c < 128 → (nI c &&& 64 = 0 ↔ ¬ 64 ≤ c) := by decide +kernel
/-! feed -/
def gg_wb (w : Int32) (i : Nat) : Nat := w.toBitVec.toNat / 2 ^ (24 - 8 * i) % 256
theorem gg_wb_lt (w : Int32) (i : Nat) : gg_wb w i < 256 := Nat.mod_lt _ (by decide)
theorem gg_wb_s : ∀ i, i < 4 → (((24 - 8 * nI i : Int32).toUInt32 &&& Int32.toUInt32 31).toBitVec % 32).toNat = 24 - 8 * i := by decide +kernel
theorem gg_wb_n : ∀ i, i < 4 → (24 - 8 * nI i : Int32) = nI (24 - 8 * i) := by decide +kernel
theorem gg_wb_I (w : Int32) {i : Nat} (hi : i < 4) : (w.toUInt32 >>> ((24 - 8 * nI i : Int32).toUInt32 &&& Int32.toUInt32 31)).toInt32 &&& 255 = nI (gg_wb w i) := by
  rw [pk_and _ 8 (by decide), pk_ushr _ _ _ (gg_wb_s i hi)]
  rfl
theorem gg_sx {x y : Int32} (h : ∀ k, k < 8 → bt x k = bt y k) : x.toInt8 = y.toInt8 := by
  apply Int8.toBitVec_inj.mp
  rw [Int32.toBitVec_toInt8, Int32.toBitVec_toInt8]
  apply BitVec.eq_of_getLsbD_eq
  intro k hk
  rw [BitVec.getLsbD_signExtend, BitVec.getLsbD_signExtend, if_pos (by omega), if_pos (by omega)]
  exact congrArg _ (h k hk)
theorem gg_255 : ∀ k, k < 8 → bt 255 k = true := by decide +kernel
theorem gg_wb_B (w : Int32) {i : Nat} (hi : i < 4) : (w >>> ((24 - 8 * nI i : Int32) &&& 31)).toInt8.toInt32 = sb_b (gg_wb w i) := by
  show _ = (nI (gg_wb w i)).toInt8.toInt32
  rw [← gg_wb_I w hi]
  congr 1
  apply gg_sx
  intro k hk
  rw [b_and, gg_255 k hk, gg_wb_n i hi, b_sshr _ (by omega) _ (by omega), b_ushr _ (by omega), if_pos (by omega), Bool.and_true]
/-! read -/
abbrev gg_ok (how : Int32) : Prop := how = 0 ∨ how = 1 ∨ how = 2
def gg_most (how : Int32) : Nat := if how = 2 then 10 else 5
theorem gg_most_bd (how : Int32) : gg_most how ≤ 10 ∧ 5 ≤ gg_most how := by unfold gg_most; split <;> omega
def gg_cnt (t : Nat → Nat) (a k : Nat) : Nat := gg_first (fun i => decide (t (a + i) < 128)) k
theorem gg_cnt_none {t : Nat → Nat} {a k : Nat} (h : ∀ j, j < k → 128 ≤ t (a + j)) : gg_cnt t a k = 0 := gg_first_none (fun j hj => by have := h j hj; simp; omega)
theorem gg_cnt_hit {t : Nat → Nat} {a i k : Nat} (hb : ∀ j, j < i → 128 ≤ t (a + j)) (hi : t (a + i) < 128) (h : i < k) : gg_cnt t a k = i + 1 := gg_first_hit (fun j hj => by have := hb j hj; simp; omega) (by simpa using hi) h
theorem gg_cnt_le (t : Nat → Nat) (a k : Nat) : gg_cnt t a k ≤ k := gg_first_le k
theorem gg_cnt_at {t : Nat → Nat} {a k c : Nat} (h : gg_cnt t a k = c + 1) : t (a + c) < 128 := by simpa using gg_first_at h
def gg_join (t : Nat → Nat) (a : Nat) : Nat → Nat
  | 0 => 0
  | k + 1 => gg_join t a k + t (a + k) % 128 * 2 ^ (7 * k)
theorem gg_join_lt (t : Nat → Nat) (a : Nat) : ∀ k, gg_join t a k < 2 ^ (7 * k)
  | 0 => Nat.one_pos
  | k + 1 => by
    have h := gg_join_lt t a k
    have h2 : t (a + k) % 128 ≤ 127 := by omega
    have h3 : t (a + k) % 128 * 2 ^ (7 * k) ≤ 127 * 2 ^ (7 * k) := Nat.mul_le_mul_right _ h2
    have h4 : 2 ^ (7 * (k + 1)) = 2 ^ (7 * k) * 128 := by rw [show 7 * (k + 1) = 7 * k + 7 by omega, Nat.pow_add]
    show gg_join t a k + t (a + k) % 128 * 2 ^ (7 * k) < _
    rw [h4]
    omega
def gg_val (how : Int32) (t : Nat → Nat) (a c : Nat) : Nat := gg_join t a c + (if ¬ how = 0 ∧ 64 ≤ t (a + (c - 1)) then 18446744073709551615 * 2 ^ (7 * c) else 0)
abbrev gg_bad (how : Int32) (l : Nat) : Prop := (how = 0 ∧ 15 < l) ∨ (how = 1 ∧ 7 < l ∧ l < 120) ∨ (how = 2 ∧ 0 < l ∧ l < 127)
def gg_rd (how : Int32) (t : Nat → Nat) (a c : Nat) (v : Int64) : Int32 × Int64 := if c = 0 then (-1, v) else if c = gg_most how ∧ gg_bad how (t (a + (c - 1))) then (-1, v) else (nI c, lN (gg_val how t a c))
def gg_read (how at_ : Int32) (t : Nat → Nat) (n : Nat) (v : Int64) : Int32 × Int64 :=
  if gg_ok how ∧ ¬ at_ < 0 ∧ at_ ≤ nI n then gg_rd how t at_.toNatClampNeg (gg_cnt t at_.toNatClampNeg (min (gg_most how) (n - at_.toNatClampNeg))) v else (-2, v)
theorem gg_join_step {J g k : Nat} (hg : g < 128) (hk : 7 * k < 64) (hJ : J < 2 ^ (7 * k)) : lN J ||| ((nI g).toInt64 <<< (((7 : Int32) * nI k).toInt64 &&& 63)) = lN (J + g * 2 ^ (7 * k)) := by
  rw [gg_7, nI_l (by omega), wb_shl _ hk, gg_or, gg_nor hJ]
theorem gg_m1 : (-1 : Int64) = lN 18446744073709551615 := by decide
theorem gg_ext {J c : Nat} (hc : 7 * c < 64) (hJ : J < 2 ^ (7 * c)) : lN J ||| ((-1 : Int64) <<< ((nI (7 * c)).toInt64 &&& 63)) = lN (J + 18446744073709551615 * 2 ^ (7 * c)) := by
  rw [gg_m1, wb_shl _ hc, gg_or, gg_nor hJ]
theorem gg_ext10 (J : Nat) : lN (J + 18446744073709551615 * 2 ^ (7 * 10)) = lN J := by
  have e : 18446744073709551615 * 2 ^ (7 * 10) = 18446744073709551616 * (64 * 18446744073709551615) := by decide
  rw [e]
  exact gg_lmod J _
theorem gg_down {V g : Nat} (hg : g < 128) : (lN V <<< ((7 : Int32).toInt64 &&& 63)) ||| (nI g).toInt64 = lN (g + V * 128) := by
  have h := wb_shl V (k := 7) (by decide)
  rw [show (7 : Int32) = nI 7 from rfl, h, nI_l (by omega), gg_or, Nat.or_comm, gg_nor (w := 7) hg]
theorem gg_down_inv {t : Nat → Nat} {a k V T : Nat} (h : V * 2 ^ (7 * (k + 1)) + gg_join t a (k + 1) = T) : (t (a + k) % 128 + V * 128) * 2 ^ (7 * k) + gg_join t a k = T := by
  rw [← h]
  show _ = V * 2 ^ (7 * (k + 1)) + (gg_join t a k + t (a + k) % 128 * 2 ^ (7 * k))
  rw [show 7 * (k + 1) = 7 * k + 7 by omega, Nat.pow_add, show (2 : Nat) ^ 7 = 128 from rfl, Nat.add_mul, Nat.mul_assoc V 128, Nat.mul_comm 128]
  omega
theorem gg_val_S {t : Nat → Nat} {a c : Nat} (h0 : c ≠ 0) (h5 : c ≤ 5) (hl : t (a + (c - 1)) < 128) (hb : c = 5 → ¬ gg_bad 1 (t (a + (c - 1)))) : (lN (gg_val 1 t a c)).toInt32.toInt64 = lN (gg_val 1 t a c) := by
  apply gg_tr
  have hj := gg_join_lt t a c
  unfold gg_val
  rcases (show c = 1 ∨ c = 2 ∨ c = 3 ∨ c = 4 ∨ c = 5 by omega) with rfl | rfl | rfl | rfl | rfl
  · simp only [show ¬ (1 : Int32) = 0 by decide, not_false_eq_true, true_and] at *
    split <;> omega
  · simp only [show ¬ (1 : Int32) = 0 by decide, not_false_eq_true, true_and] at *
    split <;> omega
  · simp only [show ¬ (1 : Int32) = 0 by decide, not_false_eq_true, true_and] at *
    split <;> omega
  · simp only [show ¬ (1 : Int32) = 0 by decide, not_false_eq_true, true_and] at *
    split <;> omega
  · have h4 := gg_join_lt t a 4
    have e5 : gg_join t a 5 = gg_join t a 4 + t (a + 4) % 128 * 2 ^ (7 * 4) := rfl
    have hb' : ¬ (7 < t (a + 4) ∧ t (a + 4) < 120) := fun q => hb rfl (Or.inr (Or.inl ⟨rfl, q⟩))
    simp only [show ¬ (1 : Int32) = 0 by decide, not_false_eq_true, true_and, show 5 - 1 = 4 from rfl] at *
    rw [e5]
    split <;> omega
/-! write -/
abbrev gg_num (how : Int32) (v : Int64) : Prop := (how = 0 → 0 ≤ v ∧ v ≤ 4294967295) ∧ (how = 1 → -2147483648 ≤ v ∧ v ≤ 2147483647)
def gg_fit (how : Int32) (v : Int64) (n : Nat) : Bool := if how = 0 then decide (v >>> (((7 : Int32) * nI n).toInt64 &&& 63) = 0) else (decide (v >>> (((7 : Int32) * nI n - 1).toInt64 &&& 63) = 0) || decide (v >>> (((7 : Int32) * nI n - 1).toInt64 &&& 63) = -1))
def gg_need (how : Int32) (v : Int64) : Nat := if gg_first (fun i => gg_fit how v (i + 1)) (gg_most how - 1) = 0 then gg_most how else gg_first (fun i => gg_fit how v (i + 1)) (gg_most how - 1)
theorem gg_need_hit {how : Int32} {v : Int64} {n : Nat} (h1 : 1 ≤ n) (h2 : n < gg_most how) (hb : ∀ j, 1 ≤ j → j < n → gg_fit how v j = false) (h : gg_fit how v n = true) : gg_need how v = n := by
  have e := gg_first_hit (P := fun i => gg_fit how v (i + 1)) (i := n - 1) (k := gg_most how - 1) (fun j hj => hb (j + 1) (by omega) (by omega)) (by show gg_fit how v (n - 1 + 1) = true; rw [Nat.sub_add_cancel h1]; exact h) (by omega)
  unfold gg_need
  rw [e, if_neg (by omega), Nat.sub_add_cancel h1]
theorem gg_need_top {how : Int32} {v : Int64} (hb : ∀ j, 1 ≤ j → j < gg_most how → gg_fit how v j = false) : gg_need how v = gg_most how := by
  unfold gg_need
  rw [if_pos (gg_first_none (fun j hj => hb (j + 1) (by omega) (by omega)))]
theorem gg_need_bd (how : Int32) (v : Int64) : 1 ≤ gg_need how v ∧ gg_need how v ≤ gg_most how := by
  have h1 := gg_most_bd how
  have h2 := gg_first_le (P := fun i => gg_fit how v (i + 1)) (gg_most how - 1)
  unfold gg_need
  split <;> omega
theorem gg_7m {n : Nat} (h : 1 ≤ n) : (7 : Int32) * nI n - 1 = nI (7 * n - 1) := by
  rw [gg_7]
  exact pk_sub (b := 1) (by omega)
theorem gg_fit_top {how : Int32} {v : Int64} (ho : how = 0 ∨ how = 1) (h : gg_num how v) : gg_fit how v 5 = true := by
  unfold gg_fit
  rcases ho with rfl | rfl
  · have h1 := h.1 rfl
    rw [if_pos rfl, gg_7]
    apply decide_eq_true
    apply Int64.toInt_inj.mp
    rw [gg_shr v (by decide)]
    have a1 : (0 : Int64).toInt = 0 := by decide
    have a2 : (4294967295 : Int64).toInt = 4294967295 := by decide
    rw [Int64.le_iff_toInt_le, Int64.le_iff_toInt_le, a1, a2] at h1
    rw [a1]
    omega
  · have h1 := h.2 rfl
    rw [if_neg (by decide), gg_7m (by decide), Bool.or_eq_true, decide_eq_true_eq, decide_eq_true_eq, ← Int64.toInt_inj, ← Int64.toInt_inj, gg_shr v (by decide)]
    have a0 : (0 : Int64).toInt = 0 := by decide
    have a3 : (-1 : Int64).toInt = -1 := by decide
    have a1 : (-2147483648 : Int64).toInt = -2147483648 := by decide
    have a2 : (2147483647 : Int64).toInt = 2147483647 := by decide
    rw [Int64.le_iff_toInt_le, Int64.le_iff_toInt_le, a1, a2] at h1
    rw [a0, a3]
    omega
def gg_grp (v : Int64) (i : Nat) : Nat := (v >>> (((7 : Int32) * nI i).toInt64 &&& 63)).toInt32.toBitVec.toNat % 128
theorem gg_grp_lt (v : Int64) (i : Nat) : gg_grp v i < 128 := Nat.mod_lt _ (by decide)
theorem gg_grp_I (v : Int64) (i : Nat) : (v >>> (((7 : Int32) * nI i).toInt64 &&& 63)).toInt32 &&& 127 = nI (gg_grp v i) := pk_and _ 7 (by decide)
def gg_by (v : Int64) (c i : Nat) : Nat := gg_grp v i + (if i + 1 < c then 128 else 0)
theorem gg_by_lt (v : Int64) (c i : Nat) : gg_by v c i < 256 := by
  have := gg_grp_lt v i
  unfold gg_by
  split <;> omega
/-- what write answers, how long the output is then, what it holds -/
def gg_write (how : Int32) (v : Int64) (k : Nat) (u : Nat → Nat) : Int32 × Nat × (Nat → Nat) :=
  if gg_ok how then (if gg_num how v then (if k + gg_need how v ≤ 1000 then (nI (gg_need how v), k + gg_need how v, sb_cat u k (gg_by v (gg_need how v))) else (-2, k, u)) else (-1, k, u)) else (-2, k, u)
end
section
/-! the worlds of the two objects, and the frames of contracts and calls -/
abbrev w0 (h ar ao : Nat) (cA cB : ClassId) (g o : Nat → Int32) (n k : Int32) (v : Int64) : va_W := [(h, .inr (0, [.ref ar, .int n, .ref ao, .int k, .long v])), (ar, .inl (cA, 1000, .inl g)), (ao, .inl (cB, 1000, .inl o))]
abbrev w1 (h ar ao : Nat) (cA cB : ClassId) (g o : Nat → Int32) (n k : Int32) (v : Int64) : va_W := [(h, .inr (1, [.ref ar, .ref ao, .int n, .int k, .long v])), (ar, .inl (cA, 1000, .inl g)), (ao, .inl (cB, 1000, .inl o))]
abbrev ty0 (cA cB : ClassId) : List (ClassId × FieldType) := [(cA, .int), (cB, .int)]
abbrev ty1 (cA cB : ClassId) : List (ClassId × FieldType) := [(cA, .byte), (cB, .byte)]
abbrev gS : Type := (Nat → Int32) × (Nat → Int32) × Int32 × Int32 × Int64
abbrev B0 (h ar ao : Nat) (cA cB : ClassId) (u : gS) : va_W := w0 h ar ao cA cB u.1 u.2.1 u.2.2.1 u.2.2.2.1 u.2.2.2.2
abbrev B1 (h ar ao : Nat) (cA cB : ClassId) (u : gS) : va_W := w1 h ar ao cA cB u.1 u.2.1 u.2.2.1 u.2.2.2.1 u.2.2.2.2
/-- a state holds the row t of n bytes, the output z of k bytes, the value v -/
def gs_is (R : (Nat → Nat) → Nat → (Nat → Int32) → Prop) (t : Nat → Nat) (n : Nat) (z : Nat → Nat) (k : Nat) (v : Int64) (u : gS) : Prop := R t n u.1 ∧ R z k u.2.1 ∧ u.2.2.1 = nI n ∧ u.2.2.2.1 = nI k ∧ u.2.2.2.2 = v
abbrev Pw (D : va_G) (cl : List vw_C) (tys : List (ClassId × FieldType)) (sz : Nat) (W0 : va_W) : State → Prop := fun U => U.heap.size = sz ∧ va_P D cl W0 U.heap ∧ va_K D cl tys U ∧ va_D (fun _ => True) W0
abbrev Bw {S : Type} (D : va_G) (cl : List vw_C) (tys : List (ClassId × FieldType)) (sz : Nat) (W0 : va_W) (B : S → va_W) : S → State → Prop := fun u t => va_P D cl (B u) t.heap ∧ va_K D cl tys t ∧ va_D (va_A W0 sz) (B u)
abbrev Pr (D : va_G) (cl : List vw_C) (tys : List (ClassId × FieldType)) (W0 : va_W) : State → Prop := fun U => va_P D cl W0 U.heap ∧ va_K D cl tys U
section MM
variable {l : Launch} {y : MethodName} {ws ws' : List Cond} {rm : Room} {cc : ByteArray} {maxL : Nat} {S : Type} {av : List Value} {D : va_G} {cl : List vw_C} {tys : List (ClassId × FieldType)} {W0 : va_W} {sz mc ms : Nat} {B : S → va_W}
theorem mm_i {post : Int32 → S → Prop} (hy : plainName y.cls = true) (hw : ws = Cond.code y cc maxL (some .int) :: ws') (hlen : (lg_sl av).length ≤ maxL)
    (body : ∀ (p : Program) (e : Env) (s : State) (m : MethodId) (below : List Frame) (meth : Method) (c : Code) (Q : State → Prop) (A : Nat → Prop) (H : Heap) (ls : Array Slot),
      p.tables.exec = Jvm.exec → c.code = cc → c.maxLocals = maxL → s.vm.findClass y.cls = some m.cls → (∀ w ∈ ws, w.before av.toArray s = true) → va_K D cl tys s → va_P D cl W0 H → va_D A W0 → va_S A s.heap H [] → (∀ q, s.heap.size ≤ q → A q) → lv_has ls maxL (lv_args 0 av) →
      (∀ (H : Heap) (locs : List Loc) (ls : Array Slot) (pc : Nat) (r : Int32) (u : S), decode cc pc = .ok (.ireturn, 1) → post r u → va_P D cl (B u) H → va_D A (B u) → va_S A s.heap H locs → W p l e rm s m av.toArray below meth c H locs mc ms Q (F0 m pc ls [.int r])) →
      W p l e rm s m av.toArray below meth c H [] 0 0 Q (F0 m 0 ls [])) :
    Met l y ws rm (va_Pc av (Pw D cl tys sz W0)) (va_Qi post (Bw D cl tys sz W0 B) (va_A W0 sz)) mc ms (va_A W0 sz) := by
  refine Met.ofW (cc := cc) (maxL := maxL) (ret := some .int) hy hw ?_
  intro p e s m args below meth c s₁ Bd hml hv
  obtain ⟨rfl, hsz, hP, hK, hD0⟩ := hv
  have hts := atoms_spec (ws := ws) Bd.pre
  have hown : s.vm.findClass y.cls = some m.cls := findClass_of_methodNamed Bd.named
  have hlocks := Bd.notSynchronized
  subst hsz
  have hD := hD0.self (sz := s.heap.size)
  have hl := lv_entry av (n := maxL) hlen
  rw [lg_entry_eq]
  refine body p e s m below meth c _ (va_A W0 s.heap.size) s.heap _ Bd.exec Bd.bytes hml hown hts hK hP hD va_S.rf (fun q h => Or.inr h) hl ?_
  intro H locs ls pc r u hd hp hP hD hS
  exact W.iret (v := r) Bd.exec Bd.bytes Bd.returns (fun t ht hW => ⟨⟨r, u, rfl, hp, by rw [ht]; exact hP, va_K.moved hW.alike hK, hD⟩, hS.F ht⟩) hS.2.2 hd
theorem mm_v {post : S → Prop} (hy : plainName y.cls = true) (hw : ws = Cond.code y cc maxL none :: ws') (hlen : (lg_sl av).length ≤ maxL)
    (body : ∀ (p : Program) (e : Env) (s : State) (m : MethodId) (below : List Frame) (meth : Method) (c : Code) (Q : State → Prop) (A : Nat → Prop) (H : Heap) (ls : Array Slot),
      p.tables.exec = Jvm.exec → c.code = cc → c.maxLocals = maxL → s.vm.findClass y.cls = some m.cls → (∀ w ∈ ws, w.before av.toArray s = true) → va_K D cl tys s → va_P D cl W0 H → va_D A W0 → va_S A s.heap H [] → (∀ q, s.heap.size ≤ q → A q) → lv_has ls maxL (lv_args 0 av) →
      (∀ (H : Heap) (locs : List Loc) (ls : Array Slot) (pc : Nat) (u : S), decode cc pc = .ok (.return_, 1) → post u → va_P D cl (B u) H → va_D A (B u) → va_S A s.heap H locs → W p l e rm s m av.toArray below meth c H locs mc ms Q (F0 m pc ls [])) →
      W p l e rm s m av.toArray below meth c H [] 0 0 Q (F0 m 0 ls [])) :
    Met l y ws rm (va_Pc av (Pw D cl tys sz W0)) (va_Qv post (Bw D cl tys sz W0 B) (va_A W0 sz)) mc ms (va_A W0 sz) := by
  refine Met.ofW (cc := cc) (maxL := maxL) (ret := none) hy hw ?_
  intro p e s m args below meth c s₁ Bd hml hv
  obtain ⟨rfl, hsz, hP, hK, hD0⟩ := hv
  have hts := atoms_spec (ws := ws) Bd.pre
  have hown : s.vm.findClass y.cls = some m.cls := findClass_of_methodNamed Bd.named
  have hlocks := Bd.notSynchronized
  subst hsz
  have hD := hD0.self (sz := s.heap.size)
  have hl := lv_entry av (n := maxL) hlen
  rw [lg_entry_eq]
  refine body p e s m below meth c _ (va_A W0 s.heap.size) s.heap _ Bd.exec Bd.bytes hml hown hts hK hP hD va_S.rf (fun q h => Or.inr h) hl ?_
  intro H locs ls pc u hd hp hP hD hS
  exact W.vret Bd.exec Bd.bytes Bd.returns (fun t ht hW => ⟨⟨u, rfl, hp, by rw [ht]; exact hP, va_K.moved hW.alike hK, hD⟩, hS.F ht⟩) hS.2.2 hd
theorem ro_i {PU : State → Prop} {post : Int32 → Prop} (hy : plainName y.cls = true) (hw : ws = Cond.code y cc maxL (some .int) :: ws') (hlen : (lg_sl av).length ≤ maxL)
    (body : ∀ (p : Program) (e : Env) (s : State) (m : MethodId) (below : List Frame) (meth : Method) (c : Code) (Q : State → Prop) (ls : Array Slot),
      p.tables.exec = Jvm.exec → c.code = cc → c.maxLocals = maxL → s.vm.findClass y.cls = some m.cls → (∀ w ∈ ws, w.before av.toArray s = true) → PU s → lv_has ls maxL (lv_args 0 av) →
      (∀ (ls : Array Slot) (pc : Nat) (r : Int32), decode cc pc = .ok (.ireturn, 1) → post r → W p l e rm s m av.toArray below meth c s.heap [] 0 0 Q (F0 m pc ls [.int r])) →
      W p l e rm s m av.toArray below meth c s.heap [] 0 0 Q (F0 m 0 ls [])) :
    Met l y ws rm (va_Pc av PU) (vp_Si post) 0 0 (fun _ => False) := by
  refine Met.ofW (cc := cc) (maxL := maxL) (ret := some .int) hy hw ?_
  intro p e s m args below meth c s₁ Bd hml hv
  obtain ⟨rfl, hPU⟩ := hv
  have hts := atoms_spec (ws := ws) Bd.pre
  have hown : s.vm.findClass y.cls = some m.cls := findClass_of_methodNamed Bd.named
  have hlocks := Bd.notSynchronized
  have hl := lv_entry av (n := maxL) hlen
  rw [lg_entry_eq]
  refine body p e s m below meth c _ _ Bd.exec Bd.bytes hml hown hts hPU hl ?_
  intro ls pc r hd hp
  exact W.iret (v := r) Bd.exec Bd.bytes Bd.returns (fun t ht hW => ⟨r, rfl, hp, ht⟩) (fun q h => by cases h) hd
theorem ro_z {PU : State → Prop} {post : Int32 → Prop} (hy : plainName y.cls = true) (hw : ws = Cond.code y cc maxL (some .boolean) :: ws') (hlen : (lg_sl av).length ≤ maxL)
    (body : ∀ (p : Program) (e : Env) (s : State) (m : MethodId) (below : List Frame) (meth : Method) (c : Code) (Q : State → Prop) (ls : Array Slot),
      p.tables.exec = Jvm.exec → c.code = cc → c.maxLocals = maxL → s.vm.findClass y.cls = some m.cls → (∀ w ∈ ws, w.before av.toArray s = true) → PU s → lv_has ls maxL (lv_args 0 av) →
      (∀ (ls : Array Slot) (pc : Nat) (r : Int32), (r = 0 ∨ r = 1) → decode cc pc = .ok (.ireturn, 1) → post r → W p l e rm s m av.toArray below meth c s.heap [] 0 0 Q (F0 m pc ls [.int r])) →
      W p l e rm s m av.toArray below meth c s.heap [] 0 0 Q (F0 m 0 ls [])) :
    Met l y ws rm (va_Pc av PU) (vp_Si post) 0 0 (fun _ => False) := by
  refine Met.ofW (cc := cc) (maxL := maxL) (ret := some .boolean) hy hw ?_
  intro p e s m args below meth c s₁ Bd hml hv
  obtain ⟨rfl, hPU⟩ := hv
  have hts := atoms_spec (ws := ws) Bd.pre
  have hown : s.vm.findClass y.cls = some m.cls := findClass_of_methodNamed Bd.named
  have hlocks := Bd.notSynchronized
  have hl := lv_entry av (n := maxL) hlen
  rw [lg_entry_eq]
  refine body p e s m below meth c _ _ Bd.exec Bd.bytes hml hown hts hPU hl ?_
  intro ls pc r h01 hd hp
  exact W.zret (v := r) Bd.exec Bd.bytes Bd.returns (by rcases h01 with rfl | rfl <;> decide) (fun t ht hW => ⟨r, rfl, hp, ht⟩) (fun q h => by cases h) hd
theorem ro_l {PU : State → Prop} {post : Int64 → Prop} (hy : plainName y.cls = true) (hw : ws = Cond.code y cc maxL (some .long) :: ws') (hlen : (lg_sl av).length ≤ maxL)
    (body : ∀ (p : Program) (e : Env) (s : State) (m : MethodId) (below : List Frame) (meth : Method) (c : Code) (Q : State → Prop) (ls : Array Slot),
      p.tables.exec = Jvm.exec → c.code = cc → c.maxLocals = maxL → s.vm.findClass y.cls = some m.cls → (∀ w ∈ ws, w.before av.toArray s = true) → PU s → lv_has ls maxL (lv_args 0 av) →
      (∀ (ls : Array Slot) (pc : Nat) (r : Int64), decode cc pc = .ok (.lreturn, 1) → post r → W p l e rm s m av.toArray below meth c s.heap [] 0 0 Q (F0 m pc ls [.long r])) →
      W p l e rm s m av.toArray below meth c s.heap [] 0 0 Q (F0 m 0 ls [])) :
    Met l y ws rm (va_Pc av PU) (vp_Sl post) 0 0 (fun _ => False) := by
  refine Met.ofW (cc := cc) (maxL := maxL) (ret := some .long) hy hw ?_
  intro p e s m args below meth c s₁ Bd hml hv
  obtain ⟨rfl, hPU⟩ := hv
  have hts := atoms_spec (ws := ws) Bd.pre
  have hown : s.vm.findClass y.cls = some m.cls := findClass_of_methodNamed Bd.named
  have hlocks := Bd.notSynchronized
  have hl := lv_entry av (n := maxL) hlen
  rw [lg_entry_eq]
  refine body p e s m below meth c _ _ Bd.exec Bd.bytes hml hown hts hPU hl ?_
  intro ls pc r hd hp
  exact W.lret (v := r) Bd.exec Bd.bytes Bd.returns (fun t ht hW => ⟨r, rfl, hp, ht⟩) (fun q h => by cases h) hd
end MM
theorem fm_of {α β : Type} {f : α → Option β} : ∀ {is : List α} {w : List β}, is.map f = w.map some → is.filterMap f = w
  | [], [], _ => rfl
  | [], _ :: _, h => by simp at h
  | _ :: _, [], h => by simp at h
  | i :: is, a :: w, h => by
    rw [List.map_cons, List.map_cons] at h
    injection h with h1 h2
    rw [List.filterMap_cons, h1]
    exact congrArg (a :: ·) (fm_of h2)
section CC
variable {p : Program} {l : Launch} {e : Env} {R : Room} {s : State} {m : MethodId} {args : Array Value} {below : List Frame} {meth : Method} {c : Code} {H : Heap} {locs : List Loc} {cells slots : Nat} {Q : State → Prop}
variable {pc : Nat} {ls : Array Slot} {rest st : List Value} {cc bytes : ByteArray} {nL maxL n index : Nat} {Ts ws : List Cond} {own : String} {y : MethodName} {ret : Option FieldType} {rm : Room} {av : List Value}
/-- a static method that only answers -/
theorem cc_si {post : Int32 → Prop} (C0 : CallFix p m c cc nL s args Ts own) (hM : Met l y ws rm (va_Pc av (fun _ => True)) (vp_Si post) 0 0 (fun _ => False)) (cw : CallB R s args own index y bytes maxL ret ws rm 0 0 n ∧ (Cond.static y).before args s = true)
    (hn : av.length = n) (hsize : ls.size = nL) (hstack : st = av.reverse ++ rest) (hW : (rest.map fun v => v.category).sum ≤ 8) (hdg : decode cc pc = .ok (.invokestatic index, 3)) (hf : cells ≤ R.cells ∧ slots ≤ R.slots)
    (kk : ∀ r : Int32, post r → W p l e R s m args below meth c H locs cells slots Q (F0 m (pc + 3) ls (.int r :: rest))) : W p l e R s m args below meth c H locs cells slots Q (F0 m pc ls st) :=
  vp_callSi (W.runS (g := F0 m pc ls st) (rest := rest) C0 hM cw ⟨fun a U g mk q => q, fun U hU hW => ⟨rfl, trivial⟩⟩ rfl hn hsize hstack (lv_room hW) hdg hf) kk
theorem cc_sl {post : Int64 → Prop} (C0 : CallFix p m c cc nL s args Ts own) (hM : Met l y ws rm (va_Pc av (fun _ => True)) (vp_Sl post) 0 0 (fun _ => False)) (cw : CallB R s args own index y bytes maxL ret ws rm 0 0 n ∧ (Cond.static y).before args s = true)
    (hn : av.length = n) (hsize : ls.size = nL) (hstack : st = av.reverse ++ rest) (hW : (rest.map fun v => v.category).sum ≤ 8) (hdg : decode cc pc = .ok (.invokestatic index, 3)) (hf : cells ≤ R.cells ∧ slots ≤ R.slots)
    (kk : ∀ r : Int64, post r → W p l e R s m args below meth c H locs cells slots Q (F0 m (pc + 3) ls (.long r :: rest))) : W p l e R s m args below meth c H locs cells slots Q (F0 m pc ls st) :=
  vp_callSl (W.runS (g := F0 m pc ls st) (rest := rest) C0 hM cw ⟨fun a U g mk q => q, fun U hU hW => ⟨rfl, trivial⟩⟩ rfl hn hsize hstack (lv_room hW) hdg hf) kk
variable {D : va_G} {cl : List vw_C} {tys : List (ClassId × FieldType)} {wc : va_W} {b ci : Nat} {fs : List Value} {qc : vw_C}
/-- an object's method that only answers -/
theorem cc_vi {post : Int32 → Prop} (C0 : CallFix p m c cc nL s args Ts own) (hM : Met l y ws rm (va_Pc (.ref b :: av) (Pr D cl tys wc)) (vp_Si post) 0 0 (fun _ => False)) (cw : CallW R s args own qc.1 index y bytes maxL ret ws rm 0 0 n)
    (hP : va_P D cl wc H) (hK : va_K D cl tys s) (hc : cl[ci]? = some qc) (he : wc[0]? = some (b, .inr (ci, fs)))
    (hn : av.length = n) (hsize : ls.size = nL) (hstack : st = av.reverse ++ .ref b :: rest) (hW : (rest.map fun v => v.category).sum ≤ 8) (hdg : decode cc pc = .ok (.invokevirtual index, 3)) (hf : cells ≤ R.cells ∧ slots ≤ R.slots)
    (kk : ∀ r : Int32, post r → W p l e R s m args below meth c H locs cells slots Q (F0 m (pc + 3) ls (.int r :: rest))) : W p l e R s m args below meth c H locs cells slots Q (F0 m pc ls st) :=
  vp_callSi (W.runV (g := F0 m pc ls st) (rest := rest) C0 hM cw ⟨fun a U g mk q => ⟨q.1, q.2.1, va_K.moved (u := U) (U := U.calling g mk a) (Vm.Alike.refl U.vm) q.2.2⟩, va_recv hK hP hc he, fun U hU hW => ⟨rfl, by rw [hU]; exact hP, va_K.moved hW.alike hK⟩⟩ rfl hn hsize hstack (lv_room hW) hdg hf) kk
theorem cc_vl {post : Int64 → Prop} (C0 : CallFix p m c cc nL s args Ts own) (hM : Met l y ws rm (va_Pc (.ref b :: av) (Pr D cl tys wc)) (vp_Sl post) 0 0 (fun _ => False)) (cw : CallW R s args own qc.1 index y bytes maxL ret ws rm 0 0 n)
    (hP : va_P D cl wc H) (hK : va_K D cl tys s) (hc : cl[ci]? = some qc) (he : wc[0]? = some (b, .inr (ci, fs)))
    (hn : av.length = n) (hsize : ls.size = nL) (hstack : st = av.reverse ++ .ref b :: rest) (hW : (rest.map fun v => v.category).sum ≤ 8) (hdg : decode cc pc = .ok (.invokevirtual index, 3)) (hf : cells ≤ R.cells ∧ slots ≤ R.slots)
    (kk : ∀ r : Int64, post r → W p l e R s m args below meth c H locs cells slots Q (F0 m (pc + 3) ls (.long r :: rest))) : W p l e R s m args below meth c H locs cells slots Q (F0 m pc ls st) :=
  vp_callSl (W.runV (g := F0 m pc ls st) (rest := rest) C0 hM cw ⟨fun a U g mk q => ⟨q.1, q.2.1, va_K.moved (u := U) (U := U.calling g mk a) (Vm.Alike.refl U.vm) q.2.2⟩, va_recv hK hP hc he, fun U hU hW => ⟨rfl, by rw [hU]; exact hP, va_K.moved hW.alike hK⟩⟩ rfl hn hsize hstack (lv_room hW) hdg hf) kk
variable {S : Type} {B : S → va_W} {wa wr : va_W} {A0 : Nat → Prop} {H0 : Heap}
/-- an object's method that changes its own cells -/
theorem cc_mi {post : Int32 → S → Prop} (isC isR : List Nat) (C0 : CallFix p m c cc nL s args Ts own) (hM : Met l y ws rm (va_Pc (.ref b :: av) (Pw D cl tys H.size wc)) (va_Qi post (Bw D cl tys H.size wc B) (va_A wc H.size)) 0 0 (va_A wc H.size)) (cw : CallW R s args own qc.1 index y bytes maxL ret ws rm 0 0 n)
    (hP : va_P D cl wa H) (hD : va_D A0 wa) (hS : va_S A0 H0 H locs) (hA : ∀ q, H0.size ≤ q → A0 q) (hK : va_K D cl tys s) (hC : isC.map (fun i => wa[i]?) = wc.map some) (hR : isR.map (fun i => wa[i]?) = wr.map some) (hnC : va_nd isC = true) (hnR : va_nd isR = true) (hdis : ∀ i ∈ isR, i ∉ isC) (hc : cl[ci]? = some qc) (he : wc[0]? = some (b, .inr (ci, fs)))
    (hn : av.length = n) (hsize : ls.size = nL) (hstack : st = av.reverse ++ .ref b :: rest) (hW : (rest.map fun v => v.category).sum ≤ 8) (hdg : decode cc pc = .ok (.invokevirtual index, 3)) (hf : cells ≤ R.cells ∧ slots ≤ R.slots)
    (kk : ∀ (r : Int32) (u : S) (H : Heap) (locs : List Loc), post r u → va_P D cl (wr ++ B u) H → va_D A0 (wr ++ B u) → va_S A0 H0 H locs → W p l e R s m args below meth c H locs cells slots Q (F0 m (pc + 3) ls (.int r :: rest))) : W p l e R s m args below meth c H locs cells slots Q (F0 m pc ls st) := by
  have hPc := hP.sub (ws' := wc) isC (fm_of hC)
  have hDc := hD.sub (ws' := wc) isC hnC hC
  have hFc := va_free (wc := wc) hD hS hA isC hC
  refine va_calli (va_runV (g := F0 m pc ls st) (As := av) (rest := rest) C0 hM cw ⟨fun a U g mk q => ⟨q.1, q.2.1, q.2.2.1, va_K.moved (u := U) (U := U.calling g mk a) (Vm.Alike.refl U.vm) q.2.2.2.1, q.2.2.2.2⟩, va_recv hK hPc hc he, fun U hU hW => ⟨rfl, by rw [hU], by rw [hU]; exact hPc, va_K.moved hW.alike hK, hDc.weaken (fun _ _ _ _ => trivial)⟩⟩ rfl hn hsize hstack (lv_room hW) hdg hf) hS (fun q _ h => hFc q h) hFc (fun r u t H1 locs ht hvm hw hB hz1 hk1 hS => ?_)
  obtain ⟨hP1, hK1, hD1⟩ := hB
  rw [ht] at hP1
  obtain ⟨hP, hD⟩ := va_join hP hD isC isR hC hR hnR hdis hk1 hFc hP1 hD1
  exact kk r u H1 locs hw hP hD hS
theorem cc_mv {post : S → Prop} (isC isR : List Nat) (C0 : CallFix p m c cc nL s args Ts own) (hM : Met l y ws rm (va_Pc (.ref b :: av) (Pw D cl tys H.size wc)) (va_Qv post (Bw D cl tys H.size wc B) (va_A wc H.size)) 0 0 (va_A wc H.size)) (cw : CallW R s args own qc.1 index y bytes maxL ret ws rm 0 0 n)
    (hP : va_P D cl wa H) (hD : va_D A0 wa) (hS : va_S A0 H0 H locs) (hA : ∀ q, H0.size ≤ q → A0 q) (hK : va_K D cl tys s) (hC : isC.map (fun i => wa[i]?) = wc.map some) (hR : isR.map (fun i => wa[i]?) = wr.map some) (hnC : va_nd isC = true) (hnR : va_nd isR = true) (hdis : ∀ i ∈ isR, i ∉ isC) (hc : cl[ci]? = some qc) (he : wc[0]? = some (b, .inr (ci, fs)))
    (hn : av.length = n) (hsize : ls.size = nL) (hstack : st = av.reverse ++ .ref b :: rest) (hW : (rest.map fun v => v.category).sum ≤ 8) (hdg : decode cc pc = .ok (.invokevirtual index, 3)) (hf : cells ≤ R.cells ∧ slots ≤ R.slots)
    (kk : ∀ (u : S) (H : Heap) (locs : List Loc), post u → va_P D cl (wr ++ B u) H → va_D A0 (wr ++ B u) → va_S A0 H0 H locs → W p l e R s m args below meth c H locs cells slots Q (F0 m (pc + 3) ls rest)) : W p l e R s m args below meth c H locs cells slots Q (F0 m pc ls st) := by
  have hPc := hP.sub (ws' := wc) isC (fm_of hC)
  have hDc := hD.sub (ws' := wc) isC hnC hC
  have hFc := va_free (wc := wc) hD hS hA isC hC
  refine va_callv (va_runV (g := F0 m pc ls st) (As := av) (rest := rest) C0 hM cw ⟨fun a U g mk q => ⟨q.1, q.2.1, q.2.2.1, va_K.moved (u := U) (U := U.calling g mk a) (Vm.Alike.refl U.vm) q.2.2.2.1, q.2.2.2.2⟩, va_recv hK hPc hc he, fun U hU hW => ⟨rfl, by rw [hU], by rw [hU]; exact hPc, va_K.moved hW.alike hK, hDc.weaken (fun _ _ _ _ => trivial)⟩⟩ rfl hn hsize hstack (lv_room hW) hdg hf) hS (fun q _ h => hFc q h) hFc (fun u t H1 locs ht hvm hw hB hz1 hk1 hS => ?_)
  obtain ⟨hP1, hK1, hD1⟩ := hB
  rw [ht] at hP1
  obtain ⟨hP, hD⟩ := va_join hP hD isC isR hC hR hnR hdis hk1 hFc hP1 hD1
  exact kk u H1 locs hw hP hD hS
end CC
end
section
/-! the static methods: they only answer -/
abbrev R0 : Room := { frames := 0, cells := 0, slots := 0, locals := 0 }
abbrev R1 : Room := { frames := 1, cells := 0, slots := 0, locals := 30 }
abbrev R2 : Room := { frames := 2, cells := 0, slots := 0, locals := 60 }
theorem z1 {P : Prop} (h : P) : (¬ (1 : Int32) = 0 ↔ P) := ⟨fun _ => h, fun _ => by decide⟩
theorem z0 {P : Prop} (h : ¬ P) : (¬ (0 : Int32) = 0 ↔ P) := ⟨fun q => absurd rfl q, fun q => absurd q h⟩
theorem gg_min {a b : Nat} (ha : a < 2 ^ 31) (hb : b < 2 ^ 31) : (if nI b < nI a then nI b else nI a) = nI (min a b) := by
  by_cases h : b < a
  · rw [if_pos ((nI_ltI hb ha).mpr h), Nat.min_eq_right (by omega)]
  · rw [if_neg (fun q => h ((nI_ltI hb ha).mp q)), Nat.min_eq_left (by omega)]

set_option maxHeartbeats 4000000 in
set_option maxRecDepth 100000 in
theorem c_X0_isKind (l : Launch) (a : Int32) : Met l yX0_isKind wsX0_isKind R0 (va_Pc [.int a] (fun _ => True)) (vp_Si (fun r => ¬ r = 0 ↔ gg_ok a)) 0 0 (fun _ => False) := by
  refine ro_z (cc := cX0_isKind) (maxL := 1) (by decide) rfl (Nat.le_of_ble_eq_true rfl) ?_
  intro p e s m below meth c Q ls hx hb hml hown hts hPU hl fin
  have hown : s.vm.findClass RX0 = some m.cls := hown
  have hl : lv_has ls 1 [(0, .int a)] := hl
  refine lv_iload_n hx hb dX0_isKind_0 rfl (lv_at hl 0 rfl) ?_
  refine lv_if_eq (tgt := 14) hx hb dX0_isKind_1 (by decide) (fun c_1 => ?_) (fun c_1 => ?_)
  · refine lv_iconst (v := 1) hx hb dX0_isKind_14 (by decide) ?_
    refine lv_goto (tgt := 19) hx hb dX0_isKind_15 (by decide) ?_
    exact fin ls _ 1 (by decide) dX0_isKind_19 (z1 (Or.inl c_1))
  · refine lv_iload_n hx hb dX0_isKind_4 rfl (lv_at hl 0 rfl) ?_
    refine lv_iconst (v := 1) hx hb dX0_isKind_5 (by decide) ?_
    refine lv_icmp_eq (tgt := 14) hx hb dX0_isKind_6 (by decide) (fun c_2 => ?_) (fun c_2 => ?_)
    · refine lv_iconst (v := 1) hx hb dX0_isKind_14 (by decide) ?_
      refine lv_goto (tgt := 19) hx hb dX0_isKind_15 (by decide) ?_
      exact fin ls _ 1 (by decide) dX0_isKind_19 (z1 (Or.inr (Or.inl c_2)))
    · refine lv_iload_n hx hb dX0_isKind_9 rfl (lv_at hl 0 rfl) ?_
      refine lv_iconst (v := 2) hx hb dX0_isKind_10 (by decide) ?_
      refine lv_icmp_ne (tgt := 18) hx hb dX0_isKind_11 (by decide) (fun c_3 => ?_) (fun c_3 => ?_)
      · refine lv_iconst (v := 0) hx hb dX0_isKind_18 (by decide) ?_
        exact fin ls _ 0 (by decide) dX0_isKind_19 (z0 (fun q => q.elim c_1 (fun q => q.elim c_2 c_3)))
      · refine lv_iconst (v := 1) hx hb dX0_isKind_14 (by decide) ?_
        refine lv_goto (tgt := 19) hx hb dX0_isKind_15 (by decide) ?_
        exact fin ls _ 1 (by decide) dX0_isKind_19 (z1 (Or.inr (Or.inr c_3)))

set_option maxHeartbeats 4000000 in
set_option maxRecDepth 100000 in
theorem c_X0_mostGroups (l : Launch) (a : Int32) : Met l yX0_mostGroups wsX0_mostGroups R0 (va_Pc [.int a] (fun _ => True)) (vp_Si (fun r => r = nI (gg_most a))) 0 0 (fun _ => False) := by
  refine ro_i (cc := cX0_mostGroups) (maxL := 1) (by decide) rfl (Nat.le_of_ble_eq_true rfl) ?_
  intro p e s m below meth c Q ls hx hb hml hown hts hPU hl fin
  have hown : s.vm.findClass RX0 = some m.cls := hown
  have hl : lv_has ls 1 [(0, .int a)] := hl
  refine lv_iload_n hx hb dX0_mostGroups_0 rfl (lv_at hl 0 rfl) ?_
  refine lv_iconst (v := 2) hx hb dX0_mostGroups_1 (by decide) ?_
  refine lv_icmp_ne (tgt := 10) hx hb dX0_mostGroups_2 (by decide) (fun c_1 => ?_) (fun c_1 => ?_)
  · refine lv_iconst (v := nI 5) hx hb dX0_mostGroups_10 (by decide) ?_
    exact fin ls _ (nI 5) dX0_mostGroups_11 (by unfold gg_most; rw [if_neg c_1])
  · refine lv_bipush (v := nI 10) hx hb dX0_mostGroups_5 (by decide) ?_
    refine lv_goto (tgt := 11) hx hb dX0_mostGroups_7 (by decide) ?_
    exact fin ls _ (nI 10) dX0_mostGroups_11 (by unfold gg_most; rw [if_pos c_1])

set_option maxHeartbeats 4000000 in
set_option maxRecDepth 100000 in
theorem c_X0_mayEndLongest (l : Launch) (a : Int32) (b : Nat) (ho : gg_ok a) (hb128 : b < 128) : Met l yX0_mayEndLongest wsX0_mayEndLongest R0 (va_Pc [.int a, .int (nI b)] (fun _ => True)) (vp_Si (fun r => ¬ r = 0 ↔ ¬ gg_bad a b)) 0 0 (fun _ => False) := by
  refine ro_z (cc := cX0_mayEndLongest) (maxL := 2) (by decide) rfl (Nat.le_of_ble_eq_true rfl) ?_
  intro p e s m below meth c Q ls hx hb hml hown hts hPU hl fin
  have hown : s.vm.findClass RX0 = some m.cls := hown
  have hl : lv_has ls 2 [(0, .int a), (1, .int (nI b))] := hl
  refine lv_iload_n hx hb dX0_mayEndLongest_0 rfl (lv_at hl 0 rfl) ?_
  refine lv_if_ne (tgt := 16) hx hb dX0_mayEndLongest_1 (by decide) (fun c_1 => ?_) (fun c_1 => ?_)
  · refine lv_iload_n hx hb dX0_mayEndLongest_16 rfl (lv_at hl 0 rfl) ?_
    refine lv_iconst (v := 1) hx hb dX0_mayEndLongest_17 (by decide) ?_
    refine lv_icmp_ne (tgt := 39) hx hb dX0_mayEndLongest_18 (by decide) (fun c_2 => ?_) (fun c_2 => ?_)
    · refine lv_iload_n hx hb dX0_mayEndLongest_39 rfl (lv_at hl 1 rfl) ?_
      refine lv_if_eq (tgt := 49) hx hb dX0_mayEndLongest_40 (by decide) (fun c_3 => ?_) (fun c_3 => ?_)
      · have dc_3 : b = 0 := (nI_eq (b := 0) (by omega) (by decide)).mp c_3
        refine lv_iconst (v := 1) hx hb dX0_mayEndLongest_49 (by decide) ?_
        refine lv_goto (tgt := 54) hx hb dX0_mayEndLongest_50 (by decide) ?_
        exact fin ls _ 1 (by decide) dX0_mayEndLongest_54 (z1 (fun q => q.elim (fun q => absurd q.1 c_1) (fun q => q.elim (fun q => absurd q.1 c_2) (fun q => by omega))))
      · have dc_3 : ¬ b = 0 := fun q => c_3 (by rw [q]; rfl)
        refine lv_iload_n hx hb dX0_mayEndLongest_43 rfl (lv_at hl 1 rfl) ?_
        refine lv_bipush (v := 127) hx hb dX0_mayEndLongest_44 (by decide) ?_
        refine lv_icmp_ne (tgt := 53) hx hb dX0_mayEndLongest_46 (by decide) (fun c_4 => ?_) (fun c_4 => ?_)
        · have ec_4 : ¬ b = 127 := fun q => c_4 (by rw [q]; rfl)
          refine lv_iconst (v := 0) hx hb dX0_mayEndLongest_53 (by decide) ?_
          exact fin ls _ 0 (by decide) dX0_mayEndLongest_54 (z0 (fun q => q (Or.inr (Or.inr ⟨(ho.resolve_left c_1).resolve_left c_2, by omega, by omega⟩))))
        · have ec_4 : b = 127 := (nI_eq (b := 127) (by omega) (by decide)).mp c_4
          refine lv_iconst (v := 1) hx hb dX0_mayEndLongest_49 (by decide) ?_
          refine lv_goto (tgt := 54) hx hb dX0_mayEndLongest_50 (by decide) ?_
          exact fin ls _ 1 (by decide) dX0_mayEndLongest_54 (z1 (fun q => q.elim (fun q => absurd q.1 c_1) (fun q => q.elim (fun q => absurd q.1 c_2) (fun q => by omega))))
    · refine lv_iload_n hx hb dX0_mayEndLongest_21 rfl (lv_at hl 1 rfl) ?_
      refine lv_bipush (v := 7) hx hb dX0_mayEndLongest_22 (by decide) ?_
      refine lv_icmp_le (tgt := 33) hx hb dX0_mayEndLongest_24 (by decide) (fun c_5 => ?_) (fun c_5 => ?_)
      · have dc_5 : b ≤ 7 := (nI_leI (b := 7) (by omega) (by decide)).mp c_5
        refine lv_iconst (v := 1) hx hb dX0_mayEndLongest_33 (by decide) ?_
        refine lv_goto (tgt := 38) hx hb dX0_mayEndLongest_34 (by decide) ?_
        exact fin ls _ 1 (by decide) dX0_mayEndLongest_38 (z1 (fun q => q.elim (fun q => absurd q.1 c_1) (fun q => q.elim (fun q => by omega) (fun q => absurd (c_2.symm.trans q.1) (by decide)))))
      · have dc_5 : 7 < b := Nat.lt_of_not_le (fun q => c_5 ((nI_leI (b := 7) (by omega) (by decide)).mpr q))
        refine lv_iload_n hx hb dX0_mayEndLongest_27 rfl (lv_at hl 1 rfl) ?_
        refine lv_bipush (v := 120) hx hb dX0_mayEndLongest_28 (by decide) ?_
        refine lv_icmp_lt (tgt := 37) hx hb dX0_mayEndLongest_30 (by decide) (fun c_6 => ?_) (fun c_6 => ?_)
        · have ec_6 : b < 120 := (nI_ltI (b := 120) (by omega) (by decide)).mp c_6
          refine lv_iconst (v := 0) hx hb dX0_mayEndLongest_37 (by decide) ?_
          exact fin ls _ 0 (by decide) dX0_mayEndLongest_38 (z0 (fun q => q (Or.inr (Or.inl ⟨c_2, dc_5, ec_6⟩))))
        · have ec_6 : ¬ b < 120 := fun q => c_6 ((nI_ltI (b := 120) (by omega) (by decide)).mpr q)
          refine lv_iconst (v := 1) hx hb dX0_mayEndLongest_33 (by decide) ?_
          refine lv_goto (tgt := 38) hx hb dX0_mayEndLongest_34 (by decide) ?_
          exact fin ls _ 1 (by decide) dX0_mayEndLongest_38 (z1 (fun q => q.elim (fun q => absurd q.1 c_1) (fun q => q.elim (fun q => by omega) (fun q => absurd (c_2.symm.trans q.1) (by decide)))))
  · refine lv_iload_n hx hb dX0_mayEndLongest_4 rfl (lv_at hl 1 rfl) ?_
    refine lv_bipush (v := 15) hx hb dX0_mayEndLongest_5 (by decide) ?_
    refine lv_icmp_gt (tgt := 14) hx hb dX0_mayEndLongest_7 (by decide) (fun c_7 => ?_) (fun c_7 => ?_)
    · have dc_7 : 15 < b := (nI_ltI (a := 15) (by decide) (by omega)).mp c_7
      refine lv_iconst (v := 0) hx hb dX0_mayEndLongest_14 (by decide) ?_
      exact fin ls _ 0 (by decide) dX0_mayEndLongest_15 (z0 (fun q => q (Or.inl ⟨c_1, dc_7⟩)))
    · have dc_7 : ¬ 15 < b := fun q => c_7 ((nI_ltI (a := 15) (by decide) (by omega)).mpr q)
      refine lv_iconst (v := 1) hx hb dX0_mayEndLongest_10 (by decide) ?_
      refine lv_goto (tgt := 15) hx hb dX0_mayEndLongest_11 (by decide) ?_
      exact fin ls _ 1 (by decide) dX0_mayEndLongest_15 (z1 (fun q => q.elim (fun q => dc_7 q.2) (fun q => q.elim (fun q => absurd (c_1.symm.trans q.1) (by decide)) (fun q => absurd (c_1.symm.trans q.1) (by decide)))))

set_option maxHeartbeats 4000000 in
set_option maxRecDepth 100000 in
theorem c_X0_isNumberOf (l : Launch) (a : Int32) (x : Int64) : Met l yX0_isNumberOf wsX0_isNumberOf R0 (va_Pc [.int a, .long x] (fun _ => True)) (vp_Si (fun r => ¬ r = 0 ↔ gg_num a x)) 0 0 (fun _ => False) := by
  refine ro_z (cc := cX0_isNumberOf) (maxL := 3) (by decide) rfl (Nat.le_of_ble_eq_true rfl) ?_
  intro p e s m below meth c Q ls hx hb hml hown hts hPU hl fin
  have hown : s.vm.findClass RX0 = some m.cls := hown
  have hl : lv_has ls 3 [(0, .int a), (1, .long x)] := hl
  refine lv_iload_n hx hb dX0_isNumberOf_0 rfl (lv_at hl 0 rfl) ?_
  refine lv_if_ne (tgt := 24) hx hb dX0_isNumberOf_1 (by decide) (fun c_1 => ?_) (fun c_1 => ?_)
  · refine lv_iload_n hx hb dX0_isNumberOf_24 rfl (lv_at hl 0 rfl) ?_
    refine lv_iconst (v := 1) hx hb dX0_isNumberOf_25 (by decide) ?_
    refine lv_icmp_ne (tgt := 51) hx hb dX0_isNumberOf_26 (by decide) (fun c_2 => ?_) (fun c_2 => ?_)
    · refine lv_iconst (v := 1) hx hb dX0_isNumberOf_51 (by decide) ?_
      exact fin ls _ 1 (by decide) dX0_isNumberOf_52 (z1 ⟨fun q => absurd q c_1, fun q => absurd q c_2⟩)
    · refine lv_lload_n hx hb dX0_isNumberOf_29 rfl (lv_at hl 1 rfl) ?_
      refine lv_ldc2 hx hb hown (hts (.constantLong RX0 69 (-2147483648)) (by decide +kernel)) dX0_isNumberOf_30 ?_
      refine W.lcmp hx hb dX0_isNumberOf_33 ?_
      refine lv_if_lt (tgt := 49) hx hb dX0_isNumberOf_34 (by decide) (fun c_3 => ?_) (fun c_3 => ?_)
      · have dc_3 : ¬ -2147483648 ≤ x := Int64.not_le.mpr ((lg_cmp_lt _ _).mp c_3)
        refine lv_iconst (v := 0) hx hb dX0_isNumberOf_49 (by decide) ?_
        exact fin ls _ 0 (by decide) dX0_isNumberOf_50 (z0 (fun q => dc_3 (q.2 c_2).1))
      · have dc_3 : -2147483648 ≤ x := Int64.not_lt.mp (fun q => c_3 ((lg_cmp_lt _ _).mpr q))
        refine lv_lload_n hx hb dX0_isNumberOf_37 rfl (lv_at hl 1 rfl) ?_
        refine lv_ldc2 hx hb hown (hts (.constantLong RX0 71 2147483647) (by decide +kernel)) dX0_isNumberOf_38 ?_
        refine W.lcmp hx hb dX0_isNumberOf_41 ?_
        refine lv_if_gt (tgt := 49) hx hb dX0_isNumberOf_42 (by decide) (fun c_4 => ?_) (fun c_4 => ?_)
        · have ec_4 : ¬ x ≤ 2147483647 := Int64.not_le.mpr ((lg_cmp_gt _ _).mp c_4)
          refine lv_iconst (v := 0) hx hb dX0_isNumberOf_49 (by decide) ?_
          exact fin ls _ 0 (by decide) dX0_isNumberOf_50 (z0 (fun q => ec_4 (q.2 c_2).2))
        · have ec_4 : x ≤ 2147483647 := Int64.not_lt.mp (fun q => c_4 ((lg_cmp_gt _ _).mpr q))
          refine lv_iconst (v := 1) hx hb dX0_isNumberOf_45 (by decide) ?_
          refine lv_goto (tgt := 50) hx hb dX0_isNumberOf_46 (by decide) ?_
          exact fin ls _ 1 (by decide) dX0_isNumberOf_50 (z1 ⟨fun q => absurd q c_1, fun _ => ⟨dc_3, ec_4⟩⟩)
  · refine lv_lload_n hx hb dX0_isNumberOf_4 rfl (lv_at hl 1 rfl) ?_
    refine lv_lconst (v := 0) hx hb dX0_isNumberOf_5 (by decide) ?_
    refine W.lcmp hx hb dX0_isNumberOf_6 ?_
    refine lv_if_lt (tgt := 22) hx hb dX0_isNumberOf_7 (by decide) (fun c_5 => ?_) (fun c_5 => ?_)
    · have dc_5 : ¬ 0 ≤ x := Int64.not_le.mpr ((lg_cmp_lt _ _).mp c_5)
      refine lv_iconst (v := 0) hx hb dX0_isNumberOf_22 (by decide) ?_
      exact fin ls _ 0 (by decide) dX0_isNumberOf_23 (z0 (fun q => dc_5 (q.1 c_1).1))
    · have dc_5 : 0 ≤ x := Int64.not_lt.mp (fun q => c_5 ((lg_cmp_lt _ _).mpr q))
      refine lv_lload_n hx hb dX0_isNumberOf_10 rfl (lv_at hl 1 rfl) ?_
      refine lv_ldc2 hx hb hown (hts (.constantLong RX0 67 4294967295) (by decide +kernel)) dX0_isNumberOf_11 ?_
      refine W.lcmp hx hb dX0_isNumberOf_14 ?_
      refine lv_if_gt (tgt := 22) hx hb dX0_isNumberOf_15 (by decide) (fun c_6 => ?_) (fun c_6 => ?_)
      · have ec_6 : ¬ x ≤ 4294967295 := Int64.not_le.mpr ((lg_cmp_gt _ _).mp c_6)
        refine lv_iconst (v := 0) hx hb dX0_isNumberOf_22 (by decide) ?_
        exact fin ls _ 0 (by decide) dX0_isNumberOf_23 (z0 (fun q => ec_6 (q.1 c_1).2))
      · have ec_6 : x ≤ 4294967295 := Int64.not_lt.mp (fun q => c_6 ((lg_cmp_gt _ _).mpr q))
        refine lv_iconst (v := 1) hx hb dX0_isNumberOf_18 (by decide) ?_
        refine lv_goto (tgt := 23) hx hb dX0_isNumberOf_19 (by decide) ?_
        exact fin ls _ 1 (by decide) dX0_isNumberOf_23 (z1 ⟨fun _ => ⟨dc_5, ec_6⟩, fun q => absurd (c_1.symm.trans q) (by decide)⟩)

set_option maxHeartbeats 4000000 in
set_option maxRecDepth 100000 in
theorem c_X0_fitsGroups (l : Launch) (a : Int32) (x : Int64) (i : Nat) : Met l yX0_fitsGroups wsX0_fitsGroups R0 (va_Pc [.int a, .long x, .int (nI i)] (fun _ => True)) (vp_Si (fun r => ¬ r = 0 ↔ gg_fit a x i = true)) 0 0 (fun _ => False) := by
  refine ro_z (cc := cX0_fitsGroups) (maxL := 6) (by decide) rfl (Nat.le_of_ble_eq_true rfl) ?_
  intro p e s m below meth c Q ls hx hb hml hown hts hPU hl fin
  have hown : s.vm.findClass RX0 = some m.cls := hown
  have hl : lv_has ls 6 [(0, .int a), (1, .long x), (3, .int (nI i))] := hl
  refine lv_iload_n hx hb dX0_fitsGroups_0 rfl (lv_at hl 0 rfl) ?_
  refine lv_if_ne (tgt := 21) hx hb dX0_fitsGroups_1 (by decide) (fun c_1 => ?_) (fun c_1 => ?_)
  · refine lv_lload_n hx hb dX0_fitsGroups_21 rfl (lv_at hl 1 rfl) ?_
    refine lv_bipush (v := 7) hx hb dX0_fitsGroups_22 (by decide) ?_
    refine lv_iload_n hx hb dX0_fitsGroups_24 rfl (lv_at hl 2 rfl) ?_
    refine lv_imul hx hb dX0_fitsGroups_25 ?_
    refine lv_iconst (v := 1) hx hb dX0_fitsGroups_26 (by decide) ?_
    refine lv_isub hx hb dX0_fitsGroups_27 ?_
    refine lv_lshr hx hb dX0_fitsGroups_28 rfl ?_
    refine lv_topl (fun y_2 ey_2 => ?_)
    refine lv_lstore (lv' := [(4, .long y_2), (0, .int a), (1, .long x), (3, .int (nI i))]) hx hb dX0_fitsGroups_29 hl (by decide) rfl (fun ls hl => ?_)
    refine lv_lload hx hb dX0_fitsGroups_31 (lv_at hl 0 rfl) ?_
    refine lv_lconst (v := 0) hx hb dX0_fitsGroups_33 (by decide) ?_
    refine W.lcmp hx hb dX0_fitsGroups_34 ?_
    refine lv_if_eq (tgt := 47) hx hb dX0_fitsGroups_35 (by decide) (fun c_3 => ?_) (fun c_3 => ?_)
    · refine lv_iconst (v := 1) hx hb dX0_fitsGroups_47 (by decide) ?_
      refine lv_goto (tgt := 52) hx hb dX0_fitsGroups_48 (by decide) ?_
      exact fin ls _ 1 (by decide) dX0_fitsGroups_52 (z1 (by unfold gg_fit; rw [if_neg c_1, ← ey_2, Bool.or_eq_true, decide_eq_true_eq, decide_eq_true_eq]; exact Or.inl ((lg_cmp_eq _ _).mp c_3)))
    · refine lv_lload hx hb dX0_fitsGroups_38 (lv_at hl 0 rfl) ?_
      refine lv_ldc2 hx hb hown (hts (.constantLong RX0 77 (-1)) (by decide +kernel)) dX0_fitsGroups_40 ?_
      refine W.lcmp hx hb dX0_fitsGroups_43 ?_
      refine lv_if_ne (tgt := 51) hx hb dX0_fitsGroups_44 (by decide) (fun c_4 => ?_) (fun c_4 => ?_)
      · refine lv_iconst (v := 0) hx hb dX0_fitsGroups_51 (by decide) ?_
        exact fin ls _ 0 (by decide) dX0_fitsGroups_52 (z0 (fun q => by unfold gg_fit at q; rw [if_neg c_1, ← ey_2, Bool.or_eq_true, decide_eq_true_eq, decide_eq_true_eq] at q; exact q.elim (fun q => c_3 ((lg_cmp_eq _ _).mpr q)) (fun q => c_4 ((lg_cmp_eq _ _).mpr q))))
      · refine lv_iconst (v := 1) hx hb dX0_fitsGroups_47 (by decide) ?_
        refine lv_goto (tgt := 52) hx hb dX0_fitsGroups_48 (by decide) ?_
        exact fin ls _ 1 (by decide) dX0_fitsGroups_52 (z1 (by unfold gg_fit; rw [if_neg c_1, ← ey_2, Bool.or_eq_true, decide_eq_true_eq, decide_eq_true_eq]; exact Or.inr ((lg_cmp_eq _ _).mp c_4)))
  · refine lv_lload_n hx hb dX0_fitsGroups_4 rfl (lv_at hl 1 rfl) ?_
    refine lv_bipush (v := 7) hx hb dX0_fitsGroups_5 (by decide) ?_
    refine lv_iload_n hx hb dX0_fitsGroups_7 rfl (lv_at hl 2 rfl) ?_
    refine lv_imul hx hb dX0_fitsGroups_8 ?_
    refine lv_lshr hx hb dX0_fitsGroups_9 rfl ?_
    refine lv_lconst (v := 0) hx hb dX0_fitsGroups_10 (by decide) ?_
    refine W.lcmp hx hb dX0_fitsGroups_11 ?_
    refine lv_if_ne (tgt := 19) hx hb dX0_fitsGroups_12 (by decide) (fun c_5 => ?_) (fun c_5 => ?_)
    · refine lv_iconst (v := 0) hx hb dX0_fitsGroups_19 (by decide) ?_
      exact fin ls _ 0 (by decide) dX0_fitsGroups_20 (z0 (fun q => by unfold gg_fit at q; rw [if_pos c_1, decide_eq_true_eq] at q; exact c_5 ((lg_cmp_eq _ _).mpr q)))
    · refine lv_iconst (v := 1) hx hb dX0_fitsGroups_15 (by decide) ?_
      refine lv_goto (tgt := 20) hx hb dX0_fitsGroups_16 (by decide) ?_
      exact fin ls _ 1 (by decide) dX0_fitsGroups_20 (z1 (by unfold gg_fit; rw [if_pos c_1, decide_eq_true_eq]; exact (lg_cmp_eq _ _).mp c_5))

set_option maxHeartbeats 4000000 in
set_option maxRecDepth 100000 in
theorem c_X0_extendSign (l : Launch) (J b i : Nat) (hJ : J < 2 ^ (7 * i)) (hb128 : b < 128) (hi : i ≤ 10) : Met l yX0_extendSign wsX0_extendSign R0 (va_Pc [.long (lN J), .int (nI b), .int (nI i)] (fun _ => True)) (vp_Sl (fun r => r = lN (J + (if 64 ≤ b then 18446744073709551615 * 2 ^ (7 * i) else 0)))) 0 0 (fun _ => False) := by
  refine ro_l (cc := cX0_extendSign) (maxL := 5) (by decide) rfl (Nat.le_of_ble_eq_true rfl) ?_
  intro p e s m below meth c Q ls hx hb hml hown hts hPU hl fin
  have hown : s.vm.findClass RX0 = some m.cls := hown
  have hl : lv_has ls 5 [(0, .long (lN J)), (2, .int (nI b)), (3, .int (nI i))] := hl
  refine lv_bipush (v := 7) hx hb dX0_extendSign_0 (by decide) ?_
  refine lv_iload_n hx hb dX0_extendSign_2 rfl (lv_at hl 2 rfl) ?_
  refine lv_imul hx hb dX0_extendSign_3 ?_
  refine lv_topi (fun z_1 ez_1 => ?_)
  have ez_1 : z_1 = nI (7 * i) := by rw [ez_1]; exact gg_7 i
  subst ez_1
  refine lv_istore (lv' := [(4, .int (nI (7 * i))), (0, .long (lN J)), (2, .int (nI b)), (3, .int (nI i))]) hx hb dX0_extendSign_4 hl (by decide) rfl (fun ls hl => ?_)
  refine lv_iload_n hx hb dX0_extendSign_6 rfl (lv_at hl 2 rfl) ?_
  refine lv_bipush (v := 64) hx hb dX0_extendSign_7 (by decide) ?_
  refine lv_iand hx hb dX0_extendSign_9 ?_
  refine lv_if_eq (tgt := 20) hx hb dX0_extendSign_10 (by decide) (fun c_2 => ?_) (fun c_2 => ?_)
  · refine lv_lload_n hx hb dX0_extendSign_20 rfl (lv_at hl 1 rfl) ?_
    exact fin ls _ (lN J) dX0_extendSign_21 (by rw [if_neg ((gg_and64 b hb128).mp c_2)]; rfl)
  · have dc_2 : 64 ≤ b := Decidable.byContradiction (fun q => c_2 ((gg_and64 b hb128).mpr q))
    refine lv_iload hx hb dX0_extendSign_13 (lv_at hl 0 rfl) ?_
    refine lv_bipush (v := 64) hx hb dX0_extendSign_15 (by decide) ?_
    refine lv_icmp_lt (tgt := 22) hx hb dX0_extendSign_17 (by decide) (fun c_3 => ?_) (fun c_3 => ?_)
    · have ec_3 : 7 * i < 64 := (nI_ltI (b := 64) (by omega) (by decide)).mp c_3
      refine lv_lload_n hx hb dX0_extendSign_22 rfl (lv_at hl 1 rfl) ?_
      refine lv_ldc2 hx hb hown (hts (.constantLong RX0 77 (-1)) (by decide +kernel)) dX0_extendSign_23 ?_
      refine lv_iload hx hb dX0_extendSign_26 (lv_at hl 0 rfl) ?_
      refine lv_lshl hx hb dX0_extendSign_28 rfl ?_
      refine lv_lor hx hb dX0_extendSign_29 ?_
      refine lv_topl (fun z_4 ez_4 => ?_)
      have ez_4 : z_4 = lN (J + 18446744073709551615 * 2 ^ (7 * i)) := by rw [ez_4]; exact gg_ext ec_3 hJ
      subst ez_4
      exact fin ls _ (lN (J + 18446744073709551615 * 2 ^ (7 * i))) dX0_extendSign_30 (by rw [if_pos dc_2])
    · have ec_3 : i = 10 := by
        have q : ¬ 7 * i < 64 := fun q => c_3 ((nI_ltI (b := 64) (by omega) (by decide)).mpr q)
        omega
      refine lv_lload_n hx hb dX0_extendSign_20 rfl (lv_at hl 1 rfl) ?_
      exact fin ls _ (lN J) dX0_extendSign_21 (by rw [if_pos dc_2, ec_3]; exact (gg_ext10 J).symm)
end
section
/-! loops that only answer: groupsNeeded, countGroups, joinGroups; value, size, at -/

set_option maxHeartbeats 4000000 in
set_option maxRecDepth 100000 in
theorem c_X0_groupsNeeded (l : Launch) (a : Int32) (x : Int64) : Met l yX0_groupsNeeded wsX0_groupsNeeded R1 (va_Pc [.int a, .long x] (fun _ => True)) (vp_Si (fun r => r = nI (gg_need a x))) 0 0 (fun _ => False) := by
  refine ro_i (cc := cX0_groupsNeeded) (maxL := 5) (by decide) rfl (Nat.le_of_ble_eq_true rfl) ?_
  intro p e s m below meth c Q ls hx hb hml hown hts hPU hl fin
  have hown : s.vm.findClass RX0 = some m.cls := hown
  have hl : lv_has ls 5 [(0, .int a), (1, .long x)] := hl
  refine lv_iload_n hx hb dX0_groupsNeeded_0 rfl (lv_at hl 0 rfl) ?_
  refine cc_si (av := [.int a]) (rest := []) ⟨hx, hb, hml, hown, hts⟩ (c_X0_mostGroups l a) (va_cwS 1 hts gX0_groupsNeeded_X0_mostGroups rfl rfl rfl (by decide +kernel) ⟨Nat.le_of_ble_eq_true rfl, Nat.le_of_ble_eq_true rfl⟩) rfl hl.1 rfl (Nat.le_of_ble_eq_true rfl) dX0_groupsNeeded_1 ⟨Nat.zero_le _, Nat.zero_le _⟩ (fun r hr => ?_)
  subst hr
  refine lv_istore_n (lv' := [(3, .int (nI (gg_most a))), (0, .int a), (1, .long x)]) hx hb dX0_groupsNeeded_4 rfl hl (by decide) rfl (fun ls hl => ?_)
  refine lv_iconst (v := nI 1) hx hb dX0_groupsNeeded_5 (by decide) ?_
  refine lv_istore (lv' := [(4, .int (nI 1)), (3, .int (nI (gg_most a))), (0, .int a), (1, .long x)]) hx hb dX0_groupsNeeded_6 hl (by decide) rfl (fun ls hl => ?_)
  have hm := gg_most_bd a
  have loop : ∀ (f i : Nat) (ls : Array Slot), i ≤ gg_most a → gg_most a + 1 ≤ i + f → 1 ≤ i → (∀ j, 1 ≤ j → j < i → gg_fit a x j = false) → lv_has ls 5 [(4, .int (nI i)), (3, .int (nI (gg_most a))), (0, .int a), (1, .long x)] → W p l e R1 s m ([.int a, .long x] : List Value).toArray below meth c s.heap [] 0 0 Q (F0 m 8 ls []) := by
    intro f
    induction f with
    | zero => intro i ls h1 h2
              exact absurd h2 (by omega)
    | succ f ih =>
      intro i ls hi hf hi1 hbe hl
      refine lv_iload hx hb dX0_groupsNeeded_8 (lv_at hl 0 rfl) ?_
      refine lv_iload_n hx hb dX0_groupsNeeded_10 rfl (lv_at hl 1 rfl) ?_
      refine lv_icmp_ge (tgt := 33) hx hb dX0_groupsNeeded_11 (by decide) (fun c_1 => ?_) (fun c_1 => ?_)
      · have dc_1 : i = gg_most a := by
          have q := (nI_leI (by omega) (by omega)).mp c_1
          omega
        refine lv_iload_n hx hb dX0_groupsNeeded_33 rfl (lv_at hl 1 rfl) ?_
        exact fin ls _ (nI (gg_most a)) dX0_groupsNeeded_34 (by rw [gg_need_top (fun j h1 h2 => hbe j h1 (by omega))])
      · have dc_1 : i < gg_most a := Nat.lt_of_not_le (fun q => c_1 ((nI_leI (by omega) (by omega)).mpr q))
        refine lv_iload_n hx hb dX0_groupsNeeded_14 rfl (lv_at hl 2 rfl) ?_
        refine lv_lload_n hx hb dX0_groupsNeeded_15 rfl (lv_at hl 3 rfl) ?_
        refine lv_iload hx hb dX0_groupsNeeded_16 (lv_at hl 0 rfl) ?_
        refine cc_si (av := [.int a, .long x, .int (nI i)]) (rest := []) ⟨hx, hb, hml, hown, hts⟩ (c_X0_fitsGroups l a x i) (va_cwS 3 hts gX0_groupsNeeded_X0_fitsGroups rfl rfl rfl (by decide +kernel) ⟨Nat.le_of_ble_eq_true rfl, Nat.le_of_ble_eq_true rfl⟩) rfl hl.1 rfl (Nat.le_of_ble_eq_true rfl) dX0_groupsNeeded_18 ⟨Nat.zero_le _, Nat.zero_le _⟩ (fun r hr => ?_)
        refine lv_if_eq (tgt := 27) hx hb dX0_groupsNeeded_21 (by decide) (fun c_2 => ?_) (fun c_2 => ?_)
        · refine lv_iinc (v := nI (i + 1)) (lv' := [(4, .int (nI (i + 1))), (3, .int (nI (gg_most a))), (0, .int a), (1, .long x)]) hx hb dX0_groupsNeeded_27 hl (k := 0) rfl (show nI i + 1 = nI (i + 1) from nI_1 i) (by decide) rfl (fun ls hl => ?_)
          refine lv_goto (tgt := 8) hx hb dX0_groupsNeeded_30 (by decide) ?_
          exact ih (i + 1) ls (by omega) (by omega) (by omega) (fun j h1 h2 => by
            rcases Nat.lt_or_ge j i with q | q
            · exact hbe j h1 q
            · have e : j = i := by omega
              rw [e]
              exact Bool.eq_false_iff.mpr (fun q => (hr.mpr q) c_2)) (lv_sub hl [0, 1, 2, 3] rfl)
        · refine lv_iload hx hb dX0_groupsNeeded_24 (lv_at hl 0 rfl) ?_
          exact fin ls _ (nI i) dX0_groupsNeeded_26 (by rw [gg_need_hit hi1 dc_1 hbe (hr.mp c_2)])
  exact loop (gg_most a) 1 ls (by omega) (by omega) (by omega) (fun j h1 h2 => absurd h2 (by omega)) hl

set_option maxHeartbeats 4000000 in
set_option maxRecDepth 100000 in
theorem c_X0_countGroups (l : Launch) (dC : Nat → ClassId) (dI : Nat → Nat → Nat) (h0 ar ao : Nat) (cA cB : ClassId) (g o : Nat → Int32) (n k : Nat) (v : Int64) (t : Nat → Nat) (a M : Nat) (hI : gg_I t n g) (hn : n ≤ 1000) (ha : a ≤ n) (hM : M ≤ 10) : Met l yX0_countGroups wsX0_countGroups R1 (va_Pc [.ref h0, .int (nI a), .int (nI M)] (Pr (dC, dI) vwCl (ty0 cA cB) (w0 h0 ar ao cA cB g o (nI n) (nI k) v))) (vp_Si (fun r => r = nI (gg_cnt t a (min M (n - a))))) 0 0 (fun _ => False) := by
  refine ro_i (cc := cX0_countGroups) (maxL := 5) (by decide) rfl (Nat.le_of_ble_eq_true rfl) ?_
  intro p e s m below meth c Q ls hx hb hml hown hts hPU hl fin
  have hown : s.vm.findClass RX0 = some m.cls := hown
  obtain ⟨hP, hK⟩ := hPU
  have hin : ∀ w ∈ wsX00, w ∈ wsX0_countGroups := by decide +kernel
  have hl : lv_has ls 5 [(0, .ref h0), (1, .int (nI a)), (2, .int (nI M))] := hl
  refine lv_iload_n hx hb dX0_countGroups_0 rfl (lv_at hl 2 rfl) ?_
  refine lv_aload_n hx hb dX0_countGroups_1 rfl (lv_at hl 0 rfl) ?_
  refine va_get (D := (dC, dI)) (ci := 0) (v := .int (nI n)) (C := RX0) (T := TX0) (N := 5) hx hb hts hin hown hK hP 0 rfl rfl 1 (by decide) (hts (.fieldLink RX0 13 "GroupedNumbers" "rowLength" "I") (by decide +kernel)) (fun _ h9 => h9) rfl dX0_countGroups_2 ?_
  refine lv_iload_n hx hb dX0_countGroups_5 rfl (lv_at hl 1 rfl) ?_
  refine lv_isub hx hb dX0_countGroups_6 ?_
  refine lv_topi (fun z_1 ez_1 => ?_)
  have ez_1 : z_1 = nI (n - a) := by rw [ez_1]; exact pk_sub ha
  subst ez_1
  refine va_mmin hx hb (by rw [hml]; exact hl.1.symm) hown (hts (.methodLink RX0 79 Lib.Math.min.name) (by decide +kernel)) (hts (.static Lib.Math.min.name) (by decide +kernel)) (hts (.initialized "java/lang/Math") (by decide +kernel)) (hts (.code Lib.Math.min.name Lib.Math.min.code 2 (some .int)) (by decide +kernel)) (Nat.le_of_ble_eq_true rfl) (Nat.le_of_ble_eq_true rfl) (Nat.le_of_ble_eq_true rfl) (Nat.le_of_ble_eq_true rfl) dX0_countGroups_7 ?_
  refine lv_topi (fun z_2 ez_2 => ?_)
  have ez_2 : z_2 = nI (min M (n - a)) := by rw [ez_2]; exact gg_min (by omega) (by omega)
  subst ez_2
  refine lv_istore_n (lv' := [(3, .int (nI (min M (n - a)))), (0, .ref h0), (1, .int (nI a)), (2, .int (nI M))]) hx hb dX0_countGroups_10 rfl hl (by decide) rfl (fun ls hl => ?_)
  refine lv_iconst (v := nI 0) hx hb dX0_countGroups_11 (by decide) ?_
  refine lv_istore (lv' := [(4, .int (nI 0)), (3, .int (nI (min M (n - a)))), (0, .ref h0), (1, .int (nI a)), (2, .int (nI M))]) hx hb dX0_countGroups_12 hl (by decide) rfl (fun ls hl => ?_)
  obtain ⟨K, hKe⟩ : ∃ K, K = min M (n - a) := ⟨_, rfl⟩
  rw [← hKe] at hl
  have loop : ∀ (f i : Nat) (ls : Array Slot), i ≤ K → K + 1 ≤ i + f → (∀ j, j < i → 128 ≤ t (a + j)) → lv_has ls 5 [(4, .int (nI i)), (3, .int (nI K)), (0, .ref h0), (1, .int (nI a)), (2, .int (nI M))] → W p l e R1 s m ([.ref h0, .int (nI a), .int (nI M)] : List Value).toArray below meth c s.heap [] 0 0 Q (F0 m 14 ls []) := by
    intro f
    induction f with
    | zero => intro i ls h1 h2
              exact absurd h2 (by omega)
    | succ f ih =>
      intro i ls hi hf hbe hl
      refine lv_iload hx hb dX0_countGroups_14 (lv_at hl 0 rfl) ?_
      refine lv_iload_n hx hb dX0_countGroups_16 rfl (lv_at hl 1 rfl) ?_
      refine lv_icmp_ge (tgt := 46) hx hb dX0_countGroups_17 (by decide) (fun c_3 => ?_) (fun c_3 => ?_)
      · have dc_3 : i = K := by
          have q := (nI_leI (by omega) (by omega)).mp c_3
          omega
        refine lv_iconst (v := nI 0) hx hb dX0_countGroups_46 (by decide) ?_
        exact fin ls _ (nI 0) dX0_countGroups_47 (by rw [gg_cnt_none (fun j h1 => hbe j (by omega))])
      · have dc_3 : i < K := Nat.lt_of_not_le (fun q => c_3 ((nI_leI (by omega) (by omega)).mpr q))
        refine lv_aload_n hx hb dX0_countGroups_20 rfl (lv_at hl 2 rfl) ?_
        refine va_get (D := (dC, dI)) (ci := 0) (v := .ref ar) (C := RX0) (T := TX0) (N := 5) hx hb hts hin hown hK hP 0 rfl rfl 0 (by decide) (hts (.fieldLink RX0 9 "GroupedNumbers" "row" "[I") (by decide +kernel)) (fun _ h9 => h9) rfl dX0_countGroups_21 ?_
        refine lv_iload_n hx hb dX0_countGroups_24 rfl (lv_at hl 3 rfl) ?_
        refine lv_iload hx hb dX0_countGroups_25 (lv_at hl 0 rfl) ?_
        refine lv_iadd hx hb dX0_countGroups_27 ?_
        refine lv_topi (fun z_4 ez_4 => ?_)
        have ez_4 : z_4 = nI (a + i) := by rw [ez_4]; exact nI_add a i
        subst ez_4
        refine va_iald hx hb hK hP 1 0 rfl rfl (vp_in_nI (show a + i < 1000 by omega) (by decide)) dX0_countGroups_28 ?_
        refine lv_topi (fun z_5 ez_5 => ?_)
        have ez_5 : z_5 = nI (t (a + i)) := by rw [ez_5]; rw [nI_clamp (by omega)]; exact (hI (a + i) (by omega)).2
        subst ez_5
        have hti := (hI (a + i) (by omega)).1
        refine lv_sipush (v := nI 128) hx hb dX0_countGroups_29 (by decide) ?_
        refine lv_icmp_ge (tgt := 40) hx hb dX0_countGroups_32 (by decide) (fun c_6 => ?_) (fun c_6 => ?_)
        · refine lv_iinc (v := nI (i + 1)) (lv' := [(4, .int (nI (i + 1))), (3, .int (nI K)), (0, .ref h0), (1, .int (nI a)), (2, .int (nI M))]) hx hb dX0_countGroups_40 hl (k := 0) rfl (show nI i + 1 = nI (i + 1) from nI_1 i) (by decide) rfl (fun ls hl => ?_)
          refine lv_goto (tgt := 14) hx hb dX0_countGroups_43 (by decide) ?_
          exact ih (i + 1) ls (by omega) (by omega) (fun j h1 => by
            rcases Nat.lt_or_ge j i with q | q
            · exact hbe j q
            · have e : j = i := by omega
              rw [e]
              exact (nI_leI (by decide) (by omega)).mp c_6) (lv_sub hl [0, 1, 2, 3, 4] rfl)
        · refine lv_iload hx hb dX0_countGroups_35 (lv_at hl 0 rfl) ?_
          refine lv_iconst (v := nI 1) hx hb dX0_countGroups_37 (by decide) ?_
          refine lv_iadd hx hb dX0_countGroups_38 ?_
          refine lv_topi (fun z_7 ez_7 => ?_)
          have ez_7 : z_7 = nI (i + 1) := by rw [ez_7]; exact nI_add i 1
          subst ez_7
          exact fin ls _ (nI (i + 1)) dX0_countGroups_39 (by rw [← hKe, gg_cnt_hit hbe (Nat.lt_of_not_le (fun q => c_6 ((nI_leI (by decide) (by omega)).mpr q))) dc_3])
  exact loop (K + 1) 0 ls (by omega) (by omega) (fun j h1 => absurd h1 (by omega)) hl

set_option maxHeartbeats 4000000 in
set_option maxRecDepth 100000 in
theorem c_X0_joinGroups (l : Launch) (dC : Nat → ClassId) (dI : Nat → Nat → Nat) (h0 ar ao : Nat) (cA cB : ClassId) (g o : Nat → Int32) (n k : Nat) (v : Int64) (t : Nat → Nat) (a M : Nat) (hI : gg_I t n g) (hn : n ≤ 1000) (ha : a + M ≤ n) (hM : M ≤ 10) : Met l yX0_joinGroups wsX0_joinGroups R0 (va_Pc [.ref h0, .int (nI a), .int (nI M)] (Pr (dC, dI) vwCl (ty0 cA cB) (w0 h0 ar ao cA cB g o (nI n) (nI k) v))) (vp_Sl (fun r => r = lN (gg_join t a M))) 0 0 (fun _ => False) := by
  refine ro_l (cc := cX0_joinGroups) (maxL := 8) (by decide) rfl (Nat.le_of_ble_eq_true rfl) ?_
  intro p e s m below meth c Q ls hx hb hml hown hts hPU hl fin
  have hown : s.vm.findClass RX0 = some m.cls := hown
  obtain ⟨hP, hK⟩ := hPU
  have hin : ∀ w ∈ wsX00, w ∈ wsX0_joinGroups := by decide +kernel
  have hl : lv_has ls 8 [(0, .ref h0), (1, .int (nI a)), (2, .int (nI M))] := hl
  refine lv_lconst (v := lN (gg_join t a 0)) hx hb dX0_joinGroups_0 (rfl) ?_
  refine lv_lstore_n (lv' := [(3, .long (lN (gg_join t a 0))), (0, .ref h0), (1, .int (nI a)), (2, .int (nI M))]) hx hb dX0_joinGroups_1 rfl hl (by decide) rfl (fun ls hl => ?_)
  refine lv_iconst (v := nI 0) hx hb dX0_joinGroups_2 (by decide) ?_
  refine lv_istore (lv' := [(5, .int (nI 0)), (3, .long (lN (gg_join t a 0))), (0, .ref h0), (1, .int (nI a)), (2, .int (nI M))]) hx hb dX0_joinGroups_3 hl (by decide) rfl (fun ls hl => ?_)
  have loop : ∀ (f i : Nat) (ls : Array Slot), i ≤ M → M + 1 ≤ i + f → lv_has ls 8 [(5, .int (nI i)), (3, .long (lN (gg_join t a i))), (0, .ref h0), (1, .int (nI a)), (2, .int (nI M))] → W p l e R0 s m ([.ref h0, .int (nI a), .int (nI M)] : List Value).toArray below meth c s.heap [] 0 0 Q (F0 m 5 ls []) := by
    intro f
    induction f with
    | zero => intro i ls h1 h2
              exact absurd h2 (by omega)
    | succ f ih =>
      intro i ls hi hf hl
      refine lv_iload hx hb dX0_joinGroups_5 (lv_at hl 0 rfl) ?_
      refine lv_iload_n hx hb dX0_joinGroups_7 rfl (lv_at hl 4 rfl) ?_
      refine lv_icmp_ge (tgt := 43) hx hb dX0_joinGroups_8 (by decide) (fun c_1 => ?_) (fun c_1 => ?_)
      · have dc_1 : i = M := by
          have q := (nI_leI (by omega) (by omega)).mp c_1
          omega
        refine lv_lload_n hx hb dX0_joinGroups_43 rfl (lv_at hl 1 rfl) ?_
        exact fin ls _ (lN (gg_join t a i)) dX0_joinGroups_44 (by rw [dc_1])
      · have dc_1 : i < M := Nat.lt_of_not_le (fun q => c_1 ((nI_leI (by omega) (by omega)).mpr q))
        refine lv_aload_n hx hb dX0_joinGroups_11 rfl (lv_at hl 2 rfl) ?_
        refine va_get (D := (dC, dI)) (ci := 0) (v := .ref ar) (C := RX0) (T := TX0) (N := 5) hx hb hts hin hown hK hP 0 rfl rfl 0 (by decide) (hts (.fieldLink RX0 9 "GroupedNumbers" "row" "[I") (by decide +kernel)) (fun _ h9 => h9) rfl dX0_joinGroups_12 ?_
        refine lv_iload_n hx hb dX0_joinGroups_15 rfl (lv_at hl 3 rfl) ?_
        refine lv_iload hx hb dX0_joinGroups_16 (lv_at hl 0 rfl) ?_
        refine lv_iadd hx hb dX0_joinGroups_18 ?_
        refine lv_topi (fun z_2 ez_2 => ?_)
        have ez_2 : z_2 = nI (a + i) := by rw [ez_2]; exact nI_add a i
        subst ez_2
        refine va_iald hx hb hK hP 1 0 rfl rfl (vp_in_nI (show a + i < 1000 by omega) (by decide)) dX0_joinGroups_19 ?_
        refine lv_topi (fun z_3 ez_3 => ?_)
        have ez_3 : z_3 = nI (t (a + i)) := by rw [ez_3]; rw [nI_clamp (by omega)]; exact (hI (a + i) (by omega)).2
        subst ez_3
        refine lv_bipush (v := 127) hx hb dX0_joinGroups_20 (by decide) ?_
        refine lv_iand hx hb dX0_joinGroups_22 ?_
        refine lv_topi (fun z_4 ez_4 => ?_)
        have ez_4 : z_4 = nI (t (a + i) % 128) := by rw [ez_4]; exact gg_i_127 _ (hI (a + i) (by omega)).1
        subst ez_4
        refine lv_i2l hx hb dX0_joinGroups_23 rfl ?_
        refine lv_lstore (lv' := [(6, .long ((nI (t (a + i) % 128)).toInt64)), (5, .int (nI i)), (3, .long (lN (gg_join t a i))), (0, .ref h0), (1, .int (nI a)), (2, .int (nI M))]) hx hb dX0_joinGroups_24 hl (by decide) rfl (fun ls hl => ?_)
        refine lv_lload_n hx hb dX0_joinGroups_26 rfl (lv_at hl 2 rfl) ?_
        refine lv_lload hx hb dX0_joinGroups_27 (lv_at hl 0 rfl) ?_
        refine lv_bipush (v := 7) hx hb dX0_joinGroups_29 (by decide) ?_
        refine lv_iload hx hb dX0_joinGroups_31 (lv_at hl 1 rfl) ?_
        refine lv_imul hx hb dX0_joinGroups_33 ?_
        refine lv_lshl hx hb dX0_joinGroups_34 rfl ?_
        refine lv_lor hx hb dX0_joinGroups_35 ?_
        refine lv_topl (fun z_5 ez_5 => ?_)
        have ez_5 : z_5 = lN (gg_join t a (i + 1)) := by rw [ez_5]; exact gg_join_step (Nat.mod_lt _ (by decide)) (by omega) (gg_join_lt t a i)
        subst ez_5
        refine lv_lstore_n (lv' := [(3, .long (lN (gg_join t a (i + 1)))), (6, .long ((nI (t (a + i) % 128)).toInt64)), (5, .int (nI i)), (0, .ref h0), (1, .int (nI a)), (2, .int (nI M))]) hx hb dX0_joinGroups_36 rfl hl (by decide) rfl (fun ls hl => ?_)
        refine lv_iinc (v := nI (i + 1)) (lv' := [(5, .int (nI (i + 1))), (3, .long (lN (gg_join t a (i + 1)))), (6, .long ((nI (t (a + i) % 128)).toInt64)), (0, .ref h0), (1, .int (nI a)), (2, .int (nI M))]) hx hb dX0_joinGroups_37 hl (k := 2) rfl (show nI i + 1 = nI (i + 1) from nI_1 i) (by decide) rfl (fun ls hl => ?_)
        refine lv_goto (tgt := 5) hx hb dX0_joinGroups_40 (by decide) ?_
        exact ih (i + 1) ls (by omega) (by omega) (lv_sub hl [0, 1, 3, 4, 5] rfl)
  exact loop (M + 1) 0 ls (by omega) (by omega) hl

set_option maxHeartbeats 4000000 in
set_option maxRecDepth 100000 in
theorem c_X0_value (l : Launch) (dC : Nat → ClassId) (dI : Nat → Nat → Nat) (h0 ar ao : Nat) (cA cB : ClassId) (g o : Nat → Int32) (n k : Nat) (v : Int64) : Met l yX0_value wsX0_value R0 (va_Pc [.ref h0] (Pr (dC, dI) vwCl (ty0 cA cB) (w0 h0 ar ao cA cB g o (nI n) (nI k) v))) (vp_Sl (fun r => r = v)) 0 0 (fun _ => False) := by
  refine ro_l (cc := cX0_value) (maxL := 1) (by decide) rfl (Nat.le_of_ble_eq_true rfl) ?_
  intro p e s m below meth c Q ls hx hb hml hown hts hPU hl fin
  have hown : s.vm.findClass RX0 = some m.cls := hown
  obtain ⟨hP, hK⟩ := hPU
  have hin : ∀ w ∈ wsX00, w ∈ wsX0_value := by decide +kernel
  have hl : lv_has ls 1 [(0, .ref h0)] := hl
  refine lv_aload_n hx hb dX0_value_0 rfl (lv_at hl 0 rfl) ?_
  refine va_get (D := (dC, dI)) (ci := 0) (v := .long v) (C := RX0) (T := TX0) (N := 5) hx hb hts hin hown hK hP 0 rfl rfl 4 (by decide) (hts (.fieldLink RX0 23 "GroupedNumbers" "lastRead" "J") (by decide +kernel)) (fun _ h9 => h9) rfl dX0_value_1 ?_
  exact fin ls _ v dX0_value_4 rfl

set_option maxHeartbeats 4000000 in
set_option maxRecDepth 100000 in
theorem c_X0_size (l : Launch) (dC : Nat → ClassId) (dI : Nat → Nat → Nat) (h0 ar ao : Nat) (cA cB : ClassId) (g o : Nat → Int32) (n k : Nat) (v : Int64) : Met l yX0_size wsX0_size R0 (va_Pc [.ref h0] (Pr (dC, dI) vwCl (ty0 cA cB) (w0 h0 ar ao cA cB g o (nI n) (nI k) v))) (vp_Si (fun r => r = nI k)) 0 0 (fun _ => False) := by
  refine ro_i (cc := cX0_size) (maxL := 1) (by decide) rfl (Nat.le_of_ble_eq_true rfl) ?_
  intro p e s m below meth c Q ls hx hb hml hown hts hPU hl fin
  have hown : s.vm.findClass RX0 = some m.cls := hown
  obtain ⟨hP, hK⟩ := hPU
  have hin : ∀ w ∈ wsX00, w ∈ wsX0_size := by decide +kernel
  have hl : lv_has ls 1 [(0, .ref h0)] := hl
  refine lv_aload_n hx hb dX0_size_0 rfl (lv_at hl 0 rfl) ?_
  refine va_get (D := (dC, dI)) (ci := 0) (v := .int (nI k)) (C := RX0) (T := TX0) (N := 5) hx hb hts hin hown hK hP 0 rfl rfl 3 (by decide) (hts (.fieldLink RX0 20 "GroupedNumbers" "outputLength" "I") (by decide +kernel)) (fun _ h9 => h9) rfl dX0_size_1 ?_
  exact fin ls _ (nI k) dX0_size_4 (rfl)

def gg_at (i : Int32) (z : Nat → Nat) (k : Nat) : Int32 := if ¬ i < 0 ∧ i < nI k then nI (z i.toNatClampNeg) else -1

set_option maxHeartbeats 4000000 in
set_option maxRecDepth 100000 in
theorem c_X0_at (l : Launch) (dC : Nat → ClassId) (dI : Nat → Nat → Nat) (h0 ar ao : Nat) (cA cB : ClassId) (g o : Nat → Int32) (n k : Nat) (v : Int64) (z : Nat → Nat) (i : Int32) (hI : gg_I z k o) (hk : k ≤ 1000) : Met l yX0_at wsX0_at R0 (va_Pc [.ref h0, .int i] (Pr (dC, dI) vwCl (ty0 cA cB) (w0 h0 ar ao cA cB g o (nI n) (nI k) v))) (vp_Si (fun r => r = gg_at i z k)) 0 0 (fun _ => False) := by
  refine ro_i (cc := cX0_at) (maxL := 2) (by decide) rfl (Nat.le_of_ble_eq_true rfl) ?_
  intro p e s m below meth c Q ls hx hb hml hown hts hPU hl fin
  have hown : s.vm.findClass RX0 = some m.cls := hown
  obtain ⟨hP, hK⟩ := hPU
  have hin : ∀ w ∈ wsX00, w ∈ wsX0_at := by decide +kernel
  have hl : lv_has ls 2 [(0, .ref h0), (1, .int i)] := hl
  refine lv_iload_n hx hb dX0_at_0 rfl (lv_at hl 1 rfl) ?_
  refine lv_if_lt (tgt := 12) hx hb dX0_at_1 (by decide) (fun c_1 => ?_) (fun c_1 => ?_)
  · refine lv_iconst (v := (-1)) hx hb dX0_at_12 (by decide) ?_
    exact fin ls _ (-1) dX0_at_13 (by unfold gg_at; rw [if_neg (fun q => q.1 c_1)])
  · refine lv_iload_n hx hb dX0_at_4 rfl (lv_at hl 1 rfl) ?_
    refine lv_aload_n hx hb dX0_at_5 rfl (lv_at hl 0 rfl) ?_
    refine va_get (D := (dC, dI)) (ci := 0) (v := .int (nI k)) (C := RX0) (T := TX0) (N := 5) hx hb hts hin hown hK hP 0 rfl rfl 3 (by decide) (hts (.fieldLink RX0 20 "GroupedNumbers" "outputLength" "I") (by decide +kernel)) (fun _ h9 => h9) rfl dX0_at_6 ?_
    refine lv_icmp_lt (tgt := 14) hx hb dX0_at_9 (by decide) (fun c_2 => ?_) (fun c_2 => ?_)
    · obtain ⟨j, hj31, rfl⟩ := nI_of c_1
      have hj : j < k := (nI_ltI (by omega) (by omega)).mp c_2
      refine lv_aload_n hx hb dX0_at_14 rfl (lv_at hl 0 rfl) ?_
      refine va_get (D := (dC, dI)) (ci := 0) (v := .ref ao) (C := RX0) (T := TX0) (N := 5) hx hb hts hin hown hK hP 0 rfl rfl 2 (by decide) (hts (.fieldLink RX0 17 "GroupedNumbers" "output" "[I") (by decide +kernel)) (fun _ h9 => h9) rfl dX0_at_15 ?_
      refine lv_iload_n hx hb dX0_at_18 rfl (lv_at hl 1 rfl) ?_
      refine va_iald hx hb hK hP 2 1 rfl rfl (vp_in_nI (show j < 1000 by omega) (by decide)) dX0_at_19 ?_
      refine lv_topi (fun z_3 ez_3 => ?_)
      have ez_3 : z_3 = nI (z j) := by rw [ez_3]; rw [nI_clamp (by omega)]; exact (hI j hj).2
      subst ez_3
      exact fin ls _ (nI (z j)) dX0_at_20 (by unfold gg_at; rw [if_pos ⟨c_1, c_2⟩, nI_clamp (by omega)])
    · refine lv_iconst (v := (-1)) hx hb dX0_at_12 (by decide) ?_
      exact fin ls _ (-1) dX0_at_13 (by unfold gg_at; rw [if_neg (fun q => c_2 q.2)])
end
section
/-! the methods of GroupedNumbers that change its cells -/

set_option maxHeartbeats 4000000 in
set_option maxRecDepth 100000 in
theorem c_X0_appendToRow (l : Launch) (dC : Nat → ClassId) (dI : Nat → Nat → Nat) (h0 ar ao : Nat) (cA cB : ClassId) (sz : Nat) (g o : Nat → Int32) (n k : Nat) (v : Int64) (t : Nat → Nat) (y : Int32) (hI : gg_I t n g) (hn : n + 4 ≤ 1000) : Met l yX0_appendToRow wsX0_appendToRow R0 (va_Pc [.ref h0, .int y] (Pw (dC, dI) vwCl (ty0 cA cB) sz (w0 h0 ar ao cA cB g o (nI n) (nI k) v))) (va_Qv (fun u => gg_I (sb_cat t n (gg_wb y)) (n + 4) u) (Bw (S := Nat → Int32) (dC, dI) vwCl (ty0 cA cB) sz (w0 h0 ar ao cA cB g o (nI n) (nI k) v) (fun u => w0 h0 ar ao cA cB u o (nI (n + 4)) (nI k) v)) (va_A (w0 h0 ar ao cA cB g o (nI n) (nI k) v) sz)) 0 0 (va_A (w0 h0 ar ao cA cB g o (nI n) (nI k) v) sz) := by
  refine mm_v (cc := cX0_appendToRow) (maxL := 3) (by decide) rfl (Nat.le_of_ble_eq_true rfl) ?_
  intro p e s m below meth c Q A H ls hx hb hml hown hts hK hP hD hS hA hl fin
  have hown : s.vm.findClass RX0 = some m.cls := hown
  have hin : ∀ w ∈ wsX00, w ∈ wsX0_appendToRow := by decide +kernel
  have hl : lv_has ls 3 [(0, .ref h0), (1, .int y)] := hl
  have hP : va_P (dC, dI) vwCl (w0 h0 ar ao cA cB g o (nI n) (nI k) v) H := hP
  have hD : va_D A (w0 h0 ar ao cA cB g o (nI n) (nI k) v) := hD
  refine lv_iconst (v := nI 0) hx hb dX0_appendToRow_0 (by decide) ?_
  refine lv_istore_n (lv' := [(2, .int (nI 0)), (0, .ref h0), (1, .int y)]) hx hb dX0_appendToRow_1 rfl hl (by decide) rfl (fun ls hl => ?_)
  have loop : ∀ (f i : Nat) (gi : Nat → Int32) (H : Heap) (locs : List Loc) (ls : Array Slot), i ≤ 4 → 5 ≤ i + f → gg_I (sb_cat t n (gg_wb y)) (n + i) gi → va_P (dC, dI) vwCl (w0 h0 ar ao cA cB gi o (nI (n + i)) (nI k) v) H → va_D A (w0 h0 ar ao cA cB gi o (nI (n + i)) (nI k) v) → va_S A s.heap H locs → lv_has ls 3 [(2, .int (nI i)), (0, .ref h0), (1, .int y)] → W p l e R0 s m ([.ref h0, .int y] : List Value).toArray below meth c H locs 0 0 Q (F0 m 2 ls []) := by
    intro f
    induction f with
    | zero => intro i gi H locs ls h1 h2
              exact absurd h2 (by omega)
    | succ f ih =>
      intro i gi H locs ls hi hf hI hP hD hS hl
      refine lv_iload_n hx hb dX0_appendToRow_2 rfl (lv_at hl 0 rfl) ?_
      refine lv_iconst (v := nI 4) hx hb dX0_appendToRow_3 (by decide) ?_
      refine lv_icmp_ge (tgt := 45) hx hb dX0_appendToRow_4 (by decide) (fun c_1 => ?_) (fun c_1 => ?_)
      · have dc_1 : i = 4 := by
          have q := (nI_leI (by decide) (by omega)).mp c_1
          omega
        subst dc_1
        exact fin H locs ls _ gi dX0_appendToRow_45 hI hP hD hS
      · have dc_1 : i < 4 := Nat.lt_of_not_le (fun q => c_1 ((nI_leI (by decide) (by omega)).mpr q))
        refine lv_aload_n hx hb dX0_appendToRow_7 rfl (lv_at hl 1 rfl) ?_
        refine va_get (D := (dC, dI)) (ci := 0) (v := .ref ar) (C := RX0) (T := TX0) (N := 5) hx hb hts hin hown hK hP 0 rfl rfl 0 (by decide) (hts (.fieldLink RX0 9 "GroupedNumbers" "row" "[I") (by decide +kernel)) (fun _ h9 => h9) rfl dX0_appendToRow_8 ?_
        refine lv_aload_n hx hb dX0_appendToRow_11 rfl (lv_at hl 1 rfl) ?_
        refine va_get (D := (dC, dI)) (ci := 0) (v := .int (nI (n + i))) (C := RX0) (T := TX0) (N := 5) hx hb hts hin hown hK hP 0 rfl rfl 1 (by decide) (hts (.fieldLink RX0 13 "GroupedNumbers" "rowLength" "I") (by decide +kernel)) (fun _ h9 => h9) rfl dX0_appendToRow_12 ?_
        refine lv_iload_n hx hb dX0_appendToRow_15 rfl (lv_at hl 2 rfl) ?_
        refine lv_bipush (v := 24) hx hb dX0_appendToRow_16 (by decide) ?_
        refine lv_bipush (v := 8) hx hb dX0_appendToRow_18 (by decide) ?_
        refine lv_iload_n hx hb dX0_appendToRow_20 rfl (lv_at hl 0 rfl) ?_
        refine lv_imul hx hb dX0_appendToRow_21 ?_
        refine lv_isub hx hb dX0_appendToRow_22 ?_
        refine lv_iushr hx hb dX0_appendToRow_23 rfl ?_
        refine lv_sipush (v := 255) hx hb dX0_appendToRow_24 (by decide) ?_
        refine lv_iand hx hb dX0_appendToRow_27 ?_
        refine lv_topi (fun z_2 ez_2 => ?_)
        have ez_2 : z_2 = nI (gg_wb y i) := by rw [ez_2]; exact gg_wb_I y dc_1
        subst ez_2
        refine va_iast hx hb hK hP hD hS 1 0 rfl rfl (vp_in_nI (show n + i < 1000 by omega) (by decide)) dX0_appendToRow_28 (fun H locs hP hD hS => ?_)
        rw [nI_clamp (show n + i < 2 ^ 31 by omega)] at hP hD
        have hP : va_P (dC, dI) vwCl (w0 h0 ar ao cA cB (upd gi (n + i) (nI (gg_wb y i))) o (nI (n + i)) (nI k) v) H := hP
        have hD : va_D A (w0 h0 ar ao cA cB (upd gi (n + i) (nI (gg_wb y i))) o (nI (n + i)) (nI k) v) := hD
        refine lv_aload_n hx hb dX0_appendToRow_29 rfl (lv_at hl 1 rfl) ?_
        refine lv_dup hx hb dX0_appendToRow_30 rfl ?_
        refine va_get (D := (dC, dI)) (ci := 0) (v := .int (nI (n + i))) (C := RX0) (T := TX0) (N := 5) hx hb hts hin hown hK hP 0 rfl rfl 1 (by decide) (hts (.fieldLink RX0 13 "GroupedNumbers" "rowLength" "I") (by decide +kernel)) (fun _ h9 => h9) rfl dX0_appendToRow_31 ?_
        refine lv_iconst (v := nI 1) hx hb dX0_appendToRow_34 (by decide) ?_
        refine lv_iadd hx hb dX0_appendToRow_35 ?_
        refine lv_topi (fun z_3 ez_3 => ?_)
        have ez_3 : z_3 = nI (n + (i + 1)) := by rw [ez_3]; exact nI_add (n + i) 1
        subst ez_3
        refine va_put (D := (dC, dI)) (ci := 0) (v := .int (nI (n + (i + 1)))) (ty := .int) (C := RX0) (T := TX0) (N := 5) hx hb hts hin tyX0 tyX0_ok nmX0 hown hK hP hD hS 0 rfl rfl 1 (by decide) (hts (.fieldLink RX0 13 "GroupedNumbers" "rowLength" "I") (by decide +kernel)) (fun _ h9 => h9) rfl (by decide +kernel) rfl rfl (Nat.le_of_ble_eq_true rfl) dX0_appendToRow_36 (fun H locs hP hD hS => ?_)
        have hP : va_P (dC, dI) vwCl (w0 h0 ar ao cA cB (upd gi (n + i) (nI (gg_wb y i))) o (nI (n + (i + 1))) (nI k) v) H := hP
        have hD : va_D A (w0 h0 ar ao cA cB (upd gi (n + i) (nI (gg_wb y i))) o (nI (n + (i + 1))) (nI k) v) := hD
        refine lv_iinc (v := nI (i + 1)) (lv' := [(2, .int (nI (i + 1))), (0, .ref h0), (1, .int y)]) hx hb dX0_appendToRow_39 hl (k := 0) rfl (show nI i + 1 = nI (i + 1) from nI_1 i) (by decide) rfl (fun ls hl => ?_)
        refine lv_goto (tgt := 2) hx hb dX0_appendToRow_42 (by decide) ?_
        exact ih (i + 1) _ H locs ls (by omega) (by omega) (gg_I_push (n := n + i) hI (by rw [sb_cat_hi]; exact gg_wb_lt y i) (by rw [sb_cat_hi])) hP hD hS (lv_sub hl [0, 1, 2] rfl)
  exact loop 5 0 g H [] ls (by omega) (by omega) (gg_I_cat hI) hP hD hS hl

set_option maxHeartbeats 4000000 in
set_option maxRecDepth 100000 in
theorem c_X0_appendToOutput (l : Launch) (dC : Nat → ClassId) (dI : Nat → Nat → Nat) (h0 ar ao : Nat) (cA cB : ClassId) (sz : Nat) (g o : Nat → Int32) (n k : Nat) (v : Int64) (z : Nat → Nat) (x : Int64) (M : Nat) (hI : gg_I z k o) (hn : k + M ≤ 1000) (hM1 : 1 ≤ M) (hM : M ≤ 10) : Met l yX0_appendToOutput wsX0_appendToOutput R0 (va_Pc [.ref h0, .long x, .int (nI M)] (Pw (dC, dI) vwCl (ty0 cA cB) sz (w0 h0 ar ao cA cB g o (nI n) (nI k) v))) (va_Qv (fun u => gg_I (sb_cat z k (gg_by x M)) (k + M) u) (Bw (S := Nat → Int32) (dC, dI) vwCl (ty0 cA cB) sz (w0 h0 ar ao cA cB g o (nI n) (nI k) v) (fun u => w0 h0 ar ao cA cB g u (nI n) (nI (k + M)) v)) (va_A (w0 h0 ar ao cA cB g o (nI n) (nI k) v) sz)) 0 0 (va_A (w0 h0 ar ao cA cB g o (nI n) (nI k) v) sz) := by
  refine mm_v (cc := cX0_appendToOutput) (maxL := 6) (by decide) rfl (Nat.le_of_ble_eq_true rfl) ?_
  intro p e s m below meth c Q A H ls hx hb hml hown hts hK hP hD hS hA hl fin
  have hown : s.vm.findClass RX0 = some m.cls := hown
  have hin : ∀ w ∈ wsX00, w ∈ wsX0_appendToOutput := by decide +kernel
  have hl : lv_has ls 6 [(0, .ref h0), (1, .long x), (3, .int (nI M))] := hl
  have hP : va_P (dC, dI) vwCl (w0 h0 ar ao cA cB g o (nI n) (nI k) v) H := hP
  have hD : va_D A (w0 h0 ar ao cA cB g o (nI n) (nI k) v) := hD
  refine lv_iconst (v := nI 0) hx hb dX0_appendToOutput_0 (by decide) ?_
  refine lv_istore (lv' := [(4, .int (nI 0)), (0, .ref h0), (1, .long x), (3, .int (nI M))]) hx hb dX0_appendToOutput_1 hl (by decide) rfl (fun ls hl => ?_)
  have loop : ∀ (f i : Nat) (gi : Nat → Int32) (H : Heap) (locs : List Loc) (ls : Array Slot), i ≤ M → M + 1 ≤ i + f → gg_I (sb_cat z k (gg_by x M)) (k + i) gi → va_P (dC, dI) vwCl (w0 h0 ar ao cA cB g gi (nI n) (nI (k + i)) v) H → va_D A (w0 h0 ar ao cA cB g gi (nI n) (nI (k + i)) v) → va_S A s.heap H locs → lv_has ls 6 [(4, .int (nI i)), (0, .ref h0), (1, .long x), (3, .int (nI M))] → W p l e R0 s m ([.ref h0, .long x, .int (nI M)] : List Value).toArray below meth c H locs 0 0 Q (F0 m 3 ls []) := by
    intro f
    induction f with
    | zero => intro i gi H locs ls h1 h2
              exact absurd h2 (by omega)
    | succ f ih =>
      intro i gi H locs ls hi hf hI hP hD hS hl
      refine lv_iload hx hb dX0_appendToOutput_3 (lv_at hl 0 rfl) ?_
      refine lv_iload_n hx hb dX0_appendToOutput_5 rfl (lv_at hl 3 rfl) ?_
      refine lv_icmp_ge (tgt := 66) hx hb dX0_appendToOutput_6 (by decide) (fun c_1 => ?_) (fun c_1 => ?_)
      · have dc_1 : i = M := by
          have q := (nI_leI (by omega) (by omega)).mp c_1
          omega
        subst dc_1
        exact fin H locs ls _ gi dX0_appendToOutput_66 hI hP hD hS
      · have dc_1 : i < M := Nat.lt_of_not_le (fun q => c_1 ((nI_leI (by omega) (by omega)).mpr q))
        refine lv_lload_n hx hb dX0_appendToOutput_9 rfl (lv_at hl 2 rfl) ?_
        refine lv_bipush (v := 7) hx hb dX0_appendToOutput_10 (by decide) ?_
        refine lv_iload hx hb dX0_appendToOutput_12 (lv_at hl 0 rfl) ?_
        refine lv_imul hx hb dX0_appendToOutput_14 ?_
        refine lv_lshr hx hb dX0_appendToOutput_15 rfl ?_
        refine lv_l2i hx hb dX0_appendToOutput_16 rfl ?_
        refine lv_bipush (v := 127) hx hb dX0_appendToOutput_17 (by decide) ?_
        refine lv_iand hx hb dX0_appendToOutput_19 ?_
        refine lv_topi (fun z_2 ez_2 => ?_)
        have ez_2 : z_2 = nI (gg_grp x i) := by rw [ez_2]; exact gg_grp_I x i
        subst ez_2
        refine lv_istore (lv' := [(5, .int (nI (gg_grp x i))), (4, .int (nI i)), (0, .ref h0), (1, .long x), (3, .int (nI M))]) hx hb dX0_appendToOutput_20 hl (by decide) rfl (fun ls hl => ?_)
        refine lv_aload_n hx hb dX0_appendToOutput_22 rfl (lv_at hl 2 rfl) ?_
        refine va_get (D := (dC, dI)) (ci := 0) (v := .ref ao) (C := RX0) (T := TX0) (N := 5) hx hb hts hin hown hK hP 0 rfl rfl 2 (by decide) (hts (.fieldLink RX0 17 "GroupedNumbers" "output" "[I") (by decide +kernel)) (fun _ h9 => h9) rfl dX0_appendToOutput_23 ?_
        refine lv_aload_n hx hb dX0_appendToOutput_26 rfl (lv_at hl 2 rfl) ?_
        refine va_get (D := (dC, dI)) (ci := 0) (v := .int (nI (k + i))) (C := RX0) (T := TX0) (N := 5) hx hb hts hin hown hK hP 0 rfl rfl 3 (by decide) (hts (.fieldLink RX0 20 "GroupedNumbers" "outputLength" "I") (by decide +kernel)) (fun _ h9 => h9) rfl dX0_appendToOutput_27 ?_
        refine lv_iload hx hb dX0_appendToOutput_30 (lv_at hl 1 rfl) ?_
        refine lv_iload_n hx hb dX0_appendToOutput_32 rfl (lv_at hl 4 rfl) ?_
        refine lv_iconst (v := nI 1) hx hb dX0_appendToOutput_33 (by decide) ?_
        refine lv_isub hx hb dX0_appendToOutput_34 ?_
        refine lv_topi (fun z_3 ez_3 => ?_)
        have ez_3 : z_3 = nI (M - 1) := by rw [ez_3]; exact pk_sub (by omega)
        subst ez_3
        have hgl := gg_grp_lt x i
        refine lv_icmp_ge (tgt := 47) hx hb dX0_appendToOutput_35 (by decide) (fun c_4 => ?_) (fun c_4 => ?_)
        · have dc_4 : ¬ i + 1 < M := by
            have q := (nI_leI (by omega) (by omega)).mp c_4
            omega
          refine lv_iload hx hb dX0_appendToOutput_47 (lv_at hl 0 rfl) ?_
          have hby : gg_by x M i = gg_grp x i := by
            unfold gg_by
            rw [if_neg dc_4, Nat.add_zero]
          refine va_iast hx hb hK hP hD hS 2 1 rfl rfl (vp_in_nI (show k + i < 1000 by omega) (by decide)) dX0_appendToOutput_49 (fun H locs hP hD hS => ?_)
          rw [nI_clamp (show k + i < 2 ^ 31 by omega)] at hP hD
          have hP : va_P (dC, dI) vwCl (w0 h0 ar ao cA cB g (upd gi (k + i) (nI (gg_grp x i))) (nI n) (nI (k + i)) v) H := hP
          have hD : va_D A (w0 h0 ar ao cA cB g (upd gi (k + i) (nI (gg_grp x i))) (nI n) (nI (k + i)) v) := hD
          refine lv_aload_n hx hb dX0_appendToOutput_50 rfl (lv_at hl 2 rfl) ?_
          refine lv_dup hx hb dX0_appendToOutput_51 rfl ?_
          refine va_get (D := (dC, dI)) (ci := 0) (v := .int (nI (k + i))) (C := RX0) (T := TX0) (N := 5) hx hb hts hin hown hK hP 0 rfl rfl 3 (by decide) (hts (.fieldLink RX0 20 "GroupedNumbers" "outputLength" "I") (by decide +kernel)) (fun _ h9 => h9) rfl dX0_appendToOutput_52 ?_
          refine lv_iconst (v := nI 1) hx hb dX0_appendToOutput_55 (by decide) ?_
          refine lv_iadd hx hb dX0_appendToOutput_56 ?_
          refine lv_topi (fun z_5 ez_5 => ?_)
          have ez_5 : z_5 = nI (k + (i + 1)) := by rw [ez_5]; exact nI_add (k + i) 1
          subst ez_5
          refine va_put (D := (dC, dI)) (ci := 0) (v := .int (nI (k + (i + 1)))) (ty := .int) (C := RX0) (T := TX0) (N := 5) hx hb hts hin tyX0 tyX0_ok nmX0 hown hK hP hD hS 0 rfl rfl 3 (by decide) (hts (.fieldLink RX0 20 "GroupedNumbers" "outputLength" "I") (by decide +kernel)) (fun _ h9 => h9) rfl (by decide +kernel) rfl rfl (Nat.le_of_ble_eq_true rfl) dX0_appendToOutput_57 (fun H locs hP hD hS => ?_)
          have hP : va_P (dC, dI) vwCl (w0 h0 ar ao cA cB g (upd gi (k + i) (nI (gg_grp x i))) (nI n) (nI (k + (i + 1))) v) H := hP
          have hD : va_D A (w0 h0 ar ao cA cB g (upd gi (k + i) (nI (gg_grp x i))) (nI n) (nI (k + (i + 1))) v) := hD
          refine lv_iinc (v := nI (i + 1)) (lv' := [(4, .int (nI (i + 1))), (5, .int (nI (gg_grp x i))), (0, .ref h0), (1, .long x), (3, .int (nI M))]) hx hb dX0_appendToOutput_60 hl (k := 1) rfl (show nI i + 1 = nI (i + 1) from nI_1 i) (by decide) rfl (fun ls hl => ?_)
          refine lv_goto (tgt := 3) hx hb dX0_appendToOutput_63 (by decide) ?_
          exact ih (i + 1) _ H locs ls (by omega) (by omega) (gg_I_push (n := k + i) hI (by rw [sb_cat_hi]; exact gg_by_lt x M i) (by rw [sb_cat_hi, hby])) hP hD hS (lv_sub hl [0, 2, 3, 4] rfl)
        · have dc_4 : i + 1 < M := by
            have q : ¬ M - 1 ≤ i := fun q => c_4 ((nI_leI (by omega) (by omega)).mpr q)
            omega
          refine lv_iload hx hb dX0_appendToOutput_38 (lv_at hl 0 rfl) ?_
          refine lv_sipush (v := nI 128) hx hb dX0_appendToOutput_40 (by decide) ?_
          refine lv_iadd hx hb dX0_appendToOutput_43 ?_
          refine lv_topi (fun z_6 ez_6 => ?_)
          have ez_6 : z_6 = nI (gg_grp x i + 128) := by rw [ez_6]; exact nI_add _ 128
          subst ez_6
          refine lv_goto (tgt := 49) hx hb dX0_appendToOutput_44 (by decide) ?_
          have hby : gg_by x M i = gg_grp x i + 128 := by
            unfold gg_by
            rw [if_pos dc_4]
          refine va_iast hx hb hK hP hD hS 2 1 rfl rfl (vp_in_nI (show k + i < 1000 by omega) (by decide)) dX0_appendToOutput_49 (fun H locs hP hD hS => ?_)
          rw [nI_clamp (show k + i < 2 ^ 31 by omega)] at hP hD
          have hP : va_P (dC, dI) vwCl (w0 h0 ar ao cA cB g (upd gi (k + i) (nI (gg_grp x i + 128))) (nI n) (nI (k + i)) v) H := hP
          have hD : va_D A (w0 h0 ar ao cA cB g (upd gi (k + i) (nI (gg_grp x i + 128))) (nI n) (nI (k + i)) v) := hD
          refine lv_aload_n hx hb dX0_appendToOutput_50 rfl (lv_at hl 2 rfl) ?_
          refine lv_dup hx hb dX0_appendToOutput_51 rfl ?_
          refine va_get (D := (dC, dI)) (ci := 0) (v := .int (nI (k + i))) (C := RX0) (T := TX0) (N := 5) hx hb hts hin hown hK hP 0 rfl rfl 3 (by decide) (hts (.fieldLink RX0 20 "GroupedNumbers" "outputLength" "I") (by decide +kernel)) (fun _ h9 => h9) rfl dX0_appendToOutput_52 ?_
          refine lv_iconst (v := nI 1) hx hb dX0_appendToOutput_55 (by decide) ?_
          refine lv_iadd hx hb dX0_appendToOutput_56 ?_
          refine lv_topi (fun z_7 ez_7 => ?_)
          have ez_7 : z_7 = nI (k + (i + 1)) := by rw [ez_7]; exact nI_add (k + i) 1
          subst ez_7
          refine va_put (D := (dC, dI)) (ci := 0) (v := .int (nI (k + (i + 1)))) (ty := .int) (C := RX0) (T := TX0) (N := 5) hx hb hts hin tyX0 tyX0_ok nmX0 hown hK hP hD hS 0 rfl rfl 3 (by decide) (hts (.fieldLink RX0 20 "GroupedNumbers" "outputLength" "I") (by decide +kernel)) (fun _ h9 => h9) rfl (by decide +kernel) rfl rfl (Nat.le_of_ble_eq_true rfl) dX0_appendToOutput_57 (fun H locs hP hD hS => ?_)
          have hP : va_P (dC, dI) vwCl (w0 h0 ar ao cA cB g (upd gi (k + i) (nI (gg_grp x i + 128))) (nI n) (nI (k + (i + 1))) v) H := hP
          have hD : va_D A (w0 h0 ar ao cA cB g (upd gi (k + i) (nI (gg_grp x i + 128))) (nI n) (nI (k + (i + 1))) v) := hD
          refine lv_iinc (v := nI (i + 1)) (lv' := [(4, .int (nI (i + 1))), (5, .int (nI (gg_grp x i))), (0, .ref h0), (1, .long x), (3, .int (nI M))]) hx hb dX0_appendToOutput_60 hl (k := 1) rfl (show nI i + 1 = nI (i + 1) from nI_1 i) (by decide) rfl (fun ls hl => ?_)
          refine lv_goto (tgt := 3) hx hb dX0_appendToOutput_63 (by decide) ?_
          exact ih (i + 1) _ H locs ls (by omega) (by omega) (gg_I_push (n := k + i) hI (by rw [sb_cat_hi]; exact gg_by_lt x M i) (by rw [sb_cat_hi, hby])) hP hD hS (lv_sub hl [0, 2, 3, 4] rfl)
  exact loop (M + 1) 0 o H [] ls (by omega) (by omega) (gg_I_cat hI) hP hD hS hl

def gg_ft (t : Nat → Nat) (n : Nat) (a b c d f : Int32) : Nat → Nat := sb_cat (sb_cat (sb_cat (sb_cat (sb_cat t n (gg_wb a)) (n + 4) (gg_wb b)) (n + 8) (gg_wb c)) (n + 12) (gg_wb d)) (n + 16) (gg_wb f)
def gg_feed (t : Nat → Nat) (n : Nat) (a b c d f : Int32) : Int32 × Nat × (Nat → Nat) := if n + 20 ≤ 1000 then (nI (n + 20), n + 20, gg_ft t n a b c d f) else (-1, n, t)

set_option maxHeartbeats 4000000 in
set_option maxRecDepth 100000 in
theorem c_X0_feed (l : Launch) (dC : Nat → ClassId) (dI : Nat → Nat → Nat) (h0 ar ao : Nat) (cA cB : ClassId) (sz : Nat) (g o : Nat → Int32) (n k : Nat) (v : Int64) (t z : Nat → Nat) (x1 x2 x3 x4 x5 : Int32) (hI : gg_I t n g) (hO : gg_I z k o) (hn : n ≤ 1000) (hk : k ≤ 1000) : Met l yX0_feed wsX0_feed R1 (va_Pc [.ref h0, .int x1, .int x2, .int x3, .int x4, .int x5] (Pw (dC, dI) vwCl (ty0 cA cB) sz (w0 h0 ar ao cA cB g o (nI n) (nI k) v))) (va_Qi (fun r u => r = (gg_feed t n x1 x2 x3 x4 x5).1 ∧ gs_is gg_I (gg_feed t n x1 x2 x3 x4 x5).2.2 (gg_feed t n x1 x2 x3 x4 x5).2.1 z k v u) (Bw (S := gS) (dC, dI) vwCl (ty0 cA cB) sz (w0 h0 ar ao cA cB g o (nI n) (nI k) v) (B0 h0 ar ao cA cB)) (va_A (w0 h0 ar ao cA cB g o (nI n) (nI k) v) sz)) 0 0 (va_A (w0 h0 ar ao cA cB g o (nI n) (nI k) v) sz) := by
  refine mm_i (cc := cX0_feed) (maxL := 6) (by decide) rfl (Nat.le_of_ble_eq_true rfl) ?_
  intro p e s m below meth c Q A H ls hx hb hml hown hts hK hP hD hS hA hl fin
  have hown : s.vm.findClass RX0 = some m.cls := hown
  have hin : ∀ w ∈ wsX00, w ∈ wsX0_feed := by decide +kernel
  have hl : lv_has ls 6 [(0, .ref h0), (1, .int x1), (2, .int x2), (3, .int x3), (4, .int x4), (5, .int x5)] := hl
  have hP : va_P (dC, dI) vwCl (w0 h0 ar ao cA cB g o (nI n) (nI k) v) H := hP
  have hD : va_D A (w0 h0 ar ao cA cB g o (nI n) (nI k) v) := hD
  refine lv_aload_n hx hb dX0_feed_0 rfl (lv_at hl 0 rfl) ?_
  refine va_get (D := (dC, dI)) (ci := 0) (v := .int (nI n)) (C := RX0) (T := TX0) (N := 5) hx hb hts hin hown hK hP 0 rfl rfl 1 (by decide) (hts (.fieldLink RX0 13 "GroupedNumbers" "rowLength" "I") (by decide +kernel)) (fun _ h9 => h9) rfl dX0_feed_1 ?_
  refine lv_sipush (v := nI 980) hx hb dX0_feed_4 (by decide) ?_
  refine lv_icmp_le (tgt := 12) hx hb dX0_feed_7 (by decide) (fun c_1 => ?_) (fun c_1 => ?_)
  · have hn20 : n + 20 ≤ 1000 := by
      have q := (nI_leI (by omega) (by decide)).mp c_1
      omega
    refine lv_aload_n hx hb dX0_feed_12 rfl (lv_at hl 0 rfl) ?_
    refine lv_iload_n hx hb dX0_feed_13 rfl (lv_at hl 1 rfl) ?_
    refine cc_mv (av := [.int x1]) (rest := []) [0, 1, 2] [] ⟨hx, hb, hml, hown, hts⟩ (c_X0_appendToRow l dC dI h0 ar ao cA cB H.size g o (n) k v (t) x1 hI (by omega)) (cwV 1 hts gX0_feed_X0_appendToRow rfl rfl rfl (by decide +kernel) ⟨Nat.le_of_ble_eq_true rfl, Nat.le_of_ble_eq_true rfl⟩) hP hD hS hA hK (wr := []) rfl rfl (by decide) (by decide) (by decide) (ci := 0) rfl rfl rfl hl.1 rfl (Nat.le_of_ble_eq_true rfl) dX0_feed_14 ⟨Nat.zero_le _, Nat.zero_le _⟩ (fun g1 H locs hI1 hP hD hS => ?_)
    have hP : va_P (dC, dI) vwCl (w0 h0 ar ao cA cB g1 o (nI (n + 4)) (nI k) v) H := hP
    have hD : va_D A (w0 h0 ar ao cA cB g1 o (nI (n + 4)) (nI k) v) := hD
    refine lv_aload_n hx hb dX0_feed_17 rfl (lv_at hl 0 rfl) ?_
    refine lv_iload_n hx hb dX0_feed_18 rfl (lv_at hl 2 rfl) ?_
    refine cc_mv (av := [.int x2]) (rest := []) [0, 1, 2] [] ⟨hx, hb, hml, hown, hts⟩ (c_X0_appendToRow l dC dI h0 ar ao cA cB H.size g1 o (n + 4) k v (sb_cat (t) (n) (gg_wb x1)) x2 hI1 (by omega)) (cwV 1 hts gX0_feed_X0_appendToRow rfl rfl rfl (by decide +kernel) ⟨Nat.le_of_ble_eq_true rfl, Nat.le_of_ble_eq_true rfl⟩) hP hD hS hA hK (wr := []) rfl rfl (by decide) (by decide) (by decide) (ci := 0) rfl rfl rfl hl.1 rfl (Nat.le_of_ble_eq_true rfl) dX0_feed_19 ⟨Nat.zero_le _, Nat.zero_le _⟩ (fun g2 H locs hI2 hP hD hS => ?_)
    have hP : va_P (dC, dI) vwCl (w0 h0 ar ao cA cB g2 o (nI (n + 8)) (nI k) v) H := hP
    have hD : va_D A (w0 h0 ar ao cA cB g2 o (nI (n + 8)) (nI k) v) := hD
    refine lv_aload_n hx hb dX0_feed_22 rfl (lv_at hl 0 rfl) ?_
    refine lv_iload_n hx hb dX0_feed_23 rfl (lv_at hl 3 rfl) ?_
    refine cc_mv (av := [.int x3]) (rest := []) [0, 1, 2] [] ⟨hx, hb, hml, hown, hts⟩ (c_X0_appendToRow l dC dI h0 ar ao cA cB H.size g2 o (n + 8) k v (sb_cat (sb_cat (t) (n) (gg_wb x1)) (n + 4) (gg_wb x2)) x3 hI2 (by omega)) (cwV 1 hts gX0_feed_X0_appendToRow rfl rfl rfl (by decide +kernel) ⟨Nat.le_of_ble_eq_true rfl, Nat.le_of_ble_eq_true rfl⟩) hP hD hS hA hK (wr := []) rfl rfl (by decide) (by decide) (by decide) (ci := 0) rfl rfl rfl hl.1 rfl (Nat.le_of_ble_eq_true rfl) dX0_feed_24 ⟨Nat.zero_le _, Nat.zero_le _⟩ (fun g3 H locs hI3 hP hD hS => ?_)
    have hP : va_P (dC, dI) vwCl (w0 h0 ar ao cA cB g3 o (nI (n + 12)) (nI k) v) H := hP
    have hD : va_D A (w0 h0 ar ao cA cB g3 o (nI (n + 12)) (nI k) v) := hD
    refine lv_aload_n hx hb dX0_feed_27 rfl (lv_at hl 0 rfl) ?_
    refine lv_iload hx hb dX0_feed_28 (lv_at hl 4 rfl) ?_
    refine cc_mv (av := [.int x4]) (rest := []) [0, 1, 2] [] ⟨hx, hb, hml, hown, hts⟩ (c_X0_appendToRow l dC dI h0 ar ao cA cB H.size g3 o (n + 12) k v (sb_cat (sb_cat (sb_cat (t) (n) (gg_wb x1)) (n + 4) (gg_wb x2)) (n + 8) (gg_wb x3)) x4 hI3 (by omega)) (cwV 1 hts gX0_feed_X0_appendToRow rfl rfl rfl (by decide +kernel) ⟨Nat.le_of_ble_eq_true rfl, Nat.le_of_ble_eq_true rfl⟩) hP hD hS hA hK (wr := []) rfl rfl (by decide) (by decide) (by decide) (ci := 0) rfl rfl rfl hl.1 rfl (Nat.le_of_ble_eq_true rfl) dX0_feed_30 ⟨Nat.zero_le _, Nat.zero_le _⟩ (fun g4 H locs hI4 hP hD hS => ?_)
    have hP : va_P (dC, dI) vwCl (w0 h0 ar ao cA cB g4 o (nI (n + 16)) (nI k) v) H := hP
    have hD : va_D A (w0 h0 ar ao cA cB g4 o (nI (n + 16)) (nI k) v) := hD
    refine lv_aload_n hx hb dX0_feed_33 rfl (lv_at hl 0 rfl) ?_
    refine lv_iload hx hb dX0_feed_34 (lv_at hl 5 rfl) ?_
    refine cc_mv (av := [.int x5]) (rest := []) [0, 1, 2] [] ⟨hx, hb, hml, hown, hts⟩ (c_X0_appendToRow l dC dI h0 ar ao cA cB H.size g4 o (n + 16) k v (sb_cat (sb_cat (sb_cat (sb_cat (t) (n) (gg_wb x1)) (n + 4) (gg_wb x2)) (n + 8) (gg_wb x3)) (n + 12) (gg_wb x4)) x5 hI4 (by omega)) (cwV 1 hts gX0_feed_X0_appendToRow rfl rfl rfl (by decide +kernel) ⟨Nat.le_of_ble_eq_true rfl, Nat.le_of_ble_eq_true rfl⟩) hP hD hS hA hK (wr := []) rfl rfl (by decide) (by decide) (by decide) (ci := 0) rfl rfl rfl hl.1 rfl (Nat.le_of_ble_eq_true rfl) dX0_feed_36 ⟨Nat.zero_le _, Nat.zero_le _⟩ (fun g5 H locs hI5 hP hD hS => ?_)
    have hP : va_P (dC, dI) vwCl (w0 h0 ar ao cA cB g5 o (nI (n + 20)) (nI k) v) H := hP
    have hD : va_D A (w0 h0 ar ao cA cB g5 o (nI (n + 20)) (nI k) v) := hD
    refine lv_aload_n hx hb dX0_feed_39 rfl (lv_at hl 0 rfl) ?_
    refine va_get (D := (dC, dI)) (ci := 0) (v := .int (nI (n + 20))) (C := RX0) (T := TX0) (N := 5) hx hb hts hin hown hK hP 0 rfl rfl 1 (by decide) (hts (.fieldLink RX0 13 "GroupedNumbers" "rowLength" "I") (by decide +kernel)) (fun _ h9 => h9) rfl dX0_feed_40 ?_
    have hf : gg_feed t n x1 x2 x3 x4 x5 = (nI (n + 20), n + 20, gg_ft t n x1 x2 x3 x4 x5) := by unfold gg_feed; rw [if_pos hn20]
    exact fin H _ ls _ (nI (n + 20)) (g5, o, nI (n + 20), nI k, v) dX0_feed_43 (by rw [hf]; exact ⟨rfl, hI5, hO, rfl, rfl, rfl⟩) hP hD hS
  · have hn20 : ¬ n + 20 ≤ 1000 := by
      have q : ¬ n ≤ 980 := fun q => c_1 ((nI_leI (by omega) (by decide)).mpr q)
      omega
    have hf : gg_feed t n x1 x2 x3 x4 x5 = (-1, n, t) := by unfold gg_feed; rw [if_neg hn20]
    refine lv_iconst (v := (-1)) hx hb dX0_feed_10 (by decide) ?_
    exact fin H _ ls _ (-1) (g, o, nI n, nI k, v) dX0_feed_11 (by rw [hf]; exact ⟨rfl, hI, hO, rfl, rfl, rfl⟩) hP hD hS

def gg_end (x : Int32) (n : Nat) : Int32 × Nat := if ¬ x < 0 ∧ x ≤ nI n then (x, x.toNatClampNeg) else (-1, n)
theorem gg_end_bd {x : Int32} {n : Nat} (hn : n ≤ 1000) : (gg_end x n).2 ≤ n := by
  unfold gg_end
  split
  · rename_i h
    obtain ⟨j, hj, rfl⟩ := nI_of h.1
    show (nI j).toNatClampNeg ≤ n
    rw [nI_clamp hj]
    exact (nI_leI hj (by omega)).mp h.2
  · exact Nat.le_refl n

set_option maxHeartbeats 4000000 in
set_option maxRecDepth 100000 in
theorem c_X0_end (l : Launch) (dC : Nat → ClassId) (dI : Nat → Nat → Nat) (h0 ar ao : Nat) (cA cB : ClassId) (sz : Nat) (g o : Nat → Int32) (n k : Nat) (v : Int64) (t z : Nat → Nat) (x : Int32) (hI : gg_I t n g) (hO : gg_I z k o) (hn : n ≤ 1000) (hk : k ≤ 1000) : Met l yX0_end wsX0_end R0 (va_Pc [.ref h0, .int x] (Pw (dC, dI) vwCl (ty0 cA cB) sz (w0 h0 ar ao cA cB g o (nI n) (nI k) v))) (va_Qi (fun r u => r = (gg_end x n).1 ∧ gs_is gg_I t (gg_end x n).2 z k v u) (Bw (S := gS) (dC, dI) vwCl (ty0 cA cB) sz (w0 h0 ar ao cA cB g o (nI n) (nI k) v) (B0 h0 ar ao cA cB)) (va_A (w0 h0 ar ao cA cB g o (nI n) (nI k) v) sz)) 0 0 (va_A (w0 h0 ar ao cA cB g o (nI n) (nI k) v) sz) := by
  refine mm_i (cc := cX0_end) (maxL := 2) (by decide) rfl (Nat.le_of_ble_eq_true rfl) ?_
  intro p e s m below meth c Q A H ls hx hb hml hown hts hK hP hD hS hA hl fin
  have hown : s.vm.findClass RX0 = some m.cls := hown
  have hin : ∀ w ∈ wsX00, w ∈ wsX0_end := by decide +kernel
  have hl : lv_has ls 2 [(0, .ref h0), (1, .int x)] := hl
  have hP : va_P (dC, dI) vwCl (w0 h0 ar ao cA cB g o (nI n) (nI k) v) H := hP
  have hD : va_D A (w0 h0 ar ao cA cB g o (nI n) (nI k) v) := hD
  refine lv_iload_n hx hb dX0_end_0 rfl (lv_at hl 1 rfl) ?_
  refine lv_if_lt (tgt := 12) hx hb dX0_end_1 (by decide) (fun c_1 => ?_) (fun c_1 => ?_)
  · have hf : gg_end x n = (-1, n) := by unfold gg_end; rw [if_neg (fun q => q.1 c_1)]
    refine lv_iconst (v := (-1)) hx hb dX0_end_12 (by decide) ?_
    exact fin H _ ls _ (-1) (g, o, nI n, nI k, v) dX0_end_13 (by rw [hf]; exact ⟨rfl, hI, hO, rfl, rfl, rfl⟩) hP hD hS
  · refine lv_iload_n hx hb dX0_end_4 rfl (lv_at hl 1 rfl) ?_
    refine lv_aload_n hx hb dX0_end_5 rfl (lv_at hl 0 rfl) ?_
    refine va_get (D := (dC, dI)) (ci := 0) (v := .int (nI n)) (C := RX0) (T := TX0) (N := 5) hx hb hts hin hown hK hP 0 rfl rfl 1 (by decide) (hts (.fieldLink RX0 13 "GroupedNumbers" "rowLength" "I") (by decide +kernel)) (fun _ h9 => h9) rfl dX0_end_6 ?_
    refine lv_icmp_le (tgt := 14) hx hb dX0_end_9 (by decide) (fun c_2 => ?_) (fun c_2 => ?_)
    · have hf : gg_end x n = (x, x.toNatClampNeg) := by unfold gg_end; rw [if_pos ⟨c_1, c_2⟩]
      have hbd := gg_end_bd (x := x) hn
      obtain ⟨j, hj, ej⟩ := nI_of c_1
      have ec : x.toNatClampNeg = j := by rw [ej]; exact nI_clamp hj
      rw [hf] at hbd
      have hbd : x.toNatClampNeg ≤ n := hbd
      rw [ec] at hbd
      refine lv_aload_n hx hb dX0_end_14 rfl (lv_at hl 0 rfl) ?_
      refine lv_iload_n hx hb dX0_end_15 rfl (lv_at hl 1 rfl) ?_
      refine va_put (D := (dC, dI)) (ci := 0) (v := .int x) (ty := .int) (C := RX0) (T := TX0) (N := 5) hx hb hts hin tyX0 tyX0_ok nmX0 hown hK hP hD hS 0 rfl rfl 1 (by decide) (hts (.fieldLink RX0 13 "GroupedNumbers" "rowLength" "I") (by decide +kernel)) (fun _ h9 => h9) rfl (by decide +kernel) rfl rfl (Nat.le_of_ble_eq_true rfl) dX0_end_16 (fun H locs hP hD hS => ?_)
      have hP : va_P (dC, dI) vwCl (w0 h0 ar ao cA cB g o x (nI k) v) H := hP
      have hD : va_D A (w0 h0 ar ao cA cB g o x (nI k) v) := hD
      refine lv_iload_n hx hb dX0_end_19 rfl (lv_at hl 1 rfl) ?_
      exact fin H _ ls _ x (g, o, x, nI k, v) dX0_end_20 (by rw [hf]; exact ⟨rfl, by show gg_I t x.toNatClampNeg g; rw [ec]; exact gg_I_sub hI hbd, hO, by show x = nI x.toNatClampNeg; rw [ec]; exact ej, rfl, rfl⟩) hP hD hS
    · have hf : gg_end x n = (-1, n) := by unfold gg_end; rw [if_neg (fun q => c_2 q.2)]
      refine lv_iconst (v := (-1)) hx hb dX0_end_12 (by decide) ?_
      exact fin H _ ls _ (-1) (g, o, nI n, nI k, v) dX0_end_13 (by rw [hf]; exact ⟨rfl, hI, hO, rfl, rfl, rfl⟩) hP hD hS

set_option maxHeartbeats 4000000 in
set_option maxRecDepth 100000 in
theorem c_X0_clear (l : Launch) (dC : Nat → ClassId) (dI : Nat → Nat → Nat) (h0 ar ao : Nat) (cA cB : ClassId) (sz : Nat) (g o : Nat → Int32) (n k : Nat) (v : Int64) (t z : Nat → Nat) (hI : gg_I t n g) (hO : gg_I z k o) (hn : n ≤ 1000) (hk : k ≤ 1000) : Met l yX0_clear wsX0_clear R0 (va_Pc [.ref h0] (Pw (dC, dI) vwCl (ty0 cA cB) sz (w0 h0 ar ao cA cB g o (nI n) (nI k) v))) (va_Qv (fun u => gs_is gg_I t 0 z 0 v u) (Bw (S := gS) (dC, dI) vwCl (ty0 cA cB) sz (w0 h0 ar ao cA cB g o (nI n) (nI k) v) (B0 h0 ar ao cA cB)) (va_A (w0 h0 ar ao cA cB g o (nI n) (nI k) v) sz)) 0 0 (va_A (w0 h0 ar ao cA cB g o (nI n) (nI k) v) sz) := by
  refine mm_v (cc := cX0_clear) (maxL := 1) (by decide) rfl (Nat.le_of_ble_eq_true rfl) ?_
  intro p e s m below meth c Q A H ls hx hb hml hown hts hK hP hD hS hA hl fin
  have hown : s.vm.findClass RX0 = some m.cls := hown
  have hin : ∀ w ∈ wsX00, w ∈ wsX0_clear := by decide +kernel
  have hl : lv_has ls 1 [(0, .ref h0)] := hl
  have hP : va_P (dC, dI) vwCl (w0 h0 ar ao cA cB g o (nI n) (nI k) v) H := hP
  have hD : va_D A (w0 h0 ar ao cA cB g o (nI n) (nI k) v) := hD
  refine lv_aload_n hx hb dX0_clear_0 rfl (lv_at hl 0 rfl) ?_
  refine lv_iconst (v := nI 0) hx hb dX0_clear_1 (by decide) ?_
  refine va_put (D := (dC, dI)) (ci := 0) (v := .int (nI 0)) (ty := .int) (C := RX0) (T := TX0) (N := 5) hx hb hts hin tyX0 tyX0_ok nmX0 hown hK hP hD hS 0 rfl rfl 3 (by decide) (hts (.fieldLink RX0 20 "GroupedNumbers" "outputLength" "I") (by decide +kernel)) (fun _ h9 => h9) rfl (by decide +kernel) rfl rfl (Nat.le_of_ble_eq_true rfl) dX0_clear_2 (fun H locs hP hD hS => ?_)
  have hP : va_P (dC, dI) vwCl (w0 h0 ar ao cA cB g o (nI n) (nI 0) v) H := hP
  have hD : va_D A (w0 h0 ar ao cA cB g o (nI n) (nI 0) v) := hD
  refine lv_aload_n hx hb dX0_clear_5 rfl (lv_at hl 0 rfl) ?_
  refine lv_iconst (v := nI 0) hx hb dX0_clear_6 (by decide) ?_
  refine va_put (D := (dC, dI)) (ci := 0) (v := .int (nI 0)) (ty := .int) (C := RX0) (T := TX0) (N := 5) hx hb hts hin tyX0 tyX0_ok nmX0 hown hK hP hD hS 0 rfl rfl 1 (by decide) (hts (.fieldLink RX0 13 "GroupedNumbers" "rowLength" "I") (by decide +kernel)) (fun _ h9 => h9) rfl (by decide +kernel) rfl rfl (Nat.le_of_ble_eq_true rfl) dX0_clear_7 (fun H locs hP hD hS => ?_)
  have hP : va_P (dC, dI) vwCl (w0 h0 ar ao cA cB g o (nI 0) (nI 0) v) H := hP
  have hD : va_D A (w0 h0 ar ao cA cB g o (nI 0) (nI 0) v) := hD
  exact fin H _ ls _ (g, o, nI 0, nI 0, v) dX0_clear_10 ⟨gg_I_sub hI (Nat.zero_le _), gg_I_sub hO (Nat.zero_le _), rfl, rfl, rfl⟩ hP hD hS

set_option maxHeartbeats 4000000 in
set_option maxRecDepth 100000 in
theorem c_X0_read (l : Launch) (dC : Nat → ClassId) (dI : Nat → Nat → Nat) (h0 ar ao : Nat) (cA cB : ClassId) (sz : Nat) (g o : Nat → Int32) (n k : Nat) (v : Int64) (t z : Nat → Nat) (a x : Int32) (hI : gg_I t n g) (hO : gg_I z k o) (hn : n ≤ 1000) (hk : k ≤ 1000) : Met l yX0_read wsX0_read R2 (va_Pc [.ref h0, .int a, .int x] (Pw (dC, dI) vwCl (ty0 cA cB) sz (w0 h0 ar ao cA cB g o (nI n) (nI k) v))) (va_Qi (fun r u => r = (gg_read a x t n v).1 ∧ gs_is gg_I t n z k (gg_read a x t n v).2 u) (Bw (S := gS) (dC, dI) vwCl (ty0 cA cB) sz (w0 h0 ar ao cA cB g o (nI n) (nI k) v) (B0 h0 ar ao cA cB)) (va_A (w0 h0 ar ao cA cB g o (nI n) (nI k) v) sz)) 0 0 (va_A (w0 h0 ar ao cA cB g o (nI n) (nI k) v) sz) := by
  refine mm_i (cc := cX0_read) (maxL := 7) (by decide) rfl (Nat.le_of_ble_eq_true rfl) ?_
  intro p e s m below meth c Q A H ls hx hb hml hown hts hK hP hD hS hA hl fin
  have hown : s.vm.findClass RX0 = some m.cls := hown
  have hin : ∀ w ∈ wsX00, w ∈ wsX0_read := by decide +kernel
  have hl : lv_has ls 7 [(0, .ref h0), (1, .int a), (2, .int x)] := hl
  have hP : va_P (dC, dI) vwCl (w0 h0 ar ao cA cB g o (nI n) (nI k) v) H := hP
  have hD : va_D A (w0 h0 ar ao cA cB g o (nI n) (nI k) v) := hD
  refine lv_iload_n hx hb dX0_read_0 rfl (lv_at hl 1 rfl) ?_
  refine cc_si (av := [.int a]) (rest := []) ⟨hx, hb, hml, hown, hts⟩ (c_X0_isKind l a) (va_cwS 1 hts gX0_read_X0_isKind rfl rfl rfl (by decide +kernel) ⟨Nat.le_of_ble_eq_true rfl, Nat.le_of_ble_eq_true rfl⟩) rfl hl.1 rfl (Nat.le_of_ble_eq_true rfl) dX0_read_1 ⟨Nat.zero_le _, Nat.zero_le _⟩ (fun r hr => ?_)
  refine lv_if_eq (tgt := 19) hx hb dX0_read_4 (by decide) (fun c_1 => ?_) (fun c_1 => ?_)
  · have hf : gg_read a x t n v = (-2, v) := by unfold gg_read; rw [if_neg (fun q => hr.mpr q.1 c_1)]
    refine lv_bipush (v := (-2)) hx hb dX0_read_19 (by decide) ?_
    exact fin H _ ls _ (-2) (g, o, nI n, nI k, v) dX0_read_21 (by rw [hf]; exact ⟨rfl, hI, hO, rfl, rfl, rfl⟩) hP hD hS
  · have hok : gg_ok a := hr.mp c_1
    refine lv_iload_n hx hb dX0_read_7 rfl (lv_at hl 2 rfl) ?_
    refine lv_if_lt (tgt := 19) hx hb dX0_read_8 (by decide) (fun c_2 => ?_) (fun c_2 => ?_)
    · have hf : gg_read a x t n v = (-2, v) := by unfold gg_read; rw [if_neg (fun q => q.2.1 c_2)]
      refine lv_bipush (v := (-2)) hx hb dX0_read_19 (by decide) ?_
      exact fin H _ ls _ (-2) (g, o, nI n, nI k, v) dX0_read_21 (by rw [hf]; exact ⟨rfl, hI, hO, rfl, rfl, rfl⟩) hP hD hS
    · refine lv_iload_n hx hb dX0_read_11 rfl (lv_at hl 2 rfl) ?_
      refine lv_aload_n hx hb dX0_read_12 rfl (lv_at hl 0 rfl) ?_
      refine va_get (D := (dC, dI)) (ci := 0) (v := .int (nI n)) (C := RX0) (T := TX0) (N := 5) hx hb hts hin hown hK hP 0 rfl rfl 1 (by decide) (hts (.fieldLink RX0 13 "GroupedNumbers" "rowLength" "I") (by decide +kernel)) (fun _ h9 => h9) rfl dX0_read_13 ?_
      refine lv_icmp_le (tgt := 22) hx hb dX0_read_16 (by decide) (fun c_3 => ?_) (fun c_3 => ?_)
      · have hf0 : gg_read a x t n v = gg_rd a t x.toNatClampNeg (gg_cnt t x.toNatClampNeg (min (gg_most a) (n - x.toNatClampNeg))) v := by unfold gg_read; rw [if_pos ⟨hok, c_2, c_3⟩]
        obtain ⟨j, hj31, rfl⟩ := nI_of c_2
        have hj : j ≤ n := (nI_leI (by omega) (by omega)).mp c_3
        rw [nI_clamp hj31] at hf0
        have hmb := gg_most_bd a
        obtain ⟨C, hC⟩ : ∃ C, C = gg_cnt t j (min (gg_most a) (n - j)) := ⟨_, rfl⟩
        rw [← hC] at hf0
        have hC1 : C ≤ min (gg_most a) (n - j) := by rw [hC]; exact gg_cnt_le _ _ _
        refine lv_aload_n hx hb dX0_read_22 rfl (lv_at hl 0 rfl) ?_
        refine lv_iload_n hx hb dX0_read_23 rfl (lv_at hl 2 rfl) ?_
        refine lv_iload_n hx hb dX0_read_24 rfl (lv_at hl 1 rfl) ?_
        refine cc_si (av := [.int a]) (rest := [.int (nI j), .ref h0]) ⟨hx, hb, hml, hown, hts⟩ (c_X0_mostGroups l a) (va_cwS 1 hts gX0_read_X0_mostGroups rfl rfl rfl (by decide +kernel) ⟨Nat.le_of_ble_eq_true rfl, Nat.le_of_ble_eq_true rfl⟩) rfl hl.1 rfl (Nat.le_of_ble_eq_true rfl) dX0_read_25 ⟨Nat.zero_le _, Nat.zero_le _⟩ (fun r hr => ?_)
        subst hr
        refine cc_vi (av := [.int (nI j), .int (nI (gg_most a))]) (rest := []) ⟨hx, hb, hml, hown, hts⟩ (c_X0_countGroups l dC dI h0 ar ao cA cB g o n k v t j (gg_most a) hI hn hj (by omega)) (cwV 2 hts gX0_read_X0_countGroups rfl rfl rfl (by decide +kernel) ⟨Nat.le_of_ble_eq_true rfl, Nat.le_of_ble_eq_true rfl⟩) hP hK (ci := 0) rfl rfl rfl hl.1 rfl (Nat.le_of_ble_eq_true rfl) dX0_read_28 ⟨Nat.zero_le _, Nat.zero_le _⟩ (fun r hr => ?_)
        rw [← hC] at hr
        subst hr
        refine lv_istore_n (lv' := [(3, .int (nI C)), (0, .ref h0), (1, .int a), (2, .int (nI j))]) hx hb dX0_read_31 rfl hl (by decide) rfl (fun ls hl => ?_)
        refine lv_iload_n hx hb dX0_read_32 rfl (lv_at hl 0 rfl) ?_
        refine lv_if_ne (tgt := 38) hx hb dX0_read_33 (by decide) (fun c_4 => ?_) (fun c_4 => ?_)
        · have hC0 : ¬ C = 0 := fun q => c_4 (by rw [q]; rfl)
          have hlast : t (j + (C - 1)) < 128 := gg_cnt_at (a := j) (k := min (gg_most a) (n - j)) (by rw [← hC]; omega)
          refine lv_aload_n hx hb dX0_read_38 rfl (lv_at hl 1 rfl) ?_
          refine va_get (D := (dC, dI)) (ci := 0) (v := .ref ar) (C := RX0) (T := TX0) (N := 5) hx hb hts hin hown hK hP 0 rfl rfl 0 (by decide) (hts (.fieldLink RX0 9 "GroupedNumbers" "row" "[I") (by decide +kernel)) (fun _ h9 => h9) rfl dX0_read_39 ?_
          refine lv_iload_n hx hb dX0_read_42 rfl (lv_at hl 3 rfl) ?_
          refine lv_iload_n hx hb dX0_read_43 rfl (lv_at hl 0 rfl) ?_
          refine lv_iadd hx hb dX0_read_44 ?_
          refine lv_topi (fun z_5 ez_5 => ?_)
          have ez_5 : z_5 = nI (j + C) := by rw [ez_5]; exact nI_add j C
          subst ez_5
          refine lv_iconst (v := nI 1) hx hb dX0_read_45 (by decide) ?_
          refine lv_isub hx hb dX0_read_46 ?_
          refine lv_topi (fun z_6 ez_6 => ?_)
          have ez_6 : z_6 = nI (j + (C - 1)) := by rw [ez_6]; rw [show j + (C - 1) = j + C - 1 by omega]; exact pk_sub (b := 1) (by omega)
          subst ez_6
          refine va_iald hx hb hK hP 1 0 rfl rfl (vp_in_nI (show j + (C - 1) < 1000 by omega) (by decide)) dX0_read_47 ?_
          refine lv_topi (fun z_7 ez_7 => ?_)
          have ez_7 : z_7 = nI (t (j + (C - 1))) := by rw [ez_7]; rw [nI_clamp (by omega)]; exact (hI (j + (C - 1)) (by omega)).2
          subst ez_7
          refine lv_istore (lv' := [(4, .int (nI (t (j + (C - 1))))), (3, .int (nI C)), (0, .ref h0), (1, .int a), (2, .int (nI j))]) hx hb dX0_read_48 hl (by decide) rfl (fun ls hl => ?_)
          have k69 : ¬ (C = gg_most a ∧ gg_bad a (t (j + (C - 1)))) → W p l e R2 s m ([.ref h0, .int a, .int (nI j)] : List Value).toArray below meth c H [] 0 0 Q (F0 m 69 ls []) := by
            intro hnb
            have hf : gg_read a (nI j) t n v = (nI C, lN (gg_val a t j C)) := by rw [hf0]; unfold gg_rd; rw [if_neg hC0, if_neg hnb]
            refine lv_aload_n hx hb dX0_read_69 rfl (lv_at hl 2 rfl) ?_
            refine lv_iload_n hx hb dX0_read_70 rfl (lv_at hl 4 rfl) ?_
            refine lv_iload_n hx hb dX0_read_71 rfl (lv_at hl 1 rfl) ?_
            refine cc_vl (av := [.int (nI j), .int (nI C)]) (rest := []) ⟨hx, hb, hml, hown, hts⟩ (c_X0_joinGroups l dC dI h0 ar ao cA cB g o n k v t j C hI hn (by omega) (by omega)) (cwV 2 hts gX0_read_X0_joinGroups rfl rfl rfl (by decide +kernel) ⟨Nat.le_of_ble_eq_true rfl, Nat.le_of_ble_eq_true rfl⟩) hP hK (ci := 0) rfl rfl rfl hl.1 rfl (Nat.le_of_ble_eq_true rfl) dX0_read_72 ⟨Nat.zero_le _, Nat.zero_le _⟩ (fun r hr => ?_)
            subst hr
            refine lv_lstore (lv' := [(5, .long (lN (gg_join t j C))), (4, .int (nI (t (j + (C - 1))))), (3, .int (nI C)), (0, .ref h0), (1, .int a), (2, .int (nI j))]) hx hb dX0_read_75 hl (by decide) rfl (fun ls hl => ?_)
            refine lv_aload_n hx hb dX0_read_77 rfl (lv_at hl 3 rfl) ?_
            refine lv_iload_n hx hb dX0_read_78 rfl (lv_at hl 4 rfl) ?_
            refine lv_if_ne (tgt := 87) hx hb dX0_read_79 (by decide) (fun c_8 => ?_) (fun c_8 => ?_)
            · refine lv_lload hx hb dX0_read_87 (lv_at hl 0 rfl) ?_
              refine lv_iload hx hb dX0_read_89 (lv_at hl 1 rfl) ?_
              refine lv_iload_n hx hb dX0_read_91 rfl (lv_at hl 2 rfl) ?_
              refine cc_sl (av := [.long (lN (gg_join t j C)), .int (nI (t (j + (C - 1)))), .int (nI C)]) (rest := [.ref h0]) ⟨hx, hb, hml, hown, hts⟩ (c_X0_extendSign l (gg_join t j C) (t (j + (C - 1))) C (gg_join_lt t j C) hlast (by omega)) (va_cwS 3 hts gX0_read_X0_extendSign rfl rfl rfl (by decide +kernel) ⟨Nat.le_of_ble_eq_true rfl, Nat.le_of_ble_eq_true rfl⟩) rfl hl.1 rfl (Nat.le_of_ble_eq_true rfl) dX0_read_92 ⟨Nat.zero_le _, Nat.zero_le _⟩ (fun r hr => ?_)
              have hv : r = lN (gg_val a t j C) := by
                rw [hr]
                unfold gg_val
                by_cases q : 64 ≤ t (j + (C - 1))
                · rw [if_pos q, if_pos ⟨c_8, q⟩]
                · rw [if_neg q, if_neg (fun h => q h.2)]
              refine va_put (D := (dC, dI)) (ci := 0) (v := .long r) (ty := .long) (C := RX0) (T := TX0) (N := 5) hx hb hts hin tyX0 tyX0_ok nmX0 hown hK hP hD hS 0 rfl rfl 4 (by decide) (hts (.fieldLink RX0 23 "GroupedNumbers" "lastRead" "J") (by decide +kernel)) (fun _ h9 => h9) rfl (by decide +kernel) rfl rfl (Nat.le_of_ble_eq_true rfl) dX0_read_95 (fun H locs hP hD hS => ?_)
              have hP : va_P (dC, dI) vwCl (w0 h0 ar ao cA cB g o (nI n) (nI k) r) H := hP
              have hD : va_D A (w0 h0 ar ao cA cB g o (nI n) (nI k) r) := hD
              refine lv_iload_n hx hb dX0_read_98 rfl (lv_at hl 2 rfl) ?_
              exact fin H _ ls _ (nI C) (g, o, nI n, nI k, r) dX0_read_99 (by rw [hf]; exact ⟨rfl, hI, hO, rfl, rfl, hv⟩) hP hD hS
            · have hv : lN (gg_join t j C) = lN (gg_val a t j C) := by unfold gg_val; rw [if_neg (fun q => q.1 c_8)]; rfl
              refine lv_lload hx hb dX0_read_82 (lv_at hl 0 rfl) ?_
              refine lv_goto (tgt := 95) hx hb dX0_read_84 (by decide) ?_
              refine va_put (D := (dC, dI)) (ci := 0) (v := .long (lN (gg_join t j C))) (ty := .long) (C := RX0) (T := TX0) (N := 5) hx hb hts hin tyX0 tyX0_ok nmX0 hown hK hP hD hS 0 rfl rfl 4 (by decide) (hts (.fieldLink RX0 23 "GroupedNumbers" "lastRead" "J") (by decide +kernel)) (fun _ h9 => h9) rfl (by decide +kernel) rfl rfl (Nat.le_of_ble_eq_true rfl) dX0_read_95 (fun H locs hP hD hS => ?_)
              have hP : va_P (dC, dI) vwCl (w0 h0 ar ao cA cB g o (nI n) (nI k) (lN (gg_join t j C))) H := hP
              have hD : va_D A (w0 h0 ar ao cA cB g o (nI n) (nI k) (lN (gg_join t j C))) := hD
              refine lv_iload_n hx hb dX0_read_98 rfl (lv_at hl 2 rfl) ?_
              exact fin H _ ls _ (nI C) (g, o, nI n, nI k, lN (gg_join t j C)) dX0_read_99 (by rw [hf]; exact ⟨rfl, hI, hO, rfl, rfl, hv⟩) hP hD hS
          refine lv_iload_n hx hb dX0_read_50 rfl (lv_at hl 1 rfl) ?_
          refine lv_iload_n hx hb dX0_read_51 rfl (lv_at hl 3 rfl) ?_
          refine cc_si (av := [.int a]) (rest := [.int (nI C)]) ⟨hx, hb, hml, hown, hts⟩ (c_X0_mostGroups l a) (va_cwS 1 hts gX0_read_X0_mostGroups rfl rfl rfl (by decide +kernel) ⟨Nat.le_of_ble_eq_true rfl, Nat.le_of_ble_eq_true rfl⟩) rfl hl.1 rfl (Nat.le_of_ble_eq_true rfl) dX0_read_52 ⟨Nat.zero_le _, Nat.zero_le _⟩ (fun r hr => ?_)
          subst hr
          refine lv_icmp_ne (tgt := 69) hx hb dX0_read_55 (by decide) (fun c_9 => ?_) (fun c_9 => ?_)
          · exact k69 (fun q => c_9 (by rw [q.1]))
          · have hCm : C = gg_most a := (nI_eq (by omega) (by omega)).mp c_9
            refine lv_iload_n hx hb dX0_read_58 rfl (lv_at hl 3 rfl) ?_
            refine lv_iload hx hb dX0_read_59 (lv_at hl 0 rfl) ?_
            refine cc_si (av := [.int a, .int (nI (t (j + (C - 1))))]) (rest := []) ⟨hx, hb, hml, hown, hts⟩ (c_X0_mayEndLongest l a (t (j + (C - 1))) hok hlast) (va_cwS 2 hts gX0_read_X0_mayEndLongest rfl rfl rfl (by decide +kernel) ⟨Nat.le_of_ble_eq_true rfl, Nat.le_of_ble_eq_true rfl⟩) rfl hl.1 rfl (Nat.le_of_ble_eq_true rfl) dX0_read_61 ⟨Nat.zero_le _, Nat.zero_le _⟩ (fun r hr => ?_)
            refine lv_if_ne (tgt := 69) hx hb dX0_read_64 (by decide) (fun c_10 => ?_) (fun c_10 => ?_)
            · exact k69 (fun q => hr.mp c_10 q.2)
            · have hf : gg_read a (nI j) t n v = (-1, v) := by rw [hf0]; unfold gg_rd; rw [if_neg hC0, if_pos ⟨hCm, Decidable.byContradiction (fun q => hr.mpr q c_10)⟩]
              refine lv_iconst (v := (-1)) hx hb dX0_read_67 (by decide) ?_
              exact fin H _ ls _ (-1) (g, o, nI n, nI k, v) dX0_read_68 (by rw [hf]; exact ⟨rfl, hI, hO, rfl, rfl, rfl⟩) hP hD hS
        · have hf : gg_read a (nI j) t n v = (-1, v) := by rw [hf0]; unfold gg_rd; rw [if_pos ((nI_eq (b := 0) (by omega) (by decide)).mp c_4)]
          refine lv_iconst (v := (-1)) hx hb dX0_read_36 (by decide) ?_
          exact fin H _ ls _ (-1) (g, o, nI n, nI k, v) dX0_read_37 (by rw [hf]; exact ⟨rfl, hI, hO, rfl, rfl, rfl⟩) hP hD hS
      · have hf : gg_read a x t n v = (-2, v) := by unfold gg_read; rw [if_neg (fun q => c_3 q.2.2)]
        refine lv_bipush (v := (-2)) hx hb dX0_read_19 (by decide) ?_
        exact fin H _ ls _ (-2) (g, o, nI n, nI k, v) dX0_read_21 (by rw [hf]; exact ⟨rfl, hI, hO, rfl, rfl, rfl⟩) hP hD hS

set_option maxHeartbeats 4000000 in
set_option maxRecDepth 100000 in
theorem c_X0_write (l : Launch) (dC : Nat → ClassId) (dI : Nat → Nat → Nat) (h0 ar ao : Nat) (cA cB : ClassId) (sz : Nat) (g o : Nat → Int32) (n k : Nat) (v : Int64) (t z : Nat → Nat) (a : Int32) (x : Int64) (hI : gg_I t n g) (hO : gg_I z k o) (hn : n ≤ 1000) (hk : k ≤ 1000) : Met l yX0_write wsX0_write R2 (va_Pc [.ref h0, .int a, .long x] (Pw (dC, dI) vwCl (ty0 cA cB) sz (w0 h0 ar ao cA cB g o (nI n) (nI k) v))) (va_Qi (fun r u => r = (gg_write a x k z).1 ∧ gs_is gg_I t n (gg_write a x k z).2.2 (gg_write a x k z).2.1 v u) (Bw (S := gS) (dC, dI) vwCl (ty0 cA cB) sz (w0 h0 ar ao cA cB g o (nI n) (nI k) v) (B0 h0 ar ao cA cB)) (va_A (w0 h0 ar ao cA cB g o (nI n) (nI k) v) sz)) 0 0 (va_A (w0 h0 ar ao cA cB g o (nI n) (nI k) v) sz) := by
  refine mm_i (cc := cX0_write) (maxL := 5) (by decide) rfl (Nat.le_of_ble_eq_true rfl) ?_
  intro p e s m below meth c Q A H ls hx hb hml hown hts hK hP hD hS hA hl fin
  have hown : s.vm.findClass RX0 = some m.cls := hown
  have hin : ∀ w ∈ wsX00, w ∈ wsX0_write := by decide +kernel
  have hl : lv_has ls 5 [(0, .ref h0), (1, .int a), (2, .long x)] := hl
  have hP : va_P (dC, dI) vwCl (w0 h0 ar ao cA cB g o (nI n) (nI k) v) H := hP
  have hD : va_D A (w0 h0 ar ao cA cB g o (nI n) (nI k) v) := hD
  refine lv_iload_n hx hb dX0_write_0 rfl (lv_at hl 1 rfl) ?_
  refine cc_si (av := [.int a]) (rest := []) ⟨hx, hb, hml, hown, hts⟩ (c_X0_isKind l a) (va_cwS 1 hts gX0_write_X0_isKind rfl rfl rfl (by decide +kernel) ⟨Nat.le_of_ble_eq_true rfl, Nat.le_of_ble_eq_true rfl⟩) rfl hl.1 rfl (Nat.le_of_ble_eq_true rfl) dX0_write_1 ⟨Nat.zero_le _, Nat.zero_le _⟩ (fun r hr => ?_)
  have hk1 := hr
  refine lv_if_ne (tgt := 10) hx hb dX0_write_4 (by decide) (fun c_1 => ?_) (fun c_1 => ?_)
  · have hok : gg_ok a := hk1.mp c_1
    refine lv_iload_n hx hb dX0_write_10 rfl (lv_at hl 1 rfl) ?_
    refine lv_lload_n hx hb dX0_write_11 rfl (lv_at hl 2 rfl) ?_
    refine cc_si (av := [.int a, .long x]) (rest := []) ⟨hx, hb, hml, hown, hts⟩ (c_X0_isNumberOf l a x) (va_cwS 2 hts gX0_write_X0_isNumberOf rfl rfl rfl (by decide +kernel) ⟨Nat.le_of_ble_eq_true rfl, Nat.le_of_ble_eq_true rfl⟩) rfl hl.1 rfl (Nat.le_of_ble_eq_true rfl) dX0_write_12 ⟨Nat.zero_le _, Nat.zero_le _⟩ (fun r hr => ?_)
    have hk2 := hr
    refine lv_if_ne (tgt := 20) hx hb dX0_write_15 (by decide) (fun c_2 => ?_) (fun c_2 => ?_)
    · have hnum : gg_num a x := hk2.mp c_2
      have hnb := gg_need_bd a x
      have hmb := gg_most_bd a
      refine lv_iload_n hx hb dX0_write_20 rfl (lv_at hl 1 rfl) ?_
      refine lv_lload_n hx hb dX0_write_21 rfl (lv_at hl 2 rfl) ?_
      refine cc_si (av := [.int a, .long x]) (rest := []) ⟨hx, hb, hml, hown, hts⟩ (c_X0_groupsNeeded l a x) (va_cwS 2 hts gX0_write_X0_groupsNeeded rfl rfl rfl (by decide +kernel) ⟨Nat.le_of_ble_eq_true rfl, Nat.le_of_ble_eq_true rfl⟩) rfl hl.1 rfl (Nat.le_of_ble_eq_true rfl) dX0_write_22 ⟨Nat.zero_le _, Nat.zero_le _⟩ (fun r hr => ?_)
      subst hr
      refine lv_istore (lv' := [(4, .int (nI (gg_need a x))), (0, .ref h0), (1, .int a), (2, .long x)]) hx hb dX0_write_25 hl (by decide) rfl (fun ls hl => ?_)
      refine lv_iload hx hb dX0_write_27 (lv_at hl 0 rfl) ?_
      refine lv_sipush (v := nI 1000) hx hb dX0_write_29 (by decide) ?_
      refine lv_aload_n hx hb dX0_write_32 rfl (lv_at hl 1 rfl) ?_
      refine va_get (D := (dC, dI)) (ci := 0) (v := .int (nI k)) (C := RX0) (T := TX0) (N := 5) hx hb hts hin hown hK hP 0 rfl rfl 3 (by decide) (hts (.fieldLink RX0 20 "GroupedNumbers" "outputLength" "I") (by decide +kernel)) (fun _ h9 => h9) rfl dX0_write_33 ?_
      refine lv_isub hx hb dX0_write_36 ?_
      refine lv_topi (fun z_3 ez_3 => ?_)
      have ez_3 : z_3 = nI (1000 - k) := by rw [ez_3]; exact pk_sub (by omega)
      subst ez_3
      refine lv_icmp_le (tgt := 43) hx hb dX0_write_37 (by decide) (fun c_4 => ?_) (fun c_4 => ?_)
      · have hroom : k + gg_need a x ≤ 1000 := by
          have q := (nI_leI (by omega) (by omega)).mp c_4
          omega
        have hf : gg_write a x k z = (nI (gg_need a x), k + gg_need a x, sb_cat z k (gg_by x (gg_need a x))) := by unfold gg_write; rw [if_pos hok, if_pos hnum, if_pos hroom]
        refine lv_aload_n hx hb dX0_write_43 rfl (lv_at hl 1 rfl) ?_
        refine lv_lload_n hx hb dX0_write_44 rfl (lv_at hl 3 rfl) ?_
        refine lv_iload hx hb dX0_write_45 (lv_at hl 0 rfl) ?_
        refine cc_mv (av := [.long x, .int (nI (gg_need a x))]) (rest := []) [0, 1, 2] [] ⟨hx, hb, hml, hown, hts⟩ (c_X0_appendToOutput l dC dI h0 ar ao cA cB H.size g o n k v z x (gg_need a x) hO hroom hnb.1 (by omega)) (cwV 2 hts gX0_write_X0_appendToOutput rfl rfl rfl (by decide +kernel) ⟨Nat.le_of_ble_eq_true rfl, Nat.le_of_ble_eq_true rfl⟩) hP hD hS hA hK (wr := []) rfl rfl (by decide) (by decide) (by decide) (ci := 0) rfl rfl rfl hl.1 rfl (Nat.le_of_ble_eq_true rfl) dX0_write_47 ⟨Nat.zero_le _, Nat.zero_le _⟩ (fun o1 H locs hO1 hP hD hS => ?_)
        have hP : va_P (dC, dI) vwCl (w0 h0 ar ao cA cB g o1 (nI n) (nI (k + gg_need a x)) v) H := hP
        have hD : va_D A (w0 h0 ar ao cA cB g o1 (nI n) (nI (k + gg_need a x)) v) := hD
        refine lv_iload hx hb dX0_write_50 (lv_at hl 0 rfl) ?_
        exact fin H _ ls _ (nI (gg_need a x)) (g, o1, nI n, nI (k + gg_need a x), v) dX0_write_52 (by rw [hf]; exact ⟨rfl, hI, hO1, rfl, rfl, rfl⟩) hP hD hS
      · have hroom : ¬ k + gg_need a x ≤ 1000 := by
          have q : ¬ gg_need a x ≤ 1000 - k := fun q => c_4 ((nI_leI (by omega) (by omega)).mpr q)
          omega
        have hf : gg_write a x k z = (-2, k, z) := by unfold gg_write; rw [if_pos hok, if_pos hnum, if_neg hroom]
        refine lv_bipush (v := (-2)) hx hb dX0_write_40 (by decide) ?_
        exact fin H _ ls _ (-2) (g, o, nI n, nI k, v) dX0_write_42 (by rw [hf]; exact ⟨rfl, hI, hO, rfl, rfl, rfl⟩) hP hD hS
    · have hf : gg_write a x k z = (-1, k, z) := by unfold gg_write; rw [if_pos hok, if_neg (fun q => hk2.mpr q c_2)]
      refine lv_iconst (v := (-1)) hx hb dX0_write_18 (by decide) ?_
      exact fin H _ ls _ (-1) (g, o, nI n, nI k, v) dX0_write_19 (by rw [hf]; exact ⟨rfl, hI, hO, rfl, rfl, rfl⟩) hP hD hS
  · have hf : gg_write a x k z = (-2, k, z) := by unfold gg_write; rw [if_neg (fun q => hk1.mpr q c_1)]
    refine lv_bipush (v := (-2)) hx hb dX0_write_7 (by decide) ?_
    exact fin H _ ls _ (-2) (g, o, nI n, nI k, v) dX0_write_9 (by rw [hf]; exact ⟨rfl, hI, hO, rfl, rfl, rfl⟩) hP hD hS
end
section
/-! the methods of the reference -/
theorem gg_ok_iff {a : Int32} (h1 : ¬ a < 0) (h2 : ¬ 2 < a) : gg_ok a := by
  obtain ⟨j, hj, rfl⟩ := nI_of2 (M := 2) (n := 2) (by decide) h1 (Int32.not_lt.mp h2)
  rcases (show j = 0 ∨ j = 1 ∨ j = 2 by omega) with rfl | rfl | rfl
  · exact Or.inl rfl
  · exact Or.inr (Or.inl rfl)
  · exact Or.inr (Or.inr rfl)
theorem gg_ok_lo {a : Int32} (h : gg_ok a) : ¬ a < 0 := by rcases h with rfl | rfl | rfl <;> decide
theorem gg_ok_hi {a : Int32} (h : gg_ok a) : ¬ 2 < a := by rcases h with rfl | rfl | rfl <;> decide

set_option maxHeartbeats 4000000 in
set_option maxRecDepth 100000 in
theorem c_X1_word (l : Launch) (dC : Nat → ClassId) (dI : Nat → Nat → Nat) (h0 ar ao : Nat) (cA cB : ClassId) (sz : Nat) (g o : Nat → Int32) (n k : Nat) (v : Int64) (t : Nat → Nat) (y : Int32) (hI : sb_Lat t n g) (hn : n + 4 ≤ 1000) : Met l yX1_word wsX1_word R0 (va_Pc [.ref h0, .int y] (Pw (dC, dI) vwCl (ty1 cA cB) sz (w1 h0 ar ao cA cB g o (nI n) (nI k) v))) (va_Qv (fun u => sb_Lat (sb_cat t n (gg_wb y)) (n + 4) u) (Bw (S := Nat → Int32) (dC, dI) vwCl (ty1 cA cB) sz (w1 h0 ar ao cA cB g o (nI n) (nI k) v) (fun u => w1 h0 ar ao cA cB u o (nI (n + 4)) (nI k) v)) (va_A (w1 h0 ar ao cA cB g o (nI n) (nI k) v) sz)) 0 0 (va_A (w1 h0 ar ao cA cB g o (nI n) (nI k) v) sz) := by
  refine mm_v (cc := cX1_word) (maxL := 3) (by decide) rfl (Nat.le_of_ble_eq_true rfl) ?_
  intro p e s m below meth c Q A H ls hx hb hml hown hts hK hP hD hS hA hl fin
  have hown : s.vm.findClass RX1 = some m.cls := hown
  have hin : ∀ w ∈ wsX10, w ∈ wsX1_word := by decide +kernel
  have hl : lv_has ls 3 [(0, .ref h0), (1, .int y)] := hl
  have hP : va_P (dC, dI) vwCl (w1 h0 ar ao cA cB g o (nI n) (nI k) v) H := hP
  have hD : va_D A (w1 h0 ar ao cA cB g o (nI n) (nI k) v) := hD
  refine lv_iconst (v := nI 0) hx hb dX1_word_0 (by decide) ?_
  refine lv_istore_n (lv' := [(2, .int (nI 0)), (0, .ref h0), (1, .int y)]) hx hb dX1_word_1 rfl hl (by decide) rfl (fun ls hl => ?_)
  have loop : ∀ (f i : Nat) (gi : Nat → Int32) (H : Heap) (locs : List Loc) (ls : Array Slot), i ≤ 4 → 5 ≤ i + f → sb_Lat (sb_cat t n (gg_wb y)) (n + i) gi → va_P (dC, dI) vwCl (w1 h0 ar ao cA cB gi o (nI (n + i)) (nI k) v) H → va_D A (w1 h0 ar ao cA cB gi o (nI (n + i)) (nI k) v) → va_S A s.heap H locs → lv_has ls 3 [(2, .int (nI i)), (0, .ref h0), (1, .int y)] → W p l e R0 s m ([.ref h0, .int y] : List Value).toArray below meth c H locs 0 0 Q (F0 m 2 ls []) := by
    intro f
    induction f with
    | zero => intro i gi H locs ls h1 h2
              exact absurd h2 (by omega)
    | succ f ih =>
      intro i gi H locs ls hi hf hI hP hD hS hl
      refine lv_iload_n hx hb dX1_word_2 rfl (lv_at hl 0 rfl) ?_
      refine lv_iconst (v := nI 4) hx hb dX1_word_3 (by decide) ?_
      refine lv_icmp_ge (tgt := 42) hx hb dX1_word_4 (by decide) (fun c_1 => ?_) (fun c_1 => ?_)
      · have dc_1 : i = 4 := by
          have q := (nI_leI (by decide) (by omega)).mp c_1
          omega
        subst dc_1
        exact fin H locs ls _ gi dX1_word_42 hI hP hD hS
      · have dc_1 : i < 4 := Nat.lt_of_not_le (fun q => c_1 ((nI_leI (by decide) (by omega)).mpr q))
        refine lv_aload_n hx hb dX1_word_7 rfl (lv_at hl 1 rfl) ?_
        refine va_get (D := (dC, dI)) (ci := 1) (v := .ref ar) (C := RX1) (T := TX1) (N := 5) hx hb hts hin hown hK hP 0 rfl rfl 0 (by decide) (hts (.fieldLink RX1 9 "GroupedNumbersModel" "row" "[B") (by decide +kernel)) (fun _ h9 => h9) rfl dX1_word_8 ?_
        refine lv_aload_n hx hb dX1_word_11 rfl (lv_at hl 1 rfl) ?_
        refine va_get (D := (dC, dI)) (ci := 1) (v := .int (nI (n + i))) (C := RX1) (T := TX1) (N := 5) hx hb hts hin hown hK hP 0 rfl rfl 2 (by decide) (hts (.fieldLink RX1 16 "GroupedNumbersModel" "rows" "I") (by decide +kernel)) (fun _ h9 => h9) rfl dX1_word_12 ?_
        refine lv_iload_n hx hb dX1_word_15 rfl (lv_at hl 2 rfl) ?_
        refine lv_bipush (v := 24) hx hb dX1_word_16 (by decide) ?_
        refine lv_bipush (v := 8) hx hb dX1_word_18 (by decide) ?_
        refine lv_iload_n hx hb dX1_word_20 rfl (lv_at hl 0 rfl) ?_
        refine lv_imul hx hb dX1_word_21 ?_
        refine lv_isub hx hb dX1_word_22 ?_
        refine lv_ishr hx hb dX1_word_23 ?_
        refine lv_i2b hx hb dX1_word_24 rfl ?_
        refine lv_topi (fun z_2 ez_2 => ?_)
        have ez_2 : z_2 = sb_b (gg_wb y i) := by rw [ez_2]; exact gg_wb_B y dc_1
        subst ez_2
        have hnar : vp_nar .byte (sb_b (gg_wb y i)) = sb_b (gg_wb y i) := pk_vb _
        refine va_bast hx hb hK hP hD hS 1 0 rfl rfl (vp_in_nI (show n + i < 1000 by omega) (by decide)) dX1_word_25 (fun H locs hP hD hS => ?_)
        rw [nI_clamp (show n + i < 2 ^ 31 by omega), hnar] at hP hD
        have hP : va_P (dC, dI) vwCl (w1 h0 ar ao cA cB (upd gi (n + i) (sb_b (gg_wb y i))) o (nI (n + i)) (nI k) v) H := hP
        have hD : va_D A (w1 h0 ar ao cA cB (upd gi (n + i) (sb_b (gg_wb y i))) o (nI (n + i)) (nI k) v) := hD
        refine lv_aload_n hx hb dX1_word_26 rfl (lv_at hl 1 rfl) ?_
        refine lv_dup hx hb dX1_word_27 rfl ?_
        refine va_get (D := (dC, dI)) (ci := 1) (v := .int (nI (n + i))) (C := RX1) (T := TX1) (N := 5) hx hb hts hin hown hK hP 0 rfl rfl 2 (by decide) (hts (.fieldLink RX1 16 "GroupedNumbersModel" "rows" "I") (by decide +kernel)) (fun _ h9 => h9) rfl dX1_word_28 ?_
        refine lv_iconst (v := nI 1) hx hb dX1_word_31 (by decide) ?_
        refine lv_iadd hx hb dX1_word_32 ?_
        refine lv_topi (fun z_3 ez_3 => ?_)
        have ez_3 : z_3 = nI (n + (i + 1)) := by rw [ez_3]; exact nI_add (n + i) 1
        subst ez_3
        refine va_put (D := (dC, dI)) (ci := 1) (v := .int (nI (n + (i + 1)))) (ty := .int) (C := RX1) (T := TX1) (N := 5) hx hb hts hin tyX1 tyX1_ok nmX1 hown hK hP hD hS 0 rfl rfl 2 (by decide) (hts (.fieldLink RX1 16 "GroupedNumbersModel" "rows" "I") (by decide +kernel)) (fun _ h9 => h9) rfl (by decide +kernel) rfl rfl (Nat.le_of_ble_eq_true rfl) dX1_word_33 (fun H locs hP hD hS => ?_)
        have hP : va_P (dC, dI) vwCl (w1 h0 ar ao cA cB (upd gi (n + i) (sb_b (gg_wb y i))) o (nI (n + (i + 1))) (nI k) v) H := hP
        have hD : va_D A (w1 h0 ar ao cA cB (upd gi (n + i) (sb_b (gg_wb y i))) o (nI (n + (i + 1))) (nI k) v) := hD
        refine lv_iinc (v := nI (i + 1)) (lv' := [(2, .int (nI (i + 1))), (0, .ref h0), (1, .int y)]) hx hb dX1_word_36 hl (k := 0) rfl (show nI i + 1 = nI (i + 1) from nI_1 i) (by decide) rfl (fun ls hl => ?_)
        refine lv_goto (tgt := 2) hx hb dX1_word_39 (by decide) ?_
        exact ih (i + 1) _ H locs ls (by omega) (by omega) (gg_B_push (n := n + i) hI (by rw [sb_cat_hi]; exact gg_wb_lt y i) (by rw [sb_cat_hi])) hP hD hS (lv_sub hl [0, 1, 2] rfl)
  exact loop 5 0 g H [] ls (by omega) (by omega) (gg_B_cat hI) hP hD hS hl

set_option maxHeartbeats 4000000 in
set_option maxRecDepth 100000 in
theorem c_X1_feed (l : Launch) (dC : Nat → ClassId) (dI : Nat → Nat → Nat) (h0 ar ao : Nat) (cA cB : ClassId) (sz : Nat) (g o : Nat → Int32) (n k : Nat) (v : Int64) (t z : Nat → Nat) (x1 x2 x3 x4 x5 : Int32) (hI : sb_Lat t n g) (hO : sb_Lat z k o) (hn : n ≤ 1000) (hk : k ≤ 1000) : Met l yX1_feed wsX1_feed R1 (va_Pc [.ref h0, .int x1, .int x2, .int x3, .int x4, .int x5] (Pw (dC, dI) vwCl (ty1 cA cB) sz (w1 h0 ar ao cA cB g o (nI n) (nI k) v))) (va_Qi (fun r u => r = (gg_feed t n x1 x2 x3 x4 x5).1 ∧ gs_is sb_Lat (gg_feed t n x1 x2 x3 x4 x5).2.2 (gg_feed t n x1 x2 x3 x4 x5).2.1 z k v u) (Bw (S := gS) (dC, dI) vwCl (ty1 cA cB) sz (w1 h0 ar ao cA cB g o (nI n) (nI k) v) (B1 h0 ar ao cA cB)) (va_A (w1 h0 ar ao cA cB g o (nI n) (nI k) v) sz)) 0 0 (va_A (w1 h0 ar ao cA cB g o (nI n) (nI k) v) sz) := by
  refine mm_i (cc := cX1_feed) (maxL := 6) (by decide) rfl (Nat.le_of_ble_eq_true rfl) ?_
  intro p e s m below meth c Q A H ls hx hb hml hown hts hK hP hD hS hA hl fin
  have hown : s.vm.findClass RX1 = some m.cls := hown
  have hin : ∀ w ∈ wsX10, w ∈ wsX1_feed := by decide +kernel
  have hl : lv_has ls 6 [(0, .ref h0), (1, .int x1), (2, .int x2), (3, .int x3), (4, .int x4), (5, .int x5)] := hl
  have hP : va_P (dC, dI) vwCl (w1 h0 ar ao cA cB g o (nI n) (nI k) v) H := hP
  have hD : va_D A (w1 h0 ar ao cA cB g o (nI n) (nI k) v) := hD
  refine lv_aload_n hx hb dX1_feed_0 rfl (lv_at hl 0 rfl) ?_
  refine va_get (D := (dC, dI)) (ci := 1) (v := .int (nI n)) (C := RX1) (T := TX1) (N := 5) hx hb hts hin hown hK hP 0 rfl rfl 2 (by decide) (hts (.fieldLink RX1 16 "GroupedNumbersModel" "rows" "I") (by decide +kernel)) (fun _ h9 => h9) rfl dX1_feed_1 ?_
  refine lv_bipush (v := nI 20) hx hb dX1_feed_4 (by decide) ?_
  refine lv_iadd hx hb dX1_feed_6 ?_
  refine lv_topi (fun z_1 ez_1 => ?_)
  have ez_1 : z_1 = nI (n + 20) := by rw [ez_1]; exact nI_add n 20
  subst ez_1
  refine lv_sipush (v := nI 1000) hx hb dX1_feed_7 (by decide) ?_
  refine lv_icmp_le (tgt := 15) hx hb dX1_feed_10 (by decide) (fun c_2 => ?_) (fun c_2 => ?_)
  · have hn20 : n + 20 ≤ 1000 := (nI_leI (by omega) (by decide)).mp c_2
    refine lv_aload_n hx hb dX1_feed_15 rfl (lv_at hl 0 rfl) ?_
    refine lv_iload_n hx hb dX1_feed_16 rfl (lv_at hl 1 rfl) ?_
    refine cc_mv (av := [.int x1]) (rest := []) [0, 1, 2] [] ⟨hx, hb, hml, hown, hts⟩ (c_X1_word l dC dI h0 ar ao cA cB H.size g o (n) k v (t) x1 hI (by omega)) (cwV 1 hts gX1_feed_X1_word rfl rfl rfl (by decide +kernel) ⟨Nat.le_of_ble_eq_true rfl, Nat.le_of_ble_eq_true rfl⟩) hP hD hS hA hK (wr := []) rfl rfl (by decide) (by decide) (by decide) (ci := 1) rfl rfl rfl hl.1 rfl (Nat.le_of_ble_eq_true rfl) dX1_feed_17 ⟨Nat.zero_le _, Nat.zero_le _⟩ (fun g1 H locs hI1 hP hD hS => ?_)
    have hP : va_P (dC, dI) vwCl (w1 h0 ar ao cA cB g1 o (nI (n + 4)) (nI k) v) H := hP
    have hD : va_D A (w1 h0 ar ao cA cB g1 o (nI (n + 4)) (nI k) v) := hD
    refine lv_aload_n hx hb dX1_feed_20 rfl (lv_at hl 0 rfl) ?_
    refine lv_iload_n hx hb dX1_feed_21 rfl (lv_at hl 2 rfl) ?_
    refine cc_mv (av := [.int x2]) (rest := []) [0, 1, 2] [] ⟨hx, hb, hml, hown, hts⟩ (c_X1_word l dC dI h0 ar ao cA cB H.size g1 o (n + 4) k v (sb_cat (t) (n) (gg_wb x1)) x2 hI1 (by omega)) (cwV 1 hts gX1_feed_X1_word rfl rfl rfl (by decide +kernel) ⟨Nat.le_of_ble_eq_true rfl, Nat.le_of_ble_eq_true rfl⟩) hP hD hS hA hK (wr := []) rfl rfl (by decide) (by decide) (by decide) (ci := 1) rfl rfl rfl hl.1 rfl (Nat.le_of_ble_eq_true rfl) dX1_feed_22 ⟨Nat.zero_le _, Nat.zero_le _⟩ (fun g2 H locs hI2 hP hD hS => ?_)
    have hP : va_P (dC, dI) vwCl (w1 h0 ar ao cA cB g2 o (nI (n + 8)) (nI k) v) H := hP
    have hD : va_D A (w1 h0 ar ao cA cB g2 o (nI (n + 8)) (nI k) v) := hD
    refine lv_aload_n hx hb dX1_feed_25 rfl (lv_at hl 0 rfl) ?_
    refine lv_iload_n hx hb dX1_feed_26 rfl (lv_at hl 3 rfl) ?_
    refine cc_mv (av := [.int x3]) (rest := []) [0, 1, 2] [] ⟨hx, hb, hml, hown, hts⟩ (c_X1_word l dC dI h0 ar ao cA cB H.size g2 o (n + 8) k v (sb_cat (sb_cat (t) (n) (gg_wb x1)) (n + 4) (gg_wb x2)) x3 hI2 (by omega)) (cwV 1 hts gX1_feed_X1_word rfl rfl rfl (by decide +kernel) ⟨Nat.le_of_ble_eq_true rfl, Nat.le_of_ble_eq_true rfl⟩) hP hD hS hA hK (wr := []) rfl rfl (by decide) (by decide) (by decide) (ci := 1) rfl rfl rfl hl.1 rfl (Nat.le_of_ble_eq_true rfl) dX1_feed_27 ⟨Nat.zero_le _, Nat.zero_le _⟩ (fun g3 H locs hI3 hP hD hS => ?_)
    have hP : va_P (dC, dI) vwCl (w1 h0 ar ao cA cB g3 o (nI (n + 12)) (nI k) v) H := hP
    have hD : va_D A (w1 h0 ar ao cA cB g3 o (nI (n + 12)) (nI k) v) := hD
    refine lv_aload_n hx hb dX1_feed_30 rfl (lv_at hl 0 rfl) ?_
    refine lv_iload hx hb dX1_feed_31 (lv_at hl 4 rfl) ?_
    refine cc_mv (av := [.int x4]) (rest := []) [0, 1, 2] [] ⟨hx, hb, hml, hown, hts⟩ (c_X1_word l dC dI h0 ar ao cA cB H.size g3 o (n + 12) k v (sb_cat (sb_cat (sb_cat (t) (n) (gg_wb x1)) (n + 4) (gg_wb x2)) (n + 8) (gg_wb x3)) x4 hI3 (by omega)) (cwV 1 hts gX1_feed_X1_word rfl rfl rfl (by decide +kernel) ⟨Nat.le_of_ble_eq_true rfl, Nat.le_of_ble_eq_true rfl⟩) hP hD hS hA hK (wr := []) rfl rfl (by decide) (by decide) (by decide) (ci := 1) rfl rfl rfl hl.1 rfl (Nat.le_of_ble_eq_true rfl) dX1_feed_33 ⟨Nat.zero_le _, Nat.zero_le _⟩ (fun g4 H locs hI4 hP hD hS => ?_)
    have hP : va_P (dC, dI) vwCl (w1 h0 ar ao cA cB g4 o (nI (n + 16)) (nI k) v) H := hP
    have hD : va_D A (w1 h0 ar ao cA cB g4 o (nI (n + 16)) (nI k) v) := hD
    refine lv_aload_n hx hb dX1_feed_36 rfl (lv_at hl 0 rfl) ?_
    refine lv_iload hx hb dX1_feed_37 (lv_at hl 5 rfl) ?_
    refine cc_mv (av := [.int x5]) (rest := []) [0, 1, 2] [] ⟨hx, hb, hml, hown, hts⟩ (c_X1_word l dC dI h0 ar ao cA cB H.size g4 o (n + 16) k v (sb_cat (sb_cat (sb_cat (sb_cat (t) (n) (gg_wb x1)) (n + 4) (gg_wb x2)) (n + 8) (gg_wb x3)) (n + 12) (gg_wb x4)) x5 hI4 (by omega)) (cwV 1 hts gX1_feed_X1_word rfl rfl rfl (by decide +kernel) ⟨Nat.le_of_ble_eq_true rfl, Nat.le_of_ble_eq_true rfl⟩) hP hD hS hA hK (wr := []) rfl rfl (by decide) (by decide) (by decide) (ci := 1) rfl rfl rfl hl.1 rfl (Nat.le_of_ble_eq_true rfl) dX1_feed_39 ⟨Nat.zero_le _, Nat.zero_le _⟩ (fun g5 H locs hI5 hP hD hS => ?_)
    have hP : va_P (dC, dI) vwCl (w1 h0 ar ao cA cB g5 o (nI (n + 20)) (nI k) v) H := hP
    have hD : va_D A (w1 h0 ar ao cA cB g5 o (nI (n + 20)) (nI k) v) := hD
    refine lv_aload_n hx hb dX1_feed_42 rfl (lv_at hl 0 rfl) ?_
    refine va_get (D := (dC, dI)) (ci := 1) (v := .int (nI (n + 20))) (C := RX1) (T := TX1) (N := 5) hx hb hts hin hown hK hP 0 rfl rfl 2 (by decide) (hts (.fieldLink RX1 16 "GroupedNumbersModel" "rows" "I") (by decide +kernel)) (fun _ h9 => h9) rfl dX1_feed_43 ?_
    have hf : gg_feed t n x1 x2 x3 x4 x5 = (nI (n + 20), n + 20, gg_ft t n x1 x2 x3 x4 x5) := by unfold gg_feed; rw [if_pos hn20]
    exact fin H _ ls _ (nI (n + 20)) (g5, o, nI (n + 20), nI k, v) dX1_feed_46 (by rw [hf]; exact ⟨rfl, hI5, hO, rfl, rfl, rfl⟩) hP hD hS
  · have hn20 : ¬ n + 20 ≤ 1000 := fun q => c_2 ((nI_leI (by omega) (by decide)).mpr q)
    have hf : gg_feed t n x1 x2 x3 x4 x5 = (-1, n, t) := by unfold gg_feed; rw [if_neg hn20]
    refine lv_iconst (v := (-1)) hx hb dX1_feed_13 (by decide) ?_
    exact fin H _ ls _ (-1) (g, o, nI n, nI k, v) dX1_feed_14 (by rw [hf]; exact ⟨rfl, hI, hO, rfl, rfl, rfl⟩) hP hD hS

set_option maxHeartbeats 4000000 in
set_option maxRecDepth 100000 in
theorem c_X1_end (l : Launch) (dC : Nat → ClassId) (dI : Nat → Nat → Nat) (h0 ar ao : Nat) (cA cB : ClassId) (sz : Nat) (g o : Nat → Int32) (n k : Nat) (v : Int64) (t z : Nat → Nat) (x : Int32) (hI : sb_Lat t n g) (hO : sb_Lat z k o) (hn : n ≤ 1000) (hk : k ≤ 1000) : Met l yX1_end wsX1_end R0 (va_Pc [.ref h0, .int x] (Pw (dC, dI) vwCl (ty1 cA cB) sz (w1 h0 ar ao cA cB g o (nI n) (nI k) v))) (va_Qi (fun r u => r = (gg_end x n).1 ∧ gs_is sb_Lat t (gg_end x n).2 z k v u) (Bw (S := gS) (dC, dI) vwCl (ty1 cA cB) sz (w1 h0 ar ao cA cB g o (nI n) (nI k) v) (B1 h0 ar ao cA cB)) (va_A (w1 h0 ar ao cA cB g o (nI n) (nI k) v) sz)) 0 0 (va_A (w1 h0 ar ao cA cB g o (nI n) (nI k) v) sz) := by
  refine mm_i (cc := cX1_end) (maxL := 2) (by decide) rfl (Nat.le_of_ble_eq_true rfl) ?_
  intro p e s m below meth c Q A H ls hx hb hml hown hts hK hP hD hS hA hl fin
  have hown : s.vm.findClass RX1 = some m.cls := hown
  have hin : ∀ w ∈ wsX10, w ∈ wsX1_end := by decide +kernel
  have hl : lv_has ls 2 [(0, .ref h0), (1, .int x)] := hl
  have hP : va_P (dC, dI) vwCl (w1 h0 ar ao cA cB g o (nI n) (nI k) v) H := hP
  have hD : va_D A (w1 h0 ar ao cA cB g o (nI n) (nI k) v) := hD
  refine lv_iload_n hx hb dX1_end_0 rfl (lv_at hl 1 rfl) ?_
  refine lv_if_lt (tgt := 12) hx hb dX1_end_1 (by decide) (fun c_1 => ?_) (fun c_1 => ?_)
  · have hf : gg_end x n = (-1, n) := by unfold gg_end; rw [if_neg (fun q => q.1 c_1)]
    refine lv_iconst (v := (-1)) hx hb dX1_end_12 (by decide) ?_
    exact fin H _ ls _ (-1) (g, o, nI n, nI k, v) dX1_end_13 (by rw [hf]; exact ⟨rfl, hI, hO, rfl, rfl, rfl⟩) hP hD hS
  · refine lv_iload_n hx hb dX1_end_4 rfl (lv_at hl 1 rfl) ?_
    refine lv_aload_n hx hb dX1_end_5 rfl (lv_at hl 0 rfl) ?_
    refine va_get (D := (dC, dI)) (ci := 1) (v := .int (nI n)) (C := RX1) (T := TX1) (N := 5) hx hb hts hin hown hK hP 0 rfl rfl 2 (by decide) (hts (.fieldLink RX1 16 "GroupedNumbersModel" "rows" "I") (by decide +kernel)) (fun _ h9 => h9) rfl dX1_end_6 ?_
    refine lv_icmp_le (tgt := 14) hx hb dX1_end_9 (by decide) (fun c_2 => ?_) (fun c_2 => ?_)
    · have hf : gg_end x n = (x, x.toNatClampNeg) := by unfold gg_end; rw [if_pos ⟨c_1, c_2⟩]
      have hbd := gg_end_bd (x := x) hn
      obtain ⟨j, hj, ej⟩ := nI_of c_1
      have ec : x.toNatClampNeg = j := by rw [ej]; exact nI_clamp hj
      rw [hf] at hbd
      have hbd : x.toNatClampNeg ≤ n := hbd
      rw [ec] at hbd
      refine lv_aload_n hx hb dX1_end_14 rfl (lv_at hl 0 rfl) ?_
      refine lv_iload_n hx hb dX1_end_15 rfl (lv_at hl 1 rfl) ?_
      refine va_put (D := (dC, dI)) (ci := 1) (v := .int x) (ty := .int) (C := RX1) (T := TX1) (N := 5) hx hb hts hin tyX1 tyX1_ok nmX1 hown hK hP hD hS 0 rfl rfl 2 (by decide) (hts (.fieldLink RX1 16 "GroupedNumbersModel" "rows" "I") (by decide +kernel)) (fun _ h9 => h9) rfl (by decide +kernel) rfl rfl (Nat.le_of_ble_eq_true rfl) dX1_end_16 (fun H locs hP hD hS => ?_)
      have hP : va_P (dC, dI) vwCl (w1 h0 ar ao cA cB g o x (nI k) v) H := hP
      have hD : va_D A (w1 h0 ar ao cA cB g o x (nI k) v) := hD
      refine lv_iload_n hx hb dX1_end_19 rfl (lv_at hl 1 rfl) ?_
      exact fin H _ ls _ x (g, o, x, nI k, v) dX1_end_20 (by rw [hf]; exact ⟨rfl, by show sb_Lat t x.toNatClampNeg g; rw [ec]; exact gg_B_sub hI hbd, hO, by show x = nI x.toNatClampNeg; rw [ec]; exact ej, rfl, rfl⟩) hP hD hS
    · have hf : gg_end x n = (-1, n) := by unfold gg_end; rw [if_neg (fun q => c_2 q.2)]
      refine lv_iconst (v := (-1)) hx hb dX1_end_12 (by decide) ?_
      exact fin H _ ls _ (-1) (g, o, nI n, nI k, v) dX1_end_13 (by rw [hf]; exact ⟨rfl, hI, hO, rfl, rfl, rfl⟩) hP hD hS

set_option maxHeartbeats 4000000 in
set_option maxRecDepth 100000 in
theorem c_X1_clear (l : Launch) (dC : Nat → ClassId) (dI : Nat → Nat → Nat) (h0 ar ao : Nat) (cA cB : ClassId) (sz : Nat) (g o : Nat → Int32) (n k : Nat) (v : Int64) (t z : Nat → Nat) (hI : sb_Lat t n g) (hO : sb_Lat z k o) (hn : n ≤ 1000) (hk : k ≤ 1000) : Met l yX1_clear wsX1_clear R0 (va_Pc [.ref h0] (Pw (dC, dI) vwCl (ty1 cA cB) sz (w1 h0 ar ao cA cB g o (nI n) (nI k) v))) (va_Qv (fun u => gs_is sb_Lat t 0 z 0 v u) (Bw (S := gS) (dC, dI) vwCl (ty1 cA cB) sz (w1 h0 ar ao cA cB g o (nI n) (nI k) v) (B1 h0 ar ao cA cB)) (va_A (w1 h0 ar ao cA cB g o (nI n) (nI k) v) sz)) 0 0 (va_A (w1 h0 ar ao cA cB g o (nI n) (nI k) v) sz) := by
  refine mm_v (cc := cX1_clear) (maxL := 1) (by decide) rfl (Nat.le_of_ble_eq_true rfl) ?_
  intro p e s m below meth c Q A H ls hx hb hml hown hts hK hP hD hS hA hl fin
  have hown : s.vm.findClass RX1 = some m.cls := hown
  have hin : ∀ w ∈ wsX10, w ∈ wsX1_clear := by decide +kernel
  have hl : lv_has ls 1 [(0, .ref h0)] := hl
  have hP : va_P (dC, dI) vwCl (w1 h0 ar ao cA cB g o (nI n) (nI k) v) H := hP
  have hD : va_D A (w1 h0 ar ao cA cB g o (nI n) (nI k) v) := hD
  refine lv_aload_n hx hb dX1_clear_0 rfl (lv_at hl 0 rfl) ?_
  refine lv_iconst (v := nI 0) hx hb dX1_clear_1 (by decide) ?_
  refine va_put (D := (dC, dI)) (ci := 1) (v := .int (nI 0)) (ty := .int) (C := RX1) (T := TX1) (N := 5) hx hb hts hin tyX1 tyX1_ok nmX1 hown hK hP hD hS 0 rfl rfl 2 (by decide) (hts (.fieldLink RX1 16 "GroupedNumbersModel" "rows" "I") (by decide +kernel)) (fun _ h9 => h9) rfl (by decide +kernel) rfl rfl (Nat.le_of_ble_eq_true rfl) dX1_clear_2 (fun H locs hP hD hS => ?_)
  have hP : va_P (dC, dI) vwCl (w1 h0 ar ao cA cB g o (nI 0) (nI k) v) H := hP
  have hD : va_D A (w1 h0 ar ao cA cB g o (nI 0) (nI k) v) := hD
  refine lv_aload_n hx hb dX1_clear_5 rfl (lv_at hl 0 rfl) ?_
  refine lv_iconst (v := nI 0) hx hb dX1_clear_6 (by decide) ?_
  refine va_put (D := (dC, dI)) (ci := 1) (v := .int (nI 0)) (ty := .int) (C := RX1) (T := TX1) (N := 5) hx hb hts hin tyX1 tyX1_ok nmX1 hown hK hP hD hS 0 rfl rfl 3 (by decide) (hts (.fieldLink RX1 36 "GroupedNumbersModel" "outs" "I") (by decide +kernel)) (fun _ h9 => h9) rfl (by decide +kernel) rfl rfl (Nat.le_of_ble_eq_true rfl) dX1_clear_7 (fun H locs hP hD hS => ?_)
  have hP : va_P (dC, dI) vwCl (w1 h0 ar ao cA cB g o (nI 0) (nI 0) v) H := hP
  have hD : va_D A (w1 h0 ar ao cA cB g o (nI 0) (nI 0) v) := hD
  exact fin H _ ls _ (g, o, nI 0, nI 0, v) dX1_clear_10 ⟨gg_B_sub hI (Nat.zero_le _), gg_B_sub hO (Nat.zero_le _), rfl, rfl, rfl⟩ hP hD hS

set_option maxHeartbeats 4000000 in
set_option maxRecDepth 100000 in
theorem c_X1_value (l : Launch) (dC : Nat → ClassId) (dI : Nat → Nat → Nat) (h0 ar ao : Nat) (cA cB : ClassId) (g o : Nat → Int32) (n k : Nat) (v : Int64) : Met l yX1_value wsX1_value R0 (va_Pc [.ref h0] (Pr (dC, dI) vwCl (ty1 cA cB) (w1 h0 ar ao cA cB g o (nI n) (nI k) v))) (vp_Sl (fun r => r = v)) 0 0 (fun _ => False) := by
  refine ro_l (cc := cX1_value) (maxL := 1) (by decide) rfl (Nat.le_of_ble_eq_true rfl) ?_
  intro p e s m below meth c Q ls hx hb hml hown hts hPU hl fin
  have hown : s.vm.findClass RX1 = some m.cls := hown
  obtain ⟨hP, hK⟩ := hPU
  have hin : ∀ w ∈ wsX10, w ∈ wsX1_value := by decide +kernel
  have hl : lv_has ls 1 [(0, .ref h0)] := hl
  refine lv_aload_n hx hb dX1_value_0 rfl (lv_at hl 0 rfl) ?_
  refine va_get (D := (dC, dI)) (ci := 1) (v := .long v) (C := RX1) (T := TX1) (N := 5) hx hb hts hin hown hK hP 0 rfl rfl 4 (by decide) (hts (.fieldLink RX1 26 "GroupedNumbersModel" "value" "J") (by decide +kernel)) (fun _ h9 => h9) rfl dX1_value_1 ?_
  exact fin ls _ v dX1_value_4 rfl

set_option maxHeartbeats 4000000 in
set_option maxRecDepth 100000 in
theorem c_X1_size (l : Launch) (dC : Nat → ClassId) (dI : Nat → Nat → Nat) (h0 ar ao : Nat) (cA cB : ClassId) (g o : Nat → Int32) (n k : Nat) (v : Int64) : Met l yX1_size wsX1_size R0 (va_Pc [.ref h0] (Pr (dC, dI) vwCl (ty1 cA cB) (w1 h0 ar ao cA cB g o (nI n) (nI k) v))) (vp_Si (fun r => r = nI k)) 0 0 (fun _ => False) := by
  refine ro_i (cc := cX1_size) (maxL := 1) (by decide) rfl (Nat.le_of_ble_eq_true rfl) ?_
  intro p e s m below meth c Q ls hx hb hml hown hts hPU hl fin
  have hown : s.vm.findClass RX1 = some m.cls := hown
  obtain ⟨hP, hK⟩ := hPU
  have hin : ∀ w ∈ wsX10, w ∈ wsX1_size := by decide +kernel
  have hl : lv_has ls 1 [(0, .ref h0)] := hl
  refine lv_aload_n hx hb dX1_size_0 rfl (lv_at hl 0 rfl) ?_
  refine va_get (D := (dC, dI)) (ci := 1) (v := .int (nI k)) (C := RX1) (T := TX1) (N := 5) hx hb hts hin hown hK hP 0 rfl rfl 3 (by decide) (hts (.fieldLink RX1 36 "GroupedNumbersModel" "outs" "I") (by decide +kernel)) (fun _ h9 => h9) rfl dX1_size_1 ?_
  exact fin ls _ (nI k) dX1_size_4 (rfl)

set_option maxHeartbeats 4000000 in
set_option maxRecDepth 100000 in
theorem c_X1_at (l : Launch) (dC : Nat → ClassId) (dI : Nat → Nat → Nat) (h0 ar ao : Nat) (cA cB : ClassId) (g o : Nat → Int32) (n k : Nat) (v : Int64) (z : Nat → Nat) (i : Int32) (hI : sb_Lat z k o) (hk : k ≤ 1000) : Met l yX1_at wsX1_at R0 (va_Pc [.ref h0, .int i] (Pr (dC, dI) vwCl (ty1 cA cB) (w1 h0 ar ao cA cB g o (nI n) (nI k) v))) (vp_Si (fun r => r = gg_at i z k)) 0 0 (fun _ => False) := by
  refine ro_i (cc := cX1_at) (maxL := 2) (by decide) rfl (Nat.le_of_ble_eq_true rfl) ?_
  intro p e s m below meth c Q ls hx hb hml hown hts hPU hl fin
  have hown : s.vm.findClass RX1 = some m.cls := hown
  obtain ⟨hP, hK⟩ := hPU
  have hin : ∀ w ∈ wsX10, w ∈ wsX1_at := by decide +kernel
  have hl : lv_has ls 2 [(0, .ref h0), (1, .int i)] := hl
  refine lv_iload_n hx hb dX1_at_0 rfl (lv_at hl 1 rfl) ?_
  refine lv_if_lt (tgt := 25) hx hb dX1_at_1 (by decide) (fun c_1 => ?_) (fun c_1 => ?_)
  · refine lv_iconst (v := (-1)) hx hb dX1_at_25 (by decide) ?_
    exact fin ls _ (-1) dX1_at_26 (by unfold gg_at; rw [if_neg (fun q => q.1 c_1)])
  · refine lv_iload_n hx hb dX1_at_4 rfl (lv_at hl 1 rfl) ?_
    refine lv_aload_n hx hb dX1_at_5 rfl (lv_at hl 0 rfl) ?_
    refine va_get (D := (dC, dI)) (ci := 1) (v := .int (nI k)) (C := RX1) (T := TX1) (N := 5) hx hb hts hin hown hK hP 0 rfl rfl 3 (by decide) (hts (.fieldLink RX1 36 "GroupedNumbersModel" "outs" "I") (by decide +kernel)) (fun _ h9 => h9) rfl dX1_at_6 ?_
    refine lv_icmp_ge (tgt := 25) hx hb dX1_at_9 (by decide) (fun c_2 => ?_) (fun c_2 => ?_)
    · refine lv_iconst (v := (-1)) hx hb dX1_at_25 (by decide) ?_
      exact fin ls _ (-1) dX1_at_26 (by unfold gg_at; rw [if_neg (fun q => absurd q.2 (Int32.not_lt.mpr c_2))])
    · obtain ⟨j, hj31, rfl⟩ := nI_of c_1
      have hj : j < k := Nat.lt_of_not_le (fun q => c_2 ((nI_leI (by omega) (by omega)).mpr q))
      have hjk : nI j < nI k := (nI_ltI (by omega) (by omega)).mpr hj
      refine lv_aload_n hx hb dX1_at_12 rfl (lv_at hl 0 rfl) ?_
      refine va_get (D := (dC, dI)) (ci := 1) (v := .ref ao) (C := RX1) (T := TX1) (N := 5) hx hb hts hin hown hK hP 0 rfl rfl 1 (by decide) (hts (.fieldLink RX1 13 "GroupedNumbersModel" "out" "[B") (by decide +kernel)) (fun _ h9 => h9) rfl dX1_at_13 ?_
      refine lv_iload_n hx hb dX1_at_16 rfl (lv_at hl 1 rfl) ?_
      refine va_bald hx hb hK hP 2 1 rfl rfl (vp_in_nI (show j < 1000 by omega) (by decide)) dX1_at_17 ?_
      refine lv_topi (fun z_3 ez_3 => ?_)
      have ez_3 : z_3 = sb_b (z j) := by rw [ez_3]; rw [nI_clamp (by omega)]; exact (hI j hj).2
      subst ez_3
      refine lv_sipush (v := 255) hx hb dX1_at_18 (by decide) ?_
      refine lv_iand hx hb dX1_at_21 ?_
      refine lv_topi (fun z_4 ez_4 => ?_)
      have ez_4 : z_4 = nI (z j) := by rw [ez_4]; exact gg_b_255 _ (hI j hj).1
      subst ez_4
      refine lv_goto (tgt := 26) hx hb dX1_at_22 (by decide) ?_
      exact fin ls _ (nI (z j)) dX1_at_26 (by unfold gg_at; rw [if_pos ⟨c_1, hjk⟩, nI_clamp (by omega)])

set_option maxHeartbeats 4000000 in
set_option maxRecDepth 100000 in
theorem c_X1_isEnough (l : Launch) (a : Int32) (x : Int64) (i : Nat) (hi : i ≤ 100) : Met l yX1_isEnough wsX1_isEnough R0 (va_Pc [.int a, .long x, .int (nI i)] (fun _ => True)) (vp_Si (fun r => ¬ r = 0 ↔ (63 < 7 * i ∨ gg_fit a x i = true))) 0 0 (fun _ => False) := by
  refine ro_z (cc := cX1_isEnough) (maxL := 5) (by decide) rfl (Nat.le_of_ble_eq_true rfl) ?_
  intro p e s m below meth c Q ls hx hb hml hown hts hPU hl fin
  have hown : s.vm.findClass RX1 = some m.cls := hown
  have hl : lv_has ls 5 [(0, .int a), (1, .long x), (3, .int (nI i))] := hl
  refine lv_bipush (v := 7) hx hb dX1_isEnough_0 (by decide) ?_
  refine lv_iload_n hx hb dX1_isEnough_2 rfl (lv_at hl 2 rfl) ?_
  refine lv_imul hx hb dX1_isEnough_3 ?_
  refine lv_topi (fun y_1 ey_1 => ?_)
  refine lv_istore (lv' := [(4, .int y_1), (0, .int a), (1, .long x), (3, .int (nI i))]) hx hb dX1_isEnough_4 hl (by decide) rfl (fun ls hl => ?_)
  refine lv_iload hx hb dX1_isEnough_6 (lv_at hl 0 rfl) ?_
  refine lv_bipush (v := nI 63) hx hb dX1_isEnough_8 (by decide) ?_
  have eb : y_1 = nI (7 * i) := by rw [ey_1]; exact gg_7 i
  refine lv_icmp_le (tgt := 15) hx hb dX1_isEnough_10 (by decide) (fun c_2 => ?_) (fun c_2 => ?_)
  · have hs : ¬ 63 < 7 * i := by
      rw [eb] at c_2
      have q := (nI_leI (by omega) (by decide)).mp c_2
      omega
    refine lv_iload_n hx hb dX1_isEnough_15 rfl (lv_at hl 1 rfl) ?_
    refine lv_if_ne (tgt := 36) hx hb dX1_isEnough_16 (by decide) (fun c_3 => ?_) (fun c_3 => ?_)
    · refine lv_lload_n hx hb dX1_isEnough_36 rfl (lv_at hl 2 rfl) ?_
      refine lv_iload hx hb dX1_isEnough_37 (lv_at hl 0 rfl) ?_
      refine lv_iconst (v := 1) hx hb dX1_isEnough_39 (by decide) ?_
      refine lv_isub hx hb dX1_isEnough_40 ?_
      refine lv_lshr hx hb dX1_isEnough_41 rfl ?_
      refine lv_lconst (v := 0) hx hb dX1_isEnough_42 (by decide) ?_
      refine W.lcmp hx hb dX1_isEnough_43 ?_
      refine lv_if_eq (tgt := 60) hx hb dX1_isEnough_44 (by decide) (fun c_4 => ?_) (fun c_4 => ?_)
      · refine lv_iconst (v := 1) hx hb dX1_isEnough_60 (by decide) ?_
        refine lv_goto (tgt := 65) hx hb dX1_isEnough_61 (by decide) ?_
        exact fin ls _ 1 (by decide) dX1_isEnough_65 (z1 (Or.inr (by unfold gg_fit; rw [if_neg c_3, ← ey_1, Bool.or_eq_true, decide_eq_true_eq, decide_eq_true_eq]; exact Or.inl ((lg_cmp_eq _ _).mp c_4))))
      · refine lv_lload_n hx hb dX1_isEnough_47 rfl (lv_at hl 2 rfl) ?_
        refine lv_iload hx hb dX1_isEnough_48 (lv_at hl 0 rfl) ?_
        refine lv_iconst (v := 1) hx hb dX1_isEnough_50 (by decide) ?_
        refine lv_isub hx hb dX1_isEnough_51 ?_
        refine lv_lshr hx hb dX1_isEnough_52 rfl ?_
        refine lv_ldc2 hx hb hown (hts (.constantLong RX1 24 (-1)) (by decide +kernel)) dX1_isEnough_53 ?_
        refine W.lcmp hx hb dX1_isEnough_56 ?_
        refine lv_if_ne (tgt := 64) hx hb dX1_isEnough_57 (by decide) (fun c_5 => ?_) (fun c_5 => ?_)
        · refine lv_iconst (v := 0) hx hb dX1_isEnough_64 (by decide) ?_
          exact fin ls _ 0 (by decide) dX1_isEnough_65 (z0 (fun q => q.elim hs (fun q => by unfold gg_fit at q; rw [if_neg c_3, ← ey_1, Bool.or_eq_true, decide_eq_true_eq, decide_eq_true_eq] at q; exact q.elim (fun q => c_4 ((lg_cmp_eq _ _).mpr q)) (fun q => c_5 ((lg_cmp_eq _ _).mpr q)))))
        · refine lv_iconst (v := 1) hx hb dX1_isEnough_60 (by decide) ?_
          refine lv_goto (tgt := 65) hx hb dX1_isEnough_61 (by decide) ?_
          exact fin ls _ 1 (by decide) dX1_isEnough_65 (z1 (Or.inr (by unfold gg_fit; rw [if_neg c_3, ← ey_1, Bool.or_eq_true, decide_eq_true_eq, decide_eq_true_eq]; exact Or.inr ((lg_cmp_eq _ _).mp c_5))))
    · refine lv_lload_n hx hb dX1_isEnough_19 rfl (lv_at hl 2 rfl) ?_
      refine lv_iload hx hb dX1_isEnough_20 (lv_at hl 0 rfl) ?_
      refine lv_lshr hx hb dX1_isEnough_22 rfl ?_
      refine lv_lconst (v := 0) hx hb dX1_isEnough_23 (by decide) ?_
      refine W.lcmp hx hb dX1_isEnough_24 ?_
      refine lv_if_ne (tgt := 32) hx hb dX1_isEnough_25 (by decide) (fun c_6 => ?_) (fun c_6 => ?_)
      · refine lv_iconst (v := 0) hx hb dX1_isEnough_32 (by decide) ?_
        refine lv_goto (tgt := 65) hx hb dX1_isEnough_33 (by decide) ?_
        exact fin ls _ 0 (by decide) dX1_isEnough_65 (z0 (fun q => q.elim hs (fun q => by unfold gg_fit at q; rw [if_pos c_3, decide_eq_true_eq, ← ey_1] at q; exact c_6 ((lg_cmp_eq _ _).mpr q))))
      · refine lv_iconst (v := 1) hx hb dX1_isEnough_28 (by decide) ?_
        refine lv_goto (tgt := 65) hx hb dX1_isEnough_29 (by decide) ?_
        exact fin ls _ 1 (by decide) dX1_isEnough_65 (z1 (Or.inr (by unfold gg_fit; rw [if_pos c_3, decide_eq_true_eq, ← ey_1]; exact (lg_cmp_eq _ _).mp c_6)))
  · have hs : 63 < 7 * i := by
      rw [eb] at c_2
      exact Nat.lt_of_not_le (fun q => c_2 ((nI_leI (by omega) (by decide)).mpr q))
    refine lv_iconst (v := 1) hx hb dX1_isEnough_13 (by decide) ?_
    exact fin ls _ 1 (by decide) dX1_isEnough_14 (z1 (Or.inl hs))
end
section
/-! read and write of the reference -/

set_option maxHeartbeats 4000000 in
set_option maxRecDepth 100000 in
theorem c_X1_read (l : Launch) (dC : Nat → ClassId) (dI : Nat → Nat → Nat) (h0 ar ao : Nat) (cA cB : ClassId) (sz : Nat) (g o : Nat → Int32) (n k : Nat) (v : Int64) (t z : Nat → Nat) (a x : Int32) (hI : sb_Lat t n g) (hO : sb_Lat z k o) (hn : n ≤ 1000) (hk : k ≤ 1000) : Met l yX1_read wsX1_read R2 (va_Pc [.ref h0, .int a, .int x] (Pw (dC, dI) vwCl (ty1 cA cB) sz (w1 h0 ar ao cA cB g o (nI n) (nI k) v))) (va_Qi (fun r u => r = (gg_read a x t n v).1 ∧ gs_is sb_Lat t n z k (gg_read a x t n v).2 u) (Bw (S := gS) (dC, dI) vwCl (ty1 cA cB) sz (w1 h0 ar ao cA cB g o (nI n) (nI k) v) (B1 h0 ar ao cA cB)) (va_A (w1 h0 ar ao cA cB g o (nI n) (nI k) v) sz)) 0 0 (va_A (w1 h0 ar ao cA cB g o (nI n) (nI k) v) sz) := by
  refine mm_i (cc := cX1_read) (maxL := 9) (by decide) rfl (Nat.le_of_ble_eq_true rfl) ?_
  intro p e s m below meth c Q A H ls hx hb hml hown hts hK hP hD hS hA hl fin
  have hown : s.vm.findClass RX1 = some m.cls := hown
  have hin : ∀ w ∈ wsX10, w ∈ wsX1_read := by decide +kernel
  have hl : lv_has ls 9 [(0, .ref h0), (1, .int a), (2, .int x)] := hl
  have hP : va_P (dC, dI) vwCl (w1 h0 ar ao cA cB g o (nI n) (nI k) v) H := hP
  have hD : va_D A (w1 h0 ar ao cA cB g o (nI n) (nI k) v) := hD
  refine lv_iload_n hx hb dX1_read_0 rfl (lv_at hl 1 rfl) ?_
  refine lv_if_lt (tgt := 21) hx hb dX1_read_1 (by decide) (fun c_1 => ?_) (fun c_1 => ?_)
  · have hf : gg_read a x t n v = (-2, v) := by unfold gg_read; rw [if_neg (fun q => gg_ok_lo q.1 c_1)]
    refine lv_bipush (v := (-2)) hx hb dX1_read_21 (by decide) ?_
    exact fin H _ ls _ (-2) (g, o, nI n, nI k, v) dX1_read_23 (by rw [hf]; exact ⟨rfl, hI, hO, rfl, rfl, rfl⟩) hP hD hS
  · refine lv_iload_n hx hb dX1_read_4 rfl (lv_at hl 1 rfl) ?_
    refine lv_iconst (v := 2) hx hb dX1_read_5 (by decide) ?_
    refine lv_icmp_gt (tgt := 21) hx hb dX1_read_6 (by decide) (fun c_2 => ?_) (fun c_2 => ?_)
    · have hf : gg_read a x t n v = (-2, v) := by unfold gg_read; rw [if_neg (fun q => gg_ok_hi q.1 c_2)]
      refine lv_bipush (v := (-2)) hx hb dX1_read_21 (by decide) ?_
      exact fin H _ ls _ (-2) (g, o, nI n, nI k, v) dX1_read_23 (by rw [hf]; exact ⟨rfl, hI, hO, rfl, rfl, rfl⟩) hP hD hS
    · refine lv_iload_n hx hb dX1_read_9 rfl (lv_at hl 2 rfl) ?_
      refine lv_if_lt (tgt := 21) hx hb dX1_read_10 (by decide) (fun c_3 => ?_) (fun c_3 => ?_)
      · have hf : gg_read a x t n v = (-2, v) := by unfold gg_read; rw [if_neg (fun q => q.2.1 c_3)]
        refine lv_bipush (v := (-2)) hx hb dX1_read_21 (by decide) ?_
        exact fin H _ ls _ (-2) (g, o, nI n, nI k, v) dX1_read_23 (by rw [hf]; exact ⟨rfl, hI, hO, rfl, rfl, rfl⟩) hP hD hS
      · refine lv_iload_n hx hb dX1_read_13 rfl (lv_at hl 2 rfl) ?_
        refine lv_aload_n hx hb dX1_read_14 rfl (lv_at hl 0 rfl) ?_
        refine va_get (D := (dC, dI)) (ci := 1) (v := .int (nI n)) (C := RX1) (T := TX1) (N := 5) hx hb hts hin hown hK hP 0 rfl rfl 2 (by decide) (hts (.fieldLink RX1 16 "GroupedNumbersModel" "rows" "I") (by decide +kernel)) (fun _ h9 => h9) rfl dX1_read_15 ?_
        refine lv_icmp_le (tgt := 24) hx hb dX1_read_18 (by decide) (fun c_4 => ?_) (fun c_4 => ?_)
        · have hok : gg_ok a := gg_ok_iff c_1 c_2
          have hf0 : gg_read a x t n v = gg_rd a t x.toNatClampNeg (gg_cnt t x.toNatClampNeg (min (gg_most a) (n - x.toNatClampNeg))) v := by unfold gg_read; rw [if_pos ⟨hok, c_3, c_4⟩]
          obtain ⟨j, hj31, rfl⟩ := nI_of c_3
          have hj : j ≤ n := (nI_leI (by omega) (by omega)).mp c_4
          rw [nI_clamp hj31] at hf0
          have hmb := gg_most_bd a
          have k35 : W p l e R2 s m ([.ref h0, .int a, .int (nI j)] : List Value).toArray below meth c H [] 0 0 Q (F0 m 35 ls [.int (nI (gg_most a))]) := by
            refine lv_istore_n (lv' := [(3, .int (nI (gg_most a))), (0, .ref h0), (1, .int a), (2, .int (nI j))]) hx hb dX1_read_35 rfl hl (by decide) rfl (fun ls hl => ?_)
            refine lv_iconst (v := nI 0) hx hb dX1_read_36 (by decide) ?_
            refine lv_istore (lv' := [(4, .int (nI 0)), (3, .int (nI (gg_most a))), (0, .ref h0), (1, .int a), (2, .int (nI j))]) hx hb dX1_read_37 hl (by decide) rfl (fun ls hl => ?_)
            have k74 : ∀ (i : Nat) (ls : Array Slot), i ≤ gg_most a → j + i ≤ n → (∀ q, q < i → 128 ≤ t (j + q)) → (i = gg_most a ∨ n ≤ j + i ∨ t (j + i) < 128) → lv_has ls 9 [(4, .int (nI i)), (3, .int (nI (gg_most a))), (0, .ref h0), (1, .int a), (2, .int (nI j))] → W p l e R2 s m ([.ref h0, .int a, .int (nI j)] : List Value).toArray below meth c H [] 0 0 Q (F0 m 74 ls []) := by
              intro i ls hi1 hi2 hbe hend hl
              refine lv_iload hx hb dX1_read_74 (lv_at hl 0 rfl) ?_
              refine lv_iload_n hx hb dX1_read_76 rfl (lv_at hl 1 rfl) ?_
              refine lv_icmp_eq (tgt := 91) hx hb dX1_read_77 (by decide) (fun c_5 => ?_) (fun c_5 => ?_)
              · have hge : i = gg_most a := (nI_eq (by omega) (by omega)).mp c_5
                have hC : gg_cnt t j (min (gg_most a) (n - j)) = 0 := gg_cnt_none (fun q hq => hbe q (by omega))
                have hf : gg_read a (nI j) t n v = (-1, v) := by rw [hf0, hC]; rfl
                refine lv_iconst (v := (-1)) hx hb dX1_read_91 (by decide) ?_
                exact fin H _ ls _ (-1) (g, o, nI n, nI k, v) dX1_read_92 (by rw [hf]; exact ⟨rfl, hI, hO, rfl, rfl, rfl⟩) hP hD hS
              · have dc_5 : ¬ i = gg_most a := fun q => c_5 (by rw [q])
                refine lv_iload_n hx hb dX1_read_80 rfl (lv_at hl 4 rfl) ?_
                refine lv_iload hx hb dX1_read_81 (lv_at hl 0 rfl) ?_
                refine lv_iadd hx hb dX1_read_83 ?_
                refine lv_topi (fun z_6 ez_6 => ?_)
                have ez_6 : z_6 = nI (j + i) := by rw [ez_6]; exact nI_add j i
                subst ez_6
                refine lv_aload_n hx hb dX1_read_84 rfl (lv_at hl 2 rfl) ?_
                refine va_get (D := (dC, dI)) (ci := 1) (v := .int (nI n)) (C := RX1) (T := TX1) (N := 5) hx hb hts hin hown hK hP 0 rfl rfl 2 (by decide) (hts (.fieldLink RX1 16 "GroupedNumbersModel" "rows" "I") (by decide +kernel)) (fun _ h9 => h9) rfl dX1_read_85 ?_
                refine lv_icmp_lt (tgt := 93) hx hb dX1_read_88 (by decide) (fun c_7 => ?_) (fun c_7 => ?_)
                · have hlt : j + i < n := (nI_ltI (by omega) (by omega)).mp c_7
                  have hlast : t (j + i) < 128 := by omega
                  have hC : gg_cnt t j (min (gg_most a) (n - j)) = i + 1 := gg_cnt_hit hbe hlast (by omega)
                  rw [hC] at hf0
                  refine lv_iinc (v := nI (i + 1)) (lv' := [(4, .int (nI (i + 1))), (3, .int (nI (gg_most a))), (0, .ref h0), (1, .int a), (2, .int (nI j))]) hx hb dX1_read_93 hl (k := 0) rfl (show nI i + 1 = nI (i + 1) from nI_1 i) (by decide) rfl (fun ls hl => ?_)
                  refine lv_aload_n hx hb dX1_read_96 rfl (lv_at hl 2 rfl) ?_
                  refine va_get (D := (dC, dI)) (ci := 1) (v := .ref ar) (C := RX1) (T := TX1) (N := 5) hx hb hts hin hown hK hP 0 rfl rfl 0 (by decide) (hts (.fieldLink RX1 9 "GroupedNumbersModel" "row" "[B") (by decide +kernel)) (fun _ h9 => h9) rfl dX1_read_97 ?_
                  refine lv_iload_n hx hb dX1_read_100 rfl (lv_at hl 4 rfl) ?_
                  refine lv_iload hx hb dX1_read_101 (lv_at hl 0 rfl) ?_
                  refine lv_iadd hx hb dX1_read_103 ?_
                  refine lv_topi (fun z_8 ez_8 => ?_)
                  have ez_8 : z_8 = nI (j + (i + 1)) := by rw [ez_8]; exact nI_add j (i + 1)
                  subst ez_8
                  refine lv_iconst (v := nI 1) hx hb dX1_read_104 (by decide) ?_
                  refine lv_isub hx hb dX1_read_105 ?_
                  refine lv_topi (fun z_9 ez_9 => ?_)
                  have ez_9 : z_9 = nI (j + i) := by rw [ez_9]; exact pk_sub (a := j + (i + 1)) (b := 1) (by omega)
                  subst ez_9
                  refine va_bald hx hb hK hP 1 0 rfl rfl (vp_in_nI (show j + i < 1000 by omega) (by decide)) dX1_read_106 ?_
                  refine lv_topi (fun z_10 ez_10 => ?_)
                  have ez_10 : z_10 = nI (t (j + i)) := by rw [ez_10]; rw [nI_clamp (by omega), (hI (j + i) (by omega)).2]; exact gg_b_low _ hlast
                  subst ez_10
                  refine lv_istore (lv' := [(5, .int (nI (t (j + i)))), (4, .int (nI (i + 1))), (3, .int (nI (gg_most a))), (0, .ref h0), (1, .int a), (2, .int (nI j))]) hx hb dX1_read_107 hl (by decide) rfl (fun ls hl => ?_)
                  have k180 : ¬ (i + 1 = gg_most a ∧ gg_bad a (t (j + i))) → W p l e R2 s m ([.ref h0, .int a, .int (nI j)] : List Value).toArray below meth c H [] 0 0 Q (F0 m 180 ls []) := by
                    intro hnb
                    have hf : gg_read a (nI j) t n v = (nI (i + 1), lN (gg_val a t j (i + 1))) := by rw [hf0]; unfold gg_rd; rw [if_neg (by omega), show i + 1 - 1 = i from rfl, if_neg hnb]
                    obtain ⟨N0, hN0⟩ : ∃ N0, N0 = (if ¬ a = 0 ∧ 64 ≤ t (j + i) then 18446744073709551615 else 0) := ⟨_, rfl⟩
                    have hT : N0 * 2 ^ (7 * (i + 1)) + gg_join t j (i + 1) = gg_val a t j (i + 1) := by
                      unfold gg_val
                      rw [hN0, show i + 1 - 1 = i from rfl]
                      split <;> omega
                    have k198 : W p l e R2 s m ([.ref h0, .int a, .int (nI j)] : List Value).toArray below meth c H [] 0 0 Q (F0 m 198 ls [.long (lN N0)]) := by
                      refine lv_lstore (lv' := [(6, .long (lN N0)), (5, .int (nI (t (j + i)))), (4, .int (nI (i + 1))), (3, .int (nI (gg_most a))), (0, .ref h0), (1, .int a), (2, .int (nI j))]) hx hb dX1_read_198 hl (by decide) rfl (fun ls hl => ?_)
                      refine lv_iload hx hb dX1_read_200 (lv_at hl 2 rfl) ?_
                      refine lv_iconst (v := nI 1) hx hb dX1_read_202 (by decide) ?_
                      refine lv_isub hx hb dX1_read_203 ?_
                      refine lv_topi (fun z_11 ez_11 => ?_)
                      have ez_11 : z_11 = (nI (i + 1) - 1) := by rw [ez_11]; rfl
                      subst ez_11
                      refine lv_istore (lv' := [(8, .int (nI (i + 1) - 1)), (6, .long (lN N0)), (5, .int (nI (t (j + i)))), (4, .int (nI (i + 1))), (3, .int (nI (gg_most a))), (0, .ref h0), (1, .int a), (2, .int (nI j))]) hx hb dX1_read_204 hl (by decide) rfl (fun ls hl => ?_)
                      have loop2 : ∀ (f q V : Nat) (ls : Array Slot), q ≤ i + 1 → q + 1 ≤ f → V * 2 ^ (7 * q) + gg_join t j q = gg_val a t j (i + 1) → lv_has ls 9 [(8, .int (nI q - 1)), (6, .long (lN V)), (4, .int (nI (i + 1))), (5, .int (nI (t (j + i)))), (3, .int (nI (gg_most a))), (0, .ref h0), (1, .int a), (2, .int (nI j))] → W p l e R2 s m ([.ref h0, .int a, .int (nI j)] : List Value).toArray below meth c H [] 0 0 Q (F0 m 206 ls []) := by
                        intro f
                        induction f with
                        | zero => intro q V ls h1 h2
                                  exact absurd h2 (by omega)
                        | succ f ih =>
                          intro q V ls hq hf2 hT2 hl
                          refine lv_iload hx hb dX1_read_206 (lv_at hl 0 rfl) ?_
                          refine lv_if_lt (tgt := 238) hx hb dX1_read_208 (by decide) (fun c_12 => ?_) (fun c_12 => ?_)
                          · have hq0 : q = 0 := by
                              rcases Nat.eq_zero_or_pos q with h | h
                              · exact h
                              · obtain ⟨b, rfl⟩ : ∃ b, q = b + 1 := ⟨q - 1, by omega⟩
                                rw [nI_pred] at c_12
                                exact absurd c_12 (nI_pos (by omega))
                            subst hq0
                            have hV : V = gg_val a t j (i + 1) := by
                              rw [← hT2]
                              show V = V * 1 + 0
                              omega
                            subst hV
                            refine lv_aload_n hx hb dX1_read_238 rfl (lv_at hl 5 rfl) ?_
                            refine lv_iload_n hx hb dX1_read_239 rfl (lv_at hl 6 rfl) ?_
                            refine lv_iconst (v := 1) hx hb dX1_read_240 (by decide) ?_
                            refine lv_icmp_ne (tgt := 251) hx hb dX1_read_241 (by decide) (fun c_13 => ?_) (fun c_13 => ?_)
                            · refine lv_lload hx hb dX1_read_251 (lv_at hl 1 rfl) ?_
                              refine va_put (D := (dC, dI)) (ci := 1) (v := .long (lN (gg_val a t j (i + 1)))) (ty := .long) (C := RX1) (T := TX1) (N := 5) hx hb hts hin tyX1 tyX1_ok nmX1 hown hK hP hD hS 0 rfl rfl 4 (by decide) (hts (.fieldLink RX1 26 "GroupedNumbersModel" "value" "J") (by decide +kernel)) (fun _ h9 => h9) rfl (by decide +kernel) rfl rfl (Nat.le_of_ble_eq_true rfl) dX1_read_253 (fun H locs hP hD hS => ?_)
                              have hP : va_P (dC, dI) vwCl (w1 h0 ar ao cA cB g o (nI n) (nI k) (lN (gg_val a t j (i + 1)))) H := hP
                              have hD : va_D A (w1 h0 ar ao cA cB g o (nI n) (nI k) (lN (gg_val a t j (i + 1)))) := hD
                              refine lv_iload hx hb dX1_read_256 (lv_at hl 2 rfl) ?_
                              exact fin H _ ls _ (nI (i + 1)) (g, o, nI n, nI k, lN (gg_val a t j (i + 1))) dX1_read_258 (by rw [hf]; exact ⟨rfl, hI, hO, rfl, rfl, rfl⟩) hP hD hS
                            · refine lv_lload hx hb dX1_read_244 (lv_at hl 1 rfl) ?_
                              refine lv_l2i hx hb dX1_read_246 rfl ?_
                              refine lv_i2l hx hb dX1_read_247 rfl ?_
                              refine lv_topl (fun z_14 ez_14 => ?_)
                              have ez_14 : z_14 = lN (gg_val a t j (i + 1)) := by rw [ez_14]; rw [c_13]; exact gg_val_S (by omega) (by have h5 : gg_most a = 5 := (by rw [c_13]; rfl); omega) hlast (fun h q => hnb ⟨by rw [c_13]; exact h, by rw [c_13]; exact q⟩)
                              subst ez_14
                              refine lv_goto (tgt := 253) hx hb dX1_read_248 (by decide) ?_
                              refine va_put (D := (dC, dI)) (ci := 1) (v := .long (lN (gg_val a t j (i + 1)))) (ty := .long) (C := RX1) (T := TX1) (N := 5) hx hb hts hin tyX1 tyX1_ok nmX1 hown hK hP hD hS 0 rfl rfl 4 (by decide) (hts (.fieldLink RX1 26 "GroupedNumbersModel" "value" "J") (by decide +kernel)) (fun _ h9 => h9) rfl (by decide +kernel) rfl rfl (Nat.le_of_ble_eq_true rfl) dX1_read_253 (fun H locs hP hD hS => ?_)
                              have hP : va_P (dC, dI) vwCl (w1 h0 ar ao cA cB g o (nI n) (nI k) (lN (gg_val a t j (i + 1)))) H := hP
                              have hD : va_D A (w1 h0 ar ao cA cB g o (nI n) (nI k) (lN (gg_val a t j (i + 1)))) := hD
                              refine lv_iload hx hb dX1_read_256 (lv_at hl 2 rfl) ?_
                              exact fin H _ ls _ (nI (i + 1)) (g, o, nI n, nI k, lN (gg_val a t j (i + 1))) dX1_read_258 (by rw [hf]; exact ⟨rfl, hI, hO, rfl, rfl, rfl⟩) hP hD hS
                          · obtain ⟨b, rfl⟩ : ∃ b, q = b + 1 := by
                              rcases Nat.eq_zero_or_pos q with h | h
                              · subst h
                                exact absurd (by decide) c_12
                              · exact ⟨q - 1, by omega⟩
                            rw [nI_pred] at hl
                            refine lv_lload hx hb dX1_read_211 (lv_at hl 1 rfl) ?_
                            refine lv_bipush (v := 7) hx hb dX1_read_213 (by decide) ?_
                            refine lv_lshl hx hb dX1_read_215 rfl ?_
                            refine lv_aload_n hx hb dX1_read_216 rfl (lv_at hl 5 rfl) ?_
                            refine va_get (D := (dC, dI)) (ci := 1) (v := .ref ar) (C := RX1) (T := TX1) (N := 5) hx hb hts hin hown hK hP 0 rfl rfl 0 (by decide) (hts (.fieldLink RX1 9 "GroupedNumbersModel" "row" "[B") (by decide +kernel)) (fun _ h9 => h9) rfl dX1_read_217 ?_
                            refine lv_iload_n hx hb dX1_read_220 rfl (lv_at hl 7 rfl) ?_
                            refine lv_iload hx hb dX1_read_221 (lv_at hl 0 rfl) ?_
                            refine lv_iadd hx hb dX1_read_223 ?_
                            refine lv_topi (fun z_15 ez_15 => ?_)
                            have ez_15 : z_15 = nI (j + b) := by rw [ez_15]; exact nI_add j b
                            subst ez_15
                            refine va_bald hx hb hK hP 1 0 rfl rfl (vp_in_nI (show j + b < 1000 by omega) (by decide)) dX1_read_224 ?_
                            refine lv_topi (fun z_16 ez_16 => ?_)
                            have ez_16 : z_16 = sb_b (t (j + b)) := by rw [ez_16]; rw [nI_clamp (by omega)]; exact (hI (j + b) (by omega)).2
                            subst ez_16
                            refine lv_bipush (v := 127) hx hb dX1_read_225 (by decide) ?_
                            refine lv_iand hx hb dX1_read_227 ?_
                            refine lv_topi (fun z_17 ez_17 => ?_)
                            have ez_17 : z_17 = nI (t (j + b) % 128) := by rw [ez_17]; exact gg_b_127 _ (hI (j + b) (by omega)).1
                            subst ez_17
                            refine lv_i2l hx hb dX1_read_228 rfl ?_
                            refine lv_lor hx hb dX1_read_229 ?_
                            refine lv_topl (fun z_18 ez_18 => ?_)
                            have ez_18 : z_18 = lN (t (j + b) % 128 + V * 128) := by rw [ez_18]; exact gg_down (Nat.mod_lt _ (by decide))
                            subst ez_18
                            refine lv_lstore (lv' := [(6, .long (lN (t (j + b) % 128 + V * 128))), (8, .int (nI b)), (4, .int (nI (i + 1))), (5, .int (nI (t (j + i)))), (3, .int (nI (gg_most a))), (0, .ref h0), (1, .int a), (2, .int (nI j))]) hx hb dX1_read_230 hl (by decide) rfl (fun ls hl => ?_)
                            refine lv_iinc (v := nI b - 1) (lv' := [(8, .int (nI b - 1)), (6, .long (lN (t (j + b) % 128 + V * 128))), (4, .int (nI (i + 1))), (5, .int (nI (t (j + i)))), (3, .int (nI (gg_most a))), (0, .ref h0), (1, .int a), (2, .int (nI j))]) hx hb dX1_read_232 hl (k := 1) rfl (show nI b + (-1) = nI b - 1 from (Int32.sub_eq_add_neg _ _).symm) (by decide) rfl (fun ls hl => ?_)
                            refine lv_goto (tgt := 206) hx hb dX1_read_235 (by decide) ?_
                            exact ih b _ ls (by omega) (by omega) (gg_down_inv hT2) (lv_sub hl [0, 1, 2, 3, 4, 5, 6, 7] rfl)
                      exact loop2 (i + 2) (i + 1) N0 ls (by omega) (by omega) hT (lv_sub hl [0, 1, 3, 2, 4, 5, 6, 7] rfl)
                    refine lv_iload_n hx hb dX1_read_180 rfl (lv_at hl 4 rfl) ?_
                    refine lv_if_le (tgt := 197) hx hb dX1_read_181 (by decide) (fun c_19 => ?_) (fun c_19 => ?_)
                    · have ha0 : a = 0 := by
                        rcases hok with h | h | h
                        · exact h
                        · rw [h] at c_19
                          exact absurd c_19 (by decide)
                        · rw [h] at c_19
                          exact absurd c_19 (by decide)
                      refine lv_lconst (v := lN N0) hx hb dX1_read_197 (by rw [hN0, if_neg (fun q => q.1 ha0)]; rfl) ?_
                      exact k198
                    · have ha0 : ¬ a = 0 := fun q => c_19 (by rw [q]; decide)
                      refine lv_iload hx hb dX1_read_184 (lv_at hl 0 rfl) ?_
                      refine lv_bipush (v := nI 63) hx hb dX1_read_186 (by decide) ?_
                      refine lv_icmp_le (tgt := 197) hx hb dX1_read_188 (by decide) (fun c_20 => ?_) (fun c_20 => ?_)
                      · have h64 : ¬ 64 ≤ t (j + i) := by
                          have q := (nI_leI (by omega) (by decide)).mp c_20
                          omega
                        refine lv_lconst (v := lN N0) hx hb dX1_read_197 (by rw [hN0, if_neg (fun q => h64 q.2)]; rfl) ?_
                        exact k198
                      · have h64 : 64 ≤ t (j + i) := by
                          have q : ¬ t (j + i) ≤ 63 := fun q => c_20 ((nI_leI (by omega) (by decide)).mpr q)
                          omega
                        refine lv_ldc2 hx hb hown (hts (.constantLong RX1 24 (-1)) (by decide +kernel)) dX1_read_191 ?_
                        refine lv_topl (fun z_21 ez_21 => ?_)
                        have ez_21 : z_21 = lN N0 := by rw [ez_21]; rw [hN0, if_pos ⟨ha0, h64⟩]; exact gg_m1
                        subst ez_21
                        refine lv_goto (tgt := 198) hx hb dX1_read_194 (by decide) ?_
                        exact k198
                  have k155 : ¬ (i + 1 = gg_most a ∧ a = 0 ∧ 15 < t (j + i)) → ¬ (i + 1 = gg_most a ∧ a = 1 ∧ 7 < t (j + i) ∧ t (j + i) < 120) → W p l e R2 s m ([.ref h0, .int a, .int (nI j)] : List Value).toArray below meth c H [] 0 0 Q (F0 m 155 ls []) := by
                    intro h0a h1a
                    refine lv_iload hx hb dX1_read_155 (lv_at hl 1 rfl) ?_
                    refine lv_iload_n hx hb dX1_read_157 rfl (lv_at hl 2 rfl) ?_
                    refine lv_icmp_ne (tgt := 180) hx hb dX1_read_158 (by decide) (fun c_22 => ?_) (fun c_22 => ?_)
                    · exact k180 (fun h => c_22 (by rw [h.1]))
                    · have hcm : i + 1 = gg_most a := (nI_eq (by omega) (by omega)).mp c_22
                      refine lv_iload_n hx hb dX1_read_161 rfl (lv_at hl 4 rfl) ?_
                      refine lv_iconst (v := 2) hx hb dX1_read_162 (by decide) ?_
                      refine lv_icmp_ne (tgt := 180) hx hb dX1_read_163 (by decide) (fun c_23 => ?_) (fun c_23 => ?_)
                      · exact k180 (fun h => by
                          rcases h.2 with q | q | q
                          · exact h0a ⟨h.1, q.1, q.2⟩
                          · exact h1a ⟨h.1, q.1, q.2⟩
                          · exact c_23 q.1)
                      · refine lv_iload hx hb dX1_read_166 (lv_at hl 0 rfl) ?_
                        refine lv_if_le (tgt := 180) hx hb dX1_read_168 (by decide) (fun c_24 => ?_) (fun c_24 => ?_)
                        · have hp : t (j + i) ≤ 0 := (nI_leI (b := 0) (by omega) (by decide)).mp c_24
                          exact k180 (fun h => by
                            rcases h.2 with q | q | q
                            · exact h0a ⟨h.1, q.1, q.2⟩
                            · exact h1a ⟨h.1, q.1, q.2⟩
                            · omega)
                        · have hp : 0 < t (j + i) := Nat.pos_of_ne_zero (fun h => c_24 (by rw [h]; decide))
                          refine lv_iload hx hb dX1_read_171 (lv_at hl 0 rfl) ?_
                          refine lv_bipush (v := nI 127) hx hb dX1_read_173 (by decide) ?_
                          refine lv_icmp_ge (tgt := 180) hx hb dX1_read_175 (by decide) (fun c_25 => ?_) (fun c_25 => ?_)
                          · have hp2 : 127 ≤ t (j + i) := (nI_leI (by decide) (by omega)).mp c_25
                            exact k180 (fun h => by
                              rcases h.2 with q | q | q
                              · exact h0a ⟨h.1, q.1, q.2⟩
                              · exact h1a ⟨h.1, q.1, q.2⟩
                              · omega)
                          · have hp2 : ¬ 127 ≤ t (j + i) := fun h => c_25 ((nI_leI (by decide) (by omega)).mpr h)
                            have hf : gg_read a (nI j) t n v = (-1, v) := by rw [hf0]; unfold gg_rd; rw [if_neg (by omega), show i + 1 - 1 = i from rfl, if_pos ⟨hcm, Or.inr (Or.inr ⟨c_23, hp, by omega⟩)⟩]
                            refine lv_iconst (v := (-1)) hx hb dX1_read_178 (by decide) ?_
                            exact fin H _ ls _ (-1) (g, o, nI n, nI k, v) dX1_read_179 (by rw [hf]; exact ⟨rfl, hI, hO, rfl, rfl, rfl⟩) hP hD hS
                  have k128 : ¬ (i + 1 = gg_most a ∧ a = 0 ∧ 15 < t (j + i)) → W p l e R2 s m ([.ref h0, .int a, .int (nI j)] : List Value).toArray below meth c H [] 0 0 Q (F0 m 128 ls []) := by
                    intro h0a
                    refine lv_iload hx hb dX1_read_128 (lv_at hl 1 rfl) ?_
                    refine lv_iload_n hx hb dX1_read_130 rfl (lv_at hl 2 rfl) ?_
                    refine lv_icmp_ne (tgt := 155) hx hb dX1_read_131 (by decide) (fun c_26 => ?_) (fun c_26 => ?_)
                    · exact k155 h0a (fun h => c_26 (by rw [h.1]))
                    · have hcm : i + 1 = gg_most a := (nI_eq (by omega) (by omega)).mp c_26
                      refine lv_iload_n hx hb dX1_read_134 rfl (lv_at hl 4 rfl) ?_
                      refine lv_iconst (v := 1) hx hb dX1_read_135 (by decide) ?_
                      refine lv_icmp_ne (tgt := 155) hx hb dX1_read_136 (by decide) (fun c_27 => ?_) (fun c_27 => ?_)
                      · exact k155 h0a (fun h => c_27 h.2.1)
                      · refine lv_iload hx hb dX1_read_139 (lv_at hl 0 rfl) ?_
                        refine lv_bipush (v := nI 7) hx hb dX1_read_141 (by decide) ?_
                        refine lv_icmp_le (tgt := 155) hx hb dX1_read_143 (by decide) (fun c_28 => ?_) (fun c_28 => ?_)
                        · have hp : t (j + i) ≤ 7 := (nI_leI (by omega) (by decide)).mp c_28
                          exact k155 h0a (fun h => by omega)
                        · have hp : ¬ t (j + i) ≤ 7 := fun h => c_28 ((nI_leI (by omega) (by decide)).mpr h)
                          refine lv_iload hx hb dX1_read_146 (lv_at hl 0 rfl) ?_
                          refine lv_bipush (v := nI 120) hx hb dX1_read_148 (by decide) ?_
                          refine lv_icmp_ge (tgt := 155) hx hb dX1_read_150 (by decide) (fun c_29 => ?_) (fun c_29 => ?_)
                          · have hp2 : 120 ≤ t (j + i) := (nI_leI (by decide) (by omega)).mp c_29
                            exact k155 h0a (fun h => by omega)
                          · have hp2 : ¬ 120 ≤ t (j + i) := fun h => c_29 ((nI_leI (by decide) (by omega)).mpr h)
                            have hf : gg_read a (nI j) t n v = (-1, v) := by rw [hf0]; unfold gg_rd; rw [if_neg (by omega), show i + 1 - 1 = i from rfl, if_pos ⟨hcm, Or.inr (Or.inl ⟨c_27, by omega, by omega⟩)⟩]
                            refine lv_iconst (v := (-1)) hx hb dX1_read_153 (by decide) ?_
                            exact fin H _ ls _ (-1) (g, o, nI n, nI k, v) dX1_read_154 (by rw [hf]; exact ⟨rfl, hI, hO, rfl, rfl, rfl⟩) hP hD hS
                  refine lv_iload hx hb dX1_read_109 (lv_at hl 1 rfl) ?_
                  refine lv_iload_n hx hb dX1_read_111 rfl (lv_at hl 2 rfl) ?_
                  refine lv_icmp_ne (tgt := 128) hx hb dX1_read_112 (by decide) (fun c_30 => ?_) (fun c_30 => ?_)
                  · exact k128 (fun h => c_30 (by rw [h.1]))
                  · have hcm : i + 1 = gg_most a := (nI_eq (by omega) (by omega)).mp c_30
                    refine lv_iload_n hx hb dX1_read_115 rfl (lv_at hl 4 rfl) ?_
                    refine lv_if_ne (tgt := 128) hx hb dX1_read_116 (by decide) (fun c_31 => ?_) (fun c_31 => ?_)
                    · exact k128 (fun h => c_31 h.2.1)
                    · refine lv_iload hx hb dX1_read_119 (lv_at hl 0 rfl) ?_
                      refine lv_bipush (v := nI 15) hx hb dX1_read_121 (by decide) ?_
                      refine lv_icmp_le (tgt := 128) hx hb dX1_read_123 (by decide) (fun c_32 => ?_) (fun c_32 => ?_)
                      · have hp : t (j + i) ≤ 15 := (nI_leI (by omega) (by decide)).mp c_32
                        exact k128 (fun h => by omega)
                      · have hp : ¬ t (j + i) ≤ 15 := fun h => c_32 ((nI_leI (by omega) (by decide)).mpr h)
                        have hf : gg_read a (nI j) t n v = (-1, v) := by rw [hf0]; unfold gg_rd; rw [if_neg (by omega), show i + 1 - 1 = i from rfl, if_pos ⟨hcm, Or.inl ⟨c_31, by omega⟩⟩]
                        refine lv_iconst (v := (-1)) hx hb dX1_read_126 (by decide) ?_
                        exact fin H _ ls _ (-1) (g, o, nI n, nI k, v) dX1_read_127 (by rw [hf]; exact ⟨rfl, hI, hO, rfl, rfl, rfl⟩) hP hD hS
                · have hge : ¬ j + i < n := fun q => c_7 ((nI_ltI (by omega) (by omega)).mpr q)
                  have hC : gg_cnt t j (min (gg_most a) (n - j)) = 0 := gg_cnt_none (fun q hq => hbe q (by omega))
                  have hf : gg_read a (nI j) t n v = (-1, v) := by rw [hf0, hC]; rfl
                  refine lv_iconst (v := (-1)) hx hb dX1_read_91 (by decide) ?_
                  exact fin H _ ls _ (-1) (g, o, nI n, nI k, v) dX1_read_92 (by rw [hf]; exact ⟨rfl, hI, hO, rfl, rfl, rfl⟩) hP hD hS
            have loop1 : ∀ (f i : Nat) (ls : Array Slot), i ≤ gg_most a → gg_most a + 1 ≤ i + f → j + i ≤ n → (∀ q, q < i → 128 ≤ t (j + q)) → lv_has ls 9 [(4, .int (nI i)), (3, .int (nI (gg_most a))), (0, .ref h0), (1, .int a), (2, .int (nI j))] → W p l e R2 s m ([.ref h0, .int a, .int (nI j)] : List Value).toArray below meth c H [] 0 0 Q (F0 m 39 ls []) := by
              intro f
              induction f with
              | zero => intro i ls h1 h2
                        exact absurd h2 (by omega)
              | succ f ih =>
                intro i ls hi hf hjn hbe hl
                refine lv_iload hx hb dX1_read_39 (lv_at hl 0 rfl) ?_
                refine lv_iload_n hx hb dX1_read_41 rfl (lv_at hl 1 rfl) ?_
                refine lv_icmp_ge (tgt := 74) hx hb dX1_read_42 (by decide) (fun c_33 => ?_) (fun c_33 => ?_)
                · exact k74 i ls (by omega) (by omega) hbe (Or.inl (by
                    have q := (nI_leI (by omega) (by omega)).mp c_33
                    omega)) hl
                · have dc_33 : i < gg_most a := Nat.lt_of_not_le (fun q => c_33 ((nI_leI (by omega) (by omega)).mpr q))
                  refine lv_iload_n hx hb dX1_read_45 rfl (lv_at hl 4 rfl) ?_
                  refine lv_iload hx hb dX1_read_46 (lv_at hl 0 rfl) ?_
                  refine lv_iadd hx hb dX1_read_48 ?_
                  refine lv_topi (fun z_34 ez_34 => ?_)
                  have ez_34 : z_34 = nI (j + i) := by rw [ez_34]; exact nI_add j i
                  subst ez_34
                  refine lv_aload_n hx hb dX1_read_49 rfl (lv_at hl 2 rfl) ?_
                  refine va_get (D := (dC, dI)) (ci := 1) (v := .int (nI n)) (C := RX1) (T := TX1) (N := 5) hx hb hts hin hown hK hP 0 rfl rfl 2 (by decide) (hts (.fieldLink RX1 16 "GroupedNumbersModel" "rows" "I") (by decide +kernel)) (fun _ h9 => h9) rfl dX1_read_50 ?_
                  refine lv_icmp_ge (tgt := 74) hx hb dX1_read_53 (by decide) (fun c_35 => ?_) (fun c_35 => ?_)
                  · exact k74 i ls (by omega) (by omega) hbe (Or.inr (Or.inl ((nI_leI (by omega) (by omega)).mp c_35))) hl
                  · have dc_35 : j + i < n := Nat.lt_of_not_le (fun q => c_35 ((nI_leI (by omega) (by omega)).mpr q))
                    refine lv_aload_n hx hb dX1_read_56 rfl (lv_at hl 2 rfl) ?_
                    refine va_get (D := (dC, dI)) (ci := 1) (v := .ref ar) (C := RX1) (T := TX1) (N := 5) hx hb hts hin hown hK hP 0 rfl rfl 0 (by decide) (hts (.fieldLink RX1 9 "GroupedNumbersModel" "row" "[B") (by decide +kernel)) (fun _ h9 => h9) rfl dX1_read_57 ?_
                    refine lv_iload_n hx hb dX1_read_60 rfl (lv_at hl 4 rfl) ?_
                    refine lv_iload hx hb dX1_read_61 (lv_at hl 0 rfl) ?_
                    refine lv_iadd hx hb dX1_read_63 ?_
                    refine lv_topi (fun z_36 ez_36 => ?_)
                    have ez_36 : z_36 = nI (j + i) := by rw [ez_36]; exact nI_add j i
                    subst ez_36
                    refine va_bald hx hb hK hP 1 0 rfl rfl (vp_in_nI (show j + i < 1000 by omega) (by decide)) dX1_read_64 ?_
                    refine lv_topi (fun z_37 ez_37 => ?_)
                    have ez_37 : z_37 = sb_b (t (j + i)) := by rw [ez_37]; rw [nI_clamp (by omega)]; exact (hI (j + i) (by omega)).2
                    subst ez_37
                    have hneg := gg_b_neg (t (j + i)) (hI (j + i) (by omega)).1
                    refine lv_if_ge (tgt := 74) hx hb dX1_read_65 (by decide) (fun c_38 => ?_) (fun c_38 => ?_)
                    · exact k74 i ls (by omega) (by omega) hbe (Or.inr (Or.inr (Nat.lt_of_not_le (fun q => hneg.mpr q c_38)))) hl
                    · refine lv_iinc (v := nI (i + 1)) (lv' := [(4, .int (nI (i + 1))), (3, .int (nI (gg_most a))), (0, .ref h0), (1, .int a), (2, .int (nI j))]) hx hb dX1_read_68 hl (k := 0) rfl (show nI i + 1 = nI (i + 1) from nI_1 i) (by decide) rfl (fun ls hl => ?_)
                      refine lv_goto (tgt := 39) hx hb dX1_read_71 (by decide) ?_
                      exact ih (i + 1) ls (by omega) (by omega) (by omega) (fun q h1 => by
                        rcases Nat.lt_or_ge q i with h | h
                        · exact hbe q h
                        · have e : q = i := by omega
                          rw [e]
                          exact hneg.mp c_38) (lv_sub hl [0, 1, 2, 3, 4] rfl)
            exact loop1 (gg_most a + 1) 0 ls (by omega) (by omega) (by omega) (fun q h1 => absurd h1 (by omega)) hl
          refine lv_iload_n hx hb dX1_read_24 rfl (lv_at hl 1 rfl) ?_
          refine lv_iconst (v := 2) hx hb dX1_read_25 (by decide) ?_
          refine lv_icmp_ne (tgt := 34) hx hb dX1_read_26 (by decide) (fun c_39 => ?_) (fun c_39 => ?_)
          · refine lv_iconst (v := nI (gg_most a)) hx hb dX1_read_34 (by unfold gg_most; rw [if_neg c_39]; decide) ?_
            exact k35
          · refine lv_bipush (v := nI (gg_most a)) hx hb dX1_read_29 (by unfold gg_most; rw [if_pos c_39]; decide) ?_
            refine lv_goto (tgt := 35) hx hb dX1_read_31 (by decide) ?_
            exact k35
        · have hf : gg_read a x t n v = (-2, v) := by unfold gg_read; rw [if_neg (fun q => c_4 q.2.2)]
          refine lv_bipush (v := (-2)) hx hb dX1_read_21 (by decide) ?_
          exact fin H _ ls _ (-2) (g, o, nI n, nI k, v) dX1_read_23 (by rw [hf]; exact ⟨rfl, hI, hO, rfl, rfl, rfl⟩) hP hD hS
end
section
/-! write of the reference -/

set_option maxHeartbeats 4000000 in
set_option maxRecDepth 100000 in
theorem c_X1_write (l : Launch) (dC : Nat → ClassId) (dI : Nat → Nat → Nat) (h0 ar ao : Nat) (cA cB : ClassId) (sz : Nat) (g o : Nat → Int32) (n k : Nat) (v : Int64) (t z : Nat → Nat) (a : Int32) (x : Int64) (hI : sb_Lat t n g) (hO : sb_Lat z k o) (hn : n ≤ 1000) (hk : k ≤ 1000) : Met l yX1_write wsX1_write R2 (va_Pc [.ref h0, .int a, .long x] (Pw (dC, dI) vwCl (ty1 cA cB) sz (w1 h0 ar ao cA cB g o (nI n) (nI k) v))) (va_Qi (fun r u => r = (gg_write a x k z).1 ∧ gs_is sb_Lat t n (gg_write a x k z).2.2 (gg_write a x k z).2.1 v u) (Bw (S := gS) (dC, dI) vwCl (ty1 cA cB) sz (w1 h0 ar ao cA cB g o (nI n) (nI k) v) (B1 h0 ar ao cA cB)) (va_A (w1 h0 ar ao cA cB g o (nI n) (nI k) v) sz)) 0 0 (va_A (w1 h0 ar ao cA cB g o (nI n) (nI k) v) sz) := by
  refine mm_i (cc := cX1_write) (maxL := 7) (by decide) rfl (Nat.le_of_ble_eq_true rfl) ?_
  intro p e s m below meth c Q A H ls hx hb hml hown hts hK hP hD hS hA hl fin
  have hown : s.vm.findClass RX1 = some m.cls := hown
  have hin : ∀ w ∈ wsX10, w ∈ wsX1_write := by decide +kernel
  have hl : lv_has ls 7 [(0, .ref h0), (1, .int a), (2, .long x)] := hl
  have hP : va_P (dC, dI) vwCl (w1 h0 ar ao cA cB g o (nI n) (nI k) v) H := hP
  have hD : va_D A (w1 h0 ar ao cA cB g o (nI n) (nI k) v) := hD
  refine lv_iload_n hx hb dX1_write_0 rfl (lv_at hl 1 rfl) ?_
  refine lv_if_lt (tgt := 9) hx hb dX1_write_1 (by decide) (fun c_1 => ?_) (fun c_1 => ?_)
  · have hf : gg_write a x k z = (-2, k, z) := by unfold gg_write; rw [if_neg (fun q => gg_ok_lo q c_1)]
    refine lv_bipush (v := (-2)) hx hb dX1_write_9 (by decide) ?_
    exact fin H _ ls _ (-2) (g, o, nI n, nI k, v) dX1_write_11 (by rw [hf]; exact ⟨rfl, hI, hO, rfl, rfl, rfl⟩) hP hD hS
  · refine lv_iload_n hx hb dX1_write_4 rfl (lv_at hl 1 rfl) ?_
    refine lv_iconst (v := 2) hx hb dX1_write_5 (by decide) ?_
    refine lv_icmp_le (tgt := 12) hx hb dX1_write_6 (by decide) (fun c_2 => ?_) (fun c_2 => ?_)
    · have hok : gg_ok a := gg_ok_iff c_1 (Int32.not_lt.mpr c_2)
      have hmb := gg_most_bd a
      have hnb := gg_need_bd a x
      have k45 : gg_num a x → W p l e R2 s m ([.ref h0, .int a, .long x] : List Value).toArray below meth c H [] 0 0 Q (F0 m 45 ls []) := by
        intro hnum
        refine lv_iconst (v := nI 1) hx hb dX1_write_45 (by decide) ?_
        refine lv_istore (lv' := [(4, .int (nI 1)), (0, .ref h0), (1, .int a), (2, .long x)]) hx hb dX1_write_46 hl (by decide) rfl (fun ls hl => ?_)
        have k64 : ∀ (ls : Array Slot), lv_has ls 7 [(4, .int (nI (gg_need a x))), (0, .ref h0), (1, .int a), (2, .long x)] → W p l e R2 s m ([.ref h0, .int a, .long x] : List Value).toArray below meth c H [] 0 0 Q (F0 m 64 ls []) := by
          intro ls hl
          refine lv_aload_n hx hb dX1_write_64 rfl (lv_at hl 1 rfl) ?_
          refine va_get (D := (dC, dI)) (ci := 1) (v := .int (nI k)) (C := RX1) (T := TX1) (N := 5) hx hb hts hin hown hK hP 0 rfl rfl 3 (by decide) (hts (.fieldLink RX1 36 "GroupedNumbersModel" "outs" "I") (by decide +kernel)) (fun _ h9 => h9) rfl dX1_write_65 ?_
          refine lv_iload hx hb dX1_write_68 (lv_at hl 0 rfl) ?_
          refine lv_iadd hx hb dX1_write_70 ?_
          refine lv_topi (fun z_3 ez_3 => ?_)
          have ez_3 : z_3 = nI (k + gg_need a x) := by rw [ez_3]; exact nI_add _ _
          subst ez_3
          refine lv_sipush (v := nI 1000) hx hb dX1_write_71 (by decide) ?_
          refine lv_icmp_le (tgt := 80) hx hb dX1_write_74 (by decide) (fun c_4 => ?_) (fun c_4 => ?_)
          · have hroom : k + gg_need a x ≤ 1000 := (nI_leI (by omega) (by decide)).mp c_4
            have hf : gg_write a x k z = (nI (gg_need a x), k + gg_need a x, sb_cat z k (gg_by x (gg_need a x))) := by unfold gg_write; rw [if_pos hok, if_pos hnum, if_pos hroom]
            refine lv_iconst (v := nI 0) hx hb dX1_write_80 (by decide) ?_
            refine lv_istore (lv' := [(5, .int (nI 0)), (4, .int (nI (gg_need a x))), (0, .ref h0), (1, .int a), (2, .long x)]) hx hb dX1_write_81 hl (by decide) rfl (fun ls hl => ?_)
            obtain ⟨M, hM⟩ : ∃ M, M = gg_need a x := ⟨_, rfl⟩
            rw [← hM] at hl hf hroom hnb
            have loop2 : ∀ (f i : Nat) (gi : Nat → Int32) (H : Heap) (locs : List Loc) (ls : Array Slot), i ≤ M → M + 1 ≤ i + f → sb_Lat (sb_cat z k (gg_by x M)) (k + i) gi → va_P (dC, dI) vwCl (w1 h0 ar ao cA cB g gi (nI n) (nI (k + i)) v) H → va_D A (w1 h0 ar ao cA cB g gi (nI n) (nI (k + i)) v) → va_S A s.heap H locs → lv_has ls 7 [(5, .int (nI i)), (4, .int (nI M)), (0, .ref h0), (1, .int a), (2, .long x)] → W p l e R2 s m ([.ref h0, .int a, .long x] : List Value).toArray below meth c H locs 0 0 Q (F0 m 83 ls []) := by
              intro f
              induction f with
              | zero => intro i gi H locs ls h1 h2
                        exact absurd h2 (by omega)
              | succ f ih =>
                intro i gi H locs ls hi hf2 hOi hP hD hS hl
                refine lv_iload hx hb dX1_write_83 (lv_at hl 0 rfl) ?_
                refine lv_iload hx hb dX1_write_85 (lv_at hl 1 rfl) ?_
                refine lv_icmp_ge (tgt := 154) hx hb dX1_write_87 (by decide) (fun c_5 => ?_) (fun c_5 => ?_)
                · have dc_5 : i = M := by
                    have q := (nI_leI (by omega) (by omega)).mp c_5
                    omega
                  subst dc_5
                  refine lv_iload hx hb dX1_write_154 (lv_at hl 1 rfl) ?_
                  exact fin H _ ls _ (nI i) (g, gi, nI n, nI (k + i), v) dX1_write_156 (by rw [hf]; exact ⟨rfl, hI, hOi, rfl, rfl, rfl⟩) hP hD hS
                · have dc_5 : i < M := Nat.lt_of_not_le (fun q => c_5 ((nI_leI (by omega) (by omega)).mpr q))
                  refine lv_lload_n hx hb dX1_write_90 rfl (lv_at hl 4 rfl) ?_
                  refine lv_bipush (v := 7) hx hb dX1_write_91 (by decide) ?_
                  refine lv_iload hx hb dX1_write_93 (lv_at hl 0 rfl) ?_
                  refine lv_imul hx hb dX1_write_95 ?_
                  refine lv_bipush (v := nI 63) hx hb dX1_write_96 (by decide) ?_
                  refine va_mmin hx hb (by rw [hml]; exact hl.1.symm) hown (hts (.methodLink RX1 39 Lib.Math.min.name) (by decide +kernel)) (hts (.static Lib.Math.min.name) (by decide +kernel)) (hts (.initialized "java/lang/Math") (by decide +kernel)) (hts (.code Lib.Math.min.name Lib.Math.min.code 2 (some .int)) (by decide +kernel)) (Nat.le_of_ble_eq_true rfl) (Nat.le_of_ble_eq_true rfl) (Nat.le_of_ble_eq_true rfl) (Nat.le_of_ble_eq_true rfl) dX1_write_98 ?_
                  refine lv_topi (fun z_6 ez_6 => ?_)
                  have ez_6 : z_6 = (7 * nI i) := by rw [ez_6]; rw [gg_7, if_neg (fun q => by have q := (nI_ltI (by decide) (by omega)).mp q; omega)]
                  subst ez_6
                  refine lv_lshr hx hb dX1_write_101 rfl ?_
                  refine lv_l2i hx hb dX1_write_102 rfl ?_
                  refine lv_bipush (v := 127) hx hb dX1_write_103 (by decide) ?_
                  refine lv_iand hx hb dX1_write_105 ?_
                  refine lv_topi (fun z_7 ez_7 => ?_)
                  have ez_7 : z_7 = nI (gg_grp x i) := by rw [ez_7]; exact gg_grp_I x i
                  subst ez_7
                  refine lv_istore (lv' := [(6, .int (nI (gg_grp x i))), (5, .int (nI i)), (4, .int (nI M)), (0, .ref h0), (1, .int a), (2, .long x)]) hx hb dX1_write_106 hl (by decide) rfl (fun ls hl => ?_)
                  refine lv_aload_n hx hb dX1_write_108 rfl (lv_at hl 3 rfl) ?_
                  refine va_get (D := (dC, dI)) (ci := 1) (v := .ref ao) (C := RX1) (T := TX1) (N := 5) hx hb hts hin hown hK hP 0 rfl rfl 1 (by decide) (hts (.fieldLink RX1 13 "GroupedNumbersModel" "out" "[B") (by decide +kernel)) (fun _ h9 => h9) rfl dX1_write_109 ?_
                  refine lv_aload_n hx hb dX1_write_112 rfl (lv_at hl 3 rfl) ?_
                  refine va_get (D := (dC, dI)) (ci := 1) (v := .int (nI (k + i))) (C := RX1) (T := TX1) (N := 5) hx hb hts hin hown hK hP 0 rfl rfl 3 (by decide) (hts (.fieldLink RX1 36 "GroupedNumbersModel" "outs" "I") (by decide +kernel)) (fun _ h9 => h9) rfl dX1_write_113 ?_
                  refine lv_iload hx hb dX1_write_116 (lv_at hl 1 rfl) ?_
                  refine lv_iload hx hb dX1_write_118 (lv_at hl 2 rfl) ?_
                  refine lv_iconst (v := nI 1) hx hb dX1_write_120 (by decide) ?_
                  refine lv_isub hx hb dX1_write_121 ?_
                  refine lv_topi (fun z_8 ez_8 => ?_)
                  have ez_8 : z_8 = nI (M - 1) := by rw [ez_8]; exact pk_sub (by omega)
                  subst ez_8
                  have hgl := gg_grp_lt x i
                  refine lv_icmp_ge (tgt := 134) hx hb dX1_write_122 (by decide) (fun c_9 => ?_) (fun c_9 => ?_)
                  · have dc_9 : ¬ i + 1 < M := by
                      have q := (nI_leI (by omega) (by omega)).mp c_9
                      omega
                    refine lv_iload hx hb dX1_write_134 (lv_at hl 0 rfl) ?_
                    have hby : gg_by x M i = gg_grp x i := by
                      unfold gg_by
                      rw [if_neg dc_9, Nat.add_zero]
                    refine lv_i2b hx hb dX1_write_136 rfl ?_
                    refine lv_topi (fun z_10 ez_10 => ?_)
                    have ez_10 : z_10 = sb_b (gg_grp x i) := by rw [ez_10]; rfl
                    subst ez_10
                    have hnar : vp_nar .byte (sb_b (gg_grp x i)) = sb_b (gg_grp x i) := pk_vb _
                    refine va_bast hx hb hK hP hD hS 2 1 rfl rfl (vp_in_nI (show k + i < 1000 by omega) (by decide)) dX1_write_137 (fun H locs hP hD hS => ?_)
                    rw [nI_clamp (show k + i < 2 ^ 31 by omega), hnar] at hP hD
                    have hP : va_P (dC, dI) vwCl (w1 h0 ar ao cA cB g (upd gi (k + i) (sb_b (gg_grp x i))) (nI n) (nI (k + i)) v) H := hP
                    have hD : va_D A (w1 h0 ar ao cA cB g (upd gi (k + i) (sb_b (gg_grp x i))) (nI n) (nI (k + i)) v) := hD
                    refine lv_aload_n hx hb dX1_write_138 rfl (lv_at hl 3 rfl) ?_
                    refine lv_dup hx hb dX1_write_139 rfl ?_
                    refine va_get (D := (dC, dI)) (ci := 1) (v := .int (nI (k + i))) (C := RX1) (T := TX1) (N := 5) hx hb hts hin hown hK hP 0 rfl rfl 3 (by decide) (hts (.fieldLink RX1 36 "GroupedNumbersModel" "outs" "I") (by decide +kernel)) (fun _ h9 => h9) rfl dX1_write_140 ?_
                    refine lv_iconst (v := nI 1) hx hb dX1_write_143 (by decide) ?_
                    refine lv_iadd hx hb dX1_write_144 ?_
                    refine lv_topi (fun z_11 ez_11 => ?_)
                    have ez_11 : z_11 = nI (k + (i + 1)) := by rw [ez_11]; exact nI_add (k + i) 1
                    subst ez_11
                    refine va_put (D := (dC, dI)) (ci := 1) (v := .int (nI (k + (i + 1)))) (ty := .int) (C := RX1) (T := TX1) (N := 5) hx hb hts hin tyX1 tyX1_ok nmX1 hown hK hP hD hS 0 rfl rfl 3 (by decide) (hts (.fieldLink RX1 36 "GroupedNumbersModel" "outs" "I") (by decide +kernel)) (fun _ h9 => h9) rfl (by decide +kernel) rfl rfl (Nat.le_of_ble_eq_true rfl) dX1_write_145 (fun H locs hP hD hS => ?_)
                    have hP : va_P (dC, dI) vwCl (w1 h0 ar ao cA cB g (upd gi (k + i) (sb_b (gg_grp x i))) (nI n) (nI (k + (i + 1))) v) H := hP
                    have hD : va_D A (w1 h0 ar ao cA cB g (upd gi (k + i) (sb_b (gg_grp x i))) (nI n) (nI (k + (i + 1))) v) := hD
                    refine lv_iinc (v := nI (i + 1)) (lv' := [(5, .int (nI (i + 1))), (6, .int (nI (gg_grp x i))), (4, .int (nI M)), (0, .ref h0), (1, .int a), (2, .long x)]) hx hb dX1_write_148 hl (k := 1) rfl (show nI i + 1 = nI (i + 1) from nI_1 i) (by decide) rfl (fun ls hl => ?_)
                    refine lv_goto (tgt := 83) hx hb dX1_write_151 (by decide) ?_
                    exact ih (i + 1) _ H locs ls (by omega) (by omega) (gg_B_push (n := k + i) hOi (by rw [sb_cat_hi]; exact gg_by_lt x M i) (by rw [sb_cat_hi, hby])) hP hD hS (lv_sub hl [0, 2, 3, 4, 5] rfl)
                  · have dc_9 : i + 1 < M := by
                      have q : ¬ M - 1 ≤ i := fun q => c_9 ((nI_leI (by omega) (by omega)).mpr q)
                      omega
                    refine lv_iload hx hb dX1_write_125 (lv_at hl 0 rfl) ?_
                    refine lv_sipush (v := 128) hx hb dX1_write_127 (by decide) ?_
                    refine lv_ior hx hb dX1_write_130 ?_
                    refine lv_topi (fun z_12 ez_12 => ?_)
                    have ez_12 : z_12 = nI (gg_grp x i + 128) := by rw [ez_12]; exact gg_or128 _ hgl
                    subst ez_12
                    refine lv_goto (tgt := 136) hx hb dX1_write_131 (by decide) ?_
                    have hby : gg_by x M i = gg_grp x i + 128 := by
                      unfold gg_by
                      rw [if_pos dc_9]
                    refine lv_i2b hx hb dX1_write_136 rfl ?_
                    refine lv_topi (fun z_13 ez_13 => ?_)
                    have ez_13 : z_13 = sb_b (gg_grp x i + 128) := by rw [ez_13]; rfl
                    subst ez_13
                    have hnar : vp_nar .byte (sb_b (gg_grp x i + 128)) = sb_b (gg_grp x i + 128) := pk_vb _
                    refine va_bast hx hb hK hP hD hS 2 1 rfl rfl (vp_in_nI (show k + i < 1000 by omega) (by decide)) dX1_write_137 (fun H locs hP hD hS => ?_)
                    rw [nI_clamp (show k + i < 2 ^ 31 by omega), hnar] at hP hD
                    have hP : va_P (dC, dI) vwCl (w1 h0 ar ao cA cB g (upd gi (k + i) (sb_b (gg_grp x i + 128))) (nI n) (nI (k + i)) v) H := hP
                    have hD : va_D A (w1 h0 ar ao cA cB g (upd gi (k + i) (sb_b (gg_grp x i + 128))) (nI n) (nI (k + i)) v) := hD
                    refine lv_aload_n hx hb dX1_write_138 rfl (lv_at hl 3 rfl) ?_
                    refine lv_dup hx hb dX1_write_139 rfl ?_
                    refine va_get (D := (dC, dI)) (ci := 1) (v := .int (nI (k + i))) (C := RX1) (T := TX1) (N := 5) hx hb hts hin hown hK hP 0 rfl rfl 3 (by decide) (hts (.fieldLink RX1 36 "GroupedNumbersModel" "outs" "I") (by decide +kernel)) (fun _ h9 => h9) rfl dX1_write_140 ?_
                    refine lv_iconst (v := nI 1) hx hb dX1_write_143 (by decide) ?_
                    refine lv_iadd hx hb dX1_write_144 ?_
                    refine lv_topi (fun z_14 ez_14 => ?_)
                    have ez_14 : z_14 = nI (k + (i + 1)) := by rw [ez_14]; exact nI_add (k + i) 1
                    subst ez_14
                    refine va_put (D := (dC, dI)) (ci := 1) (v := .int (nI (k + (i + 1)))) (ty := .int) (C := RX1) (T := TX1) (N := 5) hx hb hts hin tyX1 tyX1_ok nmX1 hown hK hP hD hS 0 rfl rfl 3 (by decide) (hts (.fieldLink RX1 36 "GroupedNumbersModel" "outs" "I") (by decide +kernel)) (fun _ h9 => h9) rfl (by decide +kernel) rfl rfl (Nat.le_of_ble_eq_true rfl) dX1_write_145 (fun H locs hP hD hS => ?_)
                    have hP : va_P (dC, dI) vwCl (w1 h0 ar ao cA cB g (upd gi (k + i) (sb_b (gg_grp x i + 128))) (nI n) (nI (k + (i + 1))) v) H := hP
                    have hD : va_D A (w1 h0 ar ao cA cB g (upd gi (k + i) (sb_b (gg_grp x i + 128))) (nI n) (nI (k + (i + 1))) v) := hD
                    refine lv_iinc (v := nI (i + 1)) (lv' := [(5, .int (nI (i + 1))), (6, .int (nI (gg_grp x i))), (4, .int (nI M)), (0, .ref h0), (1, .int a), (2, .long x)]) hx hb dX1_write_148 hl (k := 1) rfl (show nI i + 1 = nI (i + 1) from nI_1 i) (by decide) rfl (fun ls hl => ?_)
                    refine lv_goto (tgt := 83) hx hb dX1_write_151 (by decide) ?_
                    exact ih (i + 1) _ H locs ls (by omega) (by omega) (gg_B_push (n := k + i) hOi (by rw [sb_cat_hi]; exact gg_by_lt x M i) (by rw [sb_cat_hi, hby])) hP hD hS (lv_sub hl [0, 2, 3, 4, 5] rfl)
            exact loop2 (M + 1) 0 o H [] ls (by omega) (by omega) (gg_B_cat hO) hP hD hS hl
          · have hroom : ¬ k + gg_need a x ≤ 1000 := fun q => c_4 ((nI_leI (by omega) (by decide)).mpr q)
            have hf : gg_write a x k z = (-2, k, z) := by unfold gg_write; rw [if_pos hok, if_pos hnum, if_neg hroom]
            refine lv_bipush (v := (-2)) hx hb dX1_write_77 (by decide) ?_
            exact fin H _ ls _ (-2) (g, o, nI n, nI k, v) dX1_write_79 (by rw [hf]; exact ⟨rfl, hI, hO, rfl, rfl, rfl⟩) hP hD hS
        have loop1 : ∀ (f i : Nat) (ls : Array Slot), i ≤ gg_most a → gg_most a + 1 ≤ i + f → 1 ≤ i → (∀ j, 1 ≤ j → j < i → gg_fit a x j = false) → lv_has ls 7 [(4, .int (nI i)), (0, .ref h0), (1, .int a), (2, .long x)] → W p l e R2 s m ([.ref h0, .int a, .long x] : List Value).toArray below meth c H [] 0 0 Q (F0 m 48 ls []) := by
          intro f
          induction f with
          | zero => intro i ls h1 h2
                    exact absurd h2 (by omega)
          | succ f ih =>
            intro i ls hi hf2 hi1 hbe hl
            refine lv_iload_n hx hb dX1_write_48 rfl (lv_at hl 2 rfl) ?_
            refine lv_lload_n hx hb dX1_write_49 rfl (lv_at hl 3 rfl) ?_
            refine lv_iload hx hb dX1_write_50 (lv_at hl 0 rfl) ?_
            refine cc_si (av := [.int a, .long x, .int (nI i)]) (rest := []) ⟨hx, hb, hml, hown, hts⟩ (c_X1_isEnough l a x i (by omega)) (va_cwS 3 hts gX1_write_X1_isEnough rfl rfl rfl (by decide +kernel) ⟨Nat.le_of_ble_eq_true rfl, Nat.le_of_ble_eq_true rfl⟩) rfl hl.1 rfl (Nat.le_of_ble_eq_true rfl) dX1_write_52 ⟨Nat.zero_le _, Nat.zero_le _⟩ (fun r hr => ?_)
            refine lv_if_ne (tgt := 64) hx hb dX1_write_55 (by decide) (fun c_15 => ?_) (fun c_15 => ?_)
            · have hne : gg_need a x = i := by
                rcases Nat.lt_or_ge i (gg_most a) with q | q
                · exact gg_need_hit hi1 q hbe ((hr.mp c_15).resolve_left (by omega))
                · have e : i = gg_most a := by omega
                  rw [e]
                  exact gg_need_top (fun j h1 h2 => hbe j h1 (by omega))
              rw [← hne] at hl
              exact k64 ls hl
            · have hnot : ¬ (63 < 7 * i ∨ gg_fit a x i = true) := fun q => hr.mpr q c_15
              have hlt : i < gg_most a := by
                rcases Nat.lt_or_ge i (gg_most a) with q | q
                · exact q
                · have e : i = gg_most a := by omega
                  exfalso
                  rcases hok with h | h | h
                  · have e5 : gg_most a = 5 := by rw [h]; rfl
                    exact hnot (Or.inr (by rw [e, e5]; exact gg_fit_top (Or.inl h) hnum))
                  · have e5 : gg_most a = 5 := by rw [h]; rfl
                    exact hnot (Or.inr (by rw [e, e5]; exact gg_fit_top (Or.inr h) hnum))
                  · have e5 : gg_most a = 10 := by rw [h]; rfl
                    exact hnot (Or.inl (by omega))
              refine lv_iinc (v := nI (i + 1)) (lv' := [(4, .int (nI (i + 1))), (0, .ref h0), (1, .int a), (2, .long x)]) hx hb dX1_write_58 hl (k := 0) rfl (show nI i + 1 = nI (i + 1) from nI_1 i) (by decide) rfl (fun ls hl => ?_)
              refine lv_goto (tgt := 48) hx hb dX1_write_61 (by decide) ?_
              exact ih (i + 1) ls (by omega) (by omega) (by omega) (fun j h1 h2 => by
                rcases Nat.lt_or_ge j i with q | q
                · exact hbe j h1 q
                · have e : j = i := by omega
                  rw [e]
                  exact Bool.eq_false_iff.mpr (fun q => hnot (Or.inr q))) (lv_sub hl [0, 1, 2, 3] rfl)
        exact loop1 (gg_most a) 1 ls (by omega) (by omega) (by omega) (fun j h1 h2 => absurd h2 (by omega)) hl
      have k30 : (a = 0 → 0 ≤ x ∧ x ≤ 4294967295) → W p l e R2 s m ([.ref h0, .int a, .long x] : List Value).toArray below meth c H [] 0 0 Q (F0 m 30 ls []) := by
        intro hu
        refine lv_iload_n hx hb dX1_write_30 rfl (lv_at hl 1 rfl) ?_
        refine lv_iconst (v := 1) hx hb dX1_write_31 (by decide) ?_
        refine lv_icmp_ne (tgt := 45) hx hb dX1_write_32 (by decide) (fun c_16 => ?_) (fun c_16 => ?_)
        · exact k45 ⟨hu, fun q => absurd q c_16⟩
        · refine lv_lload_n hx hb dX1_write_35 rfl (lv_at hl 2 rfl) ?_
          refine lv_lload_n hx hb dX1_write_36 rfl (lv_at hl 2 rfl) ?_
          refine lv_l2i hx hb dX1_write_37 rfl ?_
          refine lv_i2l hx hb dX1_write_38 rfl ?_
          refine W.lcmp hx hb dX1_write_39 ?_
          refine lv_if_eq (tgt := 45) hx hb dX1_write_40 (by decide) (fun c_17 => ?_) (fun c_17 => ?_)
          · exact k45 ⟨hu, fun _ => (gg_int x).mp ((lg_cmp_eq _ _).mp c_17)⟩
          · have hf : gg_write a x k z = (-1, k, z) := by unfold gg_write; rw [if_pos hok, if_neg (fun q => c_17 ((lg_cmp_eq _ _).mpr ((gg_int x).mpr (q.2 c_16))))]
            refine lv_iconst (v := (-1)) hx hb dX1_write_43 (by decide) ?_
            exact fin H _ ls _ (-1) (g, o, nI n, nI k, v) dX1_write_44 (by rw [hf]; exact ⟨rfl, hI, hO, rfl, rfl, rfl⟩) hP hD hS
      refine lv_iload_n hx hb dX1_write_12 rfl (lv_at hl 1 rfl) ?_
      refine lv_if_ne (tgt := 30) hx hb dX1_write_13 (by decide) (fun c_18 => ?_) (fun c_18 => ?_)
      · exact k30 (fun q => absurd q c_18)
      · refine lv_lload_n hx hb dX1_write_16 rfl (lv_at hl 2 rfl) ?_
        refine lv_lconst (v := 0) hx hb dX1_write_17 (by decide) ?_
        refine W.lcmp hx hb dX1_write_18 ?_
        refine lv_if_lt (tgt := 43) hx hb dX1_write_19 (by decide) (fun c_19 => ?_) (fun c_19 => ?_)
        · have hf : gg_write a x k z = (-1, k, z) := by unfold gg_write; rw [if_pos hok, if_neg (fun q => absurd (q.1 c_18).1 (Int64.not_le.mpr ((lg_cmp_lt _ _).mp c_19)))]
          refine lv_iconst (v := (-1)) hx hb dX1_write_43 (by decide) ?_
          exact fin H _ ls _ (-1) (g, o, nI n, nI k, v) dX1_write_44 (by rw [hf]; exact ⟨rfl, hI, hO, rfl, rfl, rfl⟩) hP hD hS
        · have hx0 : 0 ≤ x := Int64.not_lt.mp (fun q => c_19 ((lg_cmp_lt _ _).mpr q))
          refine lv_lload_n hx hb dX1_write_22 rfl (lv_at hl 2 rfl) ?_
          refine lv_ldc2 hx hb hown (hts (.constantLong RX1 30 4294967295) (by decide +kernel)) dX1_write_23 ?_
          refine W.lcmp hx hb dX1_write_26 ?_
          refine lv_if_gt (tgt := 43) hx hb dX1_write_27 (by decide) (fun c_20 => ?_) (fun c_20 => ?_)
          · have hf : gg_write a x k z = (-1, k, z) := by unfold gg_write; rw [if_pos hok, if_neg (fun q => absurd (q.1 c_18).2 (Int64.not_le.mpr ((lg_cmp_gt _ _).mp c_20)))]
            refine lv_iconst (v := (-1)) hx hb dX1_write_43 (by decide) ?_
            exact fin H _ ls _ (-1) (g, o, nI n, nI k, v) dX1_write_44 (by rw [hf]; exact ⟨rfl, hI, hO, rfl, rfl, rfl⟩) hP hD hS
          · exact k30 (fun _ => ⟨hx0, Int64.not_lt.mp (fun q => c_20 ((lg_cmp_gt _ _).mpr q))⟩)
    · have hf : gg_write a x k z = (-2, k, z) := by unfold gg_write; rw [if_neg (fun q => gg_ok_hi q (Int32.not_le.mp c_2))]
      refine lv_bipush (v := (-2)) hx hb dX1_write_9 (by decide) ?_
      exact fin H _ ls _ (-2) (g, o, nI n, nI k, v) dX1_write_11 (by rw [hf]; exact ⟨rfl, hI, hO, rfl, rfl, rfl⟩) hP hD hS
end
section
/-! the two constructors -/
abbrev RI : Room := { frames := 1, cells := 2, slots := 2000, locals := 30 }

set_option maxHeartbeats 4000000 in
set_option maxRecDepth 100000 in
theorem c_X0_init (l : Launch) (dC : Nat → ClassId) (dI : Nat → Nat → Nat) (h0 sz : Nat) : Met l yX0_init wsX0_init RI (va_Pc [.ref h0] (Pw (dC, dI) vwCl [] sz ([(h0, .inr (0, [.null, .int 0, .null, .int 0, .long 0]))]))) (va_Qv (S := Nat × Nat × ClassId × ClassId) (fun _ => True) (fun u t => va_P (dC, dI) vwCl (w0 h0 u.1 u.2.1 u.2.2.1 u.2.2.2 (fun _ => 0) (fun _ => 0) (nI 0) (nI 0) 0) t.heap ∧ va_K (dC, dI) vwCl (ty0 u.2.2.1 u.2.2.2) t ∧ va_D (va_A ([(h0, .inr (0, [.null, .int 0, .null, .int 0, .long 0]))]) sz) (w0 h0 u.1 u.2.1 u.2.2.1 u.2.2.2 (fun _ => 0) (fun _ => 0) (nI 0) (nI 0) 0)) (va_A ([(h0, .inr (0, [.null, .int 0, .null, .int 0, .long 0]))]) sz)) 2 2000 (va_A ([(h0, .inr (0, [.null, .int 0, .null, .int 0, .long 0]))]) sz) := by
  refine Met.ofW (cc := cX0_init) (maxL := 1) (ret := none) (by decide) rfl ?_
  intro p e s m args below meth c s₁ B hml hv
  obtain ⟨rfl, hsz, hP, hK, hD0⟩ := hv
  have hx := B.exec
  have hb := B.bytes
  have hr := B.returns
  have hts := atoms_spec (ws := wsX0_init) B.pre
  have hown : s.vm.findClass RX0 = some m.cls := findClass_of_methodNamed B.named
  have hlocks := B.notSynchronized
  have hin : meth.name = "<init>" := (name_of_methodNamed B.named B.method).1
  have hin0 : ∀ w ∈ wsX00, w ∈ wsX0_init := by decide +kernel
  subst hsz
  have hD := hD0.self (sz := s.heap.size)
  generalize hAe : va_A ([(h0, .inr (0, [.null, .int 0, .null, .int 0, .long 0]))]) s.heap.size = A at hD ⊢
  have hA : ∀ q : Nat, s.heap.size ≤ q → A q := fun q h => by rw [← hAe]; exact Or.inr h
  have hS : va_S A s.heap s.heap [] := va_S.rf
  have hP : va_P (dC, dI) vwCl ([(h0, .inr (0, [.null, .int 0, .null, .int 0, .long 0]))]) s.heap := hP
  have hl := lv_entry ([.ref h0]) (n := 1) (Nat.le_of_ble_eq_true rfl)
  rw [lg_entry_eq]
  generalize (lg_sl ([.ref h0]) ++ List.replicate (1 - (lg_sl ([.ref h0])).length) Slot.unset).toArray = ls at hl ⊢
  have hl : lv_has ls 1 [(0, .ref h0)] := hl
  refine lv_aload_n hx hb dX0_init_0 rfl (lv_at hl 0 rfl) ?_
  refine W.objInit hx hb hown (hts (.methodLink RX0 1 objectInit) (by decide +kernel)) (hts (.instanceMethod objectInit) (by decide +kernel)) (hts _ (List.mem_cons_of_mem _ (List.mem_append_left _ (List.mem_of_getElem? (i := 2) rfl)))) rfl (by rw [hml]; exact hl.1) rfl dX0_init_1 (Nat.le_of_ble_eq_true rfl) (Nat.le_of_ble_eq_true rfl) ?_
  refine W.eq (g2 := F0 m 4 ls []) rfl ?_
  refine lv_aload_n hx hb dX0_init_4 rfl (lv_at hl 0 rfl) ?_
  refine lv_sipush (v := 1000) hx hb dX0_init_5 (by decide) ?_
  refine va_newa hx hb (atype := .int) (hts (.arrayClass .int) (by decide +kernel)) (ty := .int) rfl hK hP hD hS hA (n := 1000) (N' := 1000) (a0 := (1000, .inl (fun _ => 0))) (fun cA => rfl) (by decide) (by decide) (by decide) (Nat.le_of_ble_eq_true rfl) (Nat.le_of_ble_eq_true rfl) dX0_init_8 (fun ar cA H hK hP hD hS => ?_)
  have hP : va_P (dC, dI) vwCl ([(h0, .inr (0, [.null, .int 0, .null, .int 0, .long 0])), (ar, .inl (cA, 1000, .inl (fun _ => 0)))]) H := hP
  have hD : va_D A ([(h0, .inr (0, [.null, .int 0, .null, .int 0, .long 0])), (ar, .inl (cA, 1000, .inl (fun _ => 0)))]) := hD
  have hK : va_K (dC, dI) vwCl [(cA, .int)] s := hK
  refine va_putF (D := (dC, dI)) (ci := 0) (v := .ref ar) (ty := .array .int) (C := RX0) (T := TX0) (N := 5) hx hb hts hin0 tyX0 tyX0_ok nmX0 hown hK hP hD hS 0 rfl rfl 0 (by decide) (hts (.fieldLink RX0 9 "GroupedNumbers" "row" "[I") (by decide +kernel)) (fun _ h9 => h9) rfl hin rfl (by decide +kernel) rfl rfl (Nat.le_of_ble_eq_true rfl) dX0_init_10 (fun H locs hP hD hS => ?_)
  have hP : va_P (dC, dI) vwCl ([(h0, .inr (0, [.ref ar, .int 0, .null, .int 0, .long 0])), (ar, .inl (cA, 1000, .inl (fun _ => 0)))]) H := hP
  have hD : va_D A ([(h0, .inr (0, [.ref ar, .int 0, .null, .int 0, .long 0])), (ar, .inl (cA, 1000, .inl (fun _ => 0)))]) := hD
  refine lv_aload_n hx hb dX0_init_13 rfl (lv_at hl 0 rfl) ?_
  refine lv_iconst (v := nI 0) hx hb dX0_init_14 (by decide) ?_
  refine va_put (D := (dC, dI)) (ci := 0) (v := .int (nI 0)) (ty := .int) (C := RX0) (T := TX0) (N := 5) hx hb hts hin0 tyX0 tyX0_ok nmX0 hown hK hP hD hS 0 rfl rfl 1 (by decide) (hts (.fieldLink RX0 13 "GroupedNumbers" "rowLength" "I") (by decide +kernel)) (fun _ h9 => h9) rfl (by decide +kernel) rfl rfl (Nat.le_of_ble_eq_true rfl) dX0_init_15 (fun H locs hP hD hS => ?_)
  have hP : va_P (dC, dI) vwCl ([(h0, .inr (0, [.ref ar, .int (nI 0), .null, .int 0, .long 0])), (ar, .inl (cA, 1000, .inl (fun _ => 0)))]) H := hP
  have hD : va_D A ([(h0, .inr (0, [.ref ar, .int (nI 0), .null, .int 0, .long 0])), (ar, .inl (cA, 1000, .inl (fun _ => 0)))]) := hD
  refine lv_aload_n hx hb dX0_init_18 rfl (lv_at hl 0 rfl) ?_
  refine lv_sipush (v := 1000) hx hb dX0_init_19 (by decide) ?_
  refine va_newa hx hb (atype := .int) (hts (.arrayClass .int) (by decide +kernel)) (ty := .int) rfl hK hP hD hS hA (n := 1000) (N' := 1000) (a0 := (1000, .inl (fun _ => 0))) (fun cA => rfl) (by decide) (by decide) (by decide) (Nat.le_of_ble_eq_true rfl) (Nat.le_of_ble_eq_true rfl) dX0_init_22 (fun ao cB H hK hP hD hS => ?_)
  have hP : va_P (dC, dI) vwCl ([(h0, .inr (0, [.ref ar, .int (nI 0), .null, .int 0, .long 0])), (ar, .inl (cA, 1000, .inl (fun _ => 0))), (ao, .inl (cB, 1000, .inl (fun _ => 0)))]) H := hP
  have hD : va_D A ([(h0, .inr (0, [.ref ar, .int (nI 0), .null, .int 0, .long 0])), (ar, .inl (cA, 1000, .inl (fun _ => 0))), (ao, .inl (cB, 1000, .inl (fun _ => 0)))]) := hD
  have hK : va_K (dC, dI) vwCl [(cA, .int), (cB, .int)] s := hK
  refine va_putF (D := (dC, dI)) (ci := 0) (v := .ref ao) (ty := .array .int) (C := RX0) (T := TX0) (N := 5) hx hb hts hin0 tyX0 tyX0_ok nmX0 hown hK hP hD hS 0 rfl rfl 2 (by decide) (hts (.fieldLink RX0 17 "GroupedNumbers" "output" "[I") (by decide +kernel)) (fun _ h9 => h9) rfl hin rfl (by decide +kernel) rfl rfl (Nat.le_of_ble_eq_true rfl) dX0_init_24 (fun H locs hP hD hS => ?_)
  have hP : va_P (dC, dI) vwCl ([(h0, .inr (0, [.ref ar, .int (nI 0), .ref ao, .int 0, .long 0])), (ar, .inl (cA, 1000, .inl (fun _ => 0))), (ao, .inl (cB, 1000, .inl (fun _ => 0)))]) H := hP
  have hD : va_D A ([(h0, .inr (0, [.ref ar, .int (nI 0), .ref ao, .int 0, .long 0])), (ar, .inl (cA, 1000, .inl (fun _ => 0))), (ao, .inl (cB, 1000, .inl (fun _ => 0)))]) := hD
  refine lv_aload_n hx hb dX0_init_27 rfl (lv_at hl 0 rfl) ?_
  refine lv_iconst (v := nI 0) hx hb dX0_init_28 (by decide) ?_
  refine va_put (D := (dC, dI)) (ci := 0) (v := .int (nI 0)) (ty := .int) (C := RX0) (T := TX0) (N := 5) hx hb hts hin0 tyX0 tyX0_ok nmX0 hown hK hP hD hS 0 rfl rfl 3 (by decide) (hts (.fieldLink RX0 20 "GroupedNumbers" "outputLength" "I") (by decide +kernel)) (fun _ h9 => h9) rfl (by decide +kernel) rfl rfl (Nat.le_of_ble_eq_true rfl) dX0_init_29 (fun H locs hP hD hS => ?_)
  have hP : va_P (dC, dI) vwCl ([(h0, .inr (0, [.ref ar, .int (nI 0), .ref ao, .int (nI 0), .long 0])), (ar, .inl (cA, 1000, .inl (fun _ => 0))), (ao, .inl (cB, 1000, .inl (fun _ => 0)))]) H := hP
  have hD : va_D A ([(h0, .inr (0, [.ref ar, .int (nI 0), .ref ao, .int (nI 0), .long 0])), (ar, .inl (cA, 1000, .inl (fun _ => 0))), (ao, .inl (cB, 1000, .inl (fun _ => 0)))]) := hD
  refine lv_aload_n hx hb dX0_init_32 rfl (lv_at hl 0 rfl) ?_
  refine lv_lconst (v := 0) hx hb dX0_init_33 (by decide) ?_
  refine va_put (D := (dC, dI)) (ci := 0) (v := .long 0) (ty := .long) (C := RX0) (T := TX0) (N := 5) hx hb hts hin0 tyX0 tyX0_ok nmX0 hown hK hP hD hS 0 rfl rfl 4 (by decide) (hts (.fieldLink RX0 23 "GroupedNumbers" "lastRead" "J") (by decide +kernel)) (fun _ h9 => h9) rfl (by decide +kernel) rfl rfl (Nat.le_of_ble_eq_true rfl) dX0_init_34 (fun H locs hP hD hS => ?_)
  have hP : va_P (dC, dI) vwCl ([(h0, .inr (0, [.ref ar, .int (nI 0), .ref ao, .int (nI 0), .long 0])), (ar, .inl (cA, 1000, .inl (fun _ => 0))), (ao, .inl (cB, 1000, .inl (fun _ => 0)))]) H := hP
  have hD : va_D A ([(h0, .inr (0, [.ref ar, .int (nI 0), .ref ao, .int (nI 0), .long 0])), (ar, .inl (cA, 1000, .inl (fun _ => 0))), (ao, .inl (cB, 1000, .inl (fun _ => 0)))]) := hD
  refine W.widen (k := 2) (n := 2000) (by decide) (by decide) ?_
  exact W.vret hx hb hr (fun t ht hW => ⟨⟨(ar, ao, cA, cB), rfl, trivial, by rw [ht]; exact hP, va_K.moved hW.alike hK, hD⟩, hS.F ht⟩) hS.2.2 dX0_init_37

set_option maxHeartbeats 4000000 in
set_option maxRecDepth 100000 in
theorem c_X1_init (l : Launch) (dC : Nat → ClassId) (dI : Nat → Nat → Nat) (h0 sz : Nat) : Met l yX1_init wsX1_init RI (va_Pc [.ref h0] (Pw (dC, dI) vwCl [] sz ([(h0, .inr (1, [.null, .null, .int 0, .int 0, .long 0]))]))) (va_Qv (S := Nat × Nat × ClassId × ClassId) (fun _ => True) (fun u t => va_P (dC, dI) vwCl (w1 h0 u.1 u.2.1 u.2.2.1 u.2.2.2 (fun _ => 0) (fun _ => 0) (nI 0) (nI 0) 0) t.heap ∧ va_K (dC, dI) vwCl (ty1 u.2.2.1 u.2.2.2) t ∧ va_D (va_A ([(h0, .inr (1, [.null, .null, .int 0, .int 0, .long 0]))]) sz) (w1 h0 u.1 u.2.1 u.2.2.1 u.2.2.2 (fun _ => 0) (fun _ => 0) (nI 0) (nI 0) 0)) (va_A ([(h0, .inr (1, [.null, .null, .int 0, .int 0, .long 0]))]) sz)) 2 2000 (va_A ([(h0, .inr (1, [.null, .null, .int 0, .int 0, .long 0]))]) sz) := by
  refine Met.ofW (cc := cX1_init) (maxL := 1) (ret := none) (by decide) rfl ?_
  intro p e s m args below meth c s₁ B hml hv
  obtain ⟨rfl, hsz, hP, hK, hD0⟩ := hv
  have hx := B.exec
  have hb := B.bytes
  have hr := B.returns
  have hts := atoms_spec (ws := wsX1_init) B.pre
  have hown : s.vm.findClass RX1 = some m.cls := findClass_of_methodNamed B.named
  have hlocks := B.notSynchronized
  have hin : meth.name = "<init>" := (name_of_methodNamed B.named B.method).1
  have hin0 : ∀ w ∈ wsX10, w ∈ wsX1_init := by decide +kernel
  subst hsz
  have hD := hD0.self (sz := s.heap.size)
  generalize hAe : va_A ([(h0, .inr (1, [.null, .null, .int 0, .int 0, .long 0]))]) s.heap.size = A at hD ⊢
  have hA : ∀ q : Nat, s.heap.size ≤ q → A q := fun q h => by rw [← hAe]; exact Or.inr h
  have hS : va_S A s.heap s.heap [] := va_S.rf
  have hP : va_P (dC, dI) vwCl ([(h0, .inr (1, [.null, .null, .int 0, .int 0, .long 0]))]) s.heap := hP
  have hl := lv_entry ([.ref h0]) (n := 1) (Nat.le_of_ble_eq_true rfl)
  rw [lg_entry_eq]
  generalize (lg_sl ([.ref h0]) ++ List.replicate (1 - (lg_sl ([.ref h0])).length) Slot.unset).toArray = ls at hl ⊢
  have hl : lv_has ls 1 [(0, .ref h0)] := hl
  refine lv_aload_n hx hb dX1_init_0 rfl (lv_at hl 0 rfl) ?_
  refine W.objInit hx hb hown (hts (.methodLink RX1 1 objectInit) (by decide +kernel)) (hts (.instanceMethod objectInit) (by decide +kernel)) (hts _ (List.mem_cons_of_mem _ (List.mem_append_left _ (List.mem_of_getElem? (i := 2) rfl)))) rfl (by rw [hml]; exact hl.1) rfl dX1_init_1 (Nat.le_of_ble_eq_true rfl) (Nat.le_of_ble_eq_true rfl) ?_
  refine W.eq (g2 := F0 m 4 ls []) rfl ?_
  refine lv_aload_n hx hb dX1_init_4 rfl (lv_at hl 0 rfl) ?_
  refine lv_sipush (v := 1000) hx hb dX1_init_5 (by decide) ?_
  refine va_newa hx hb (atype := .byte) (hts (.arrayClass .byte) (by decide +kernel)) (ty := .byte) rfl hK hP hD hS hA (n := 1000) (N' := 1000) (a0 := (1000, .inl (fun _ => 0))) (fun cA => rfl) (by decide) (by decide) (by decide) (Nat.le_of_ble_eq_true rfl) (Nat.le_of_ble_eq_true rfl) dX1_init_8 (fun ar cA H hK hP hD hS => ?_)
  have hP : va_P (dC, dI) vwCl ([(h0, .inr (1, [.null, .null, .int 0, .int 0, .long 0])), (ar, .inl (cA, 1000, .inl (fun _ => 0)))]) H := hP
  have hD : va_D A ([(h0, .inr (1, [.null, .null, .int 0, .int 0, .long 0])), (ar, .inl (cA, 1000, .inl (fun _ => 0)))]) := hD
  have hK : va_K (dC, dI) vwCl [(cA, .byte)] s := hK
  refine va_putF (D := (dC, dI)) (ci := 1) (v := .ref ar) (ty := .array .byte) (C := RX1) (T := TX1) (N := 5) hx hb hts hin0 tyX1 tyX1_ok nmX1 hown hK hP hD hS 0 rfl rfl 0 (by decide) (hts (.fieldLink RX1 9 "GroupedNumbersModel" "row" "[B") (by decide +kernel)) (fun _ h9 => h9) rfl hin rfl (by decide +kernel) rfl rfl (Nat.le_of_ble_eq_true rfl) dX1_init_10 (fun H locs hP hD hS => ?_)
  have hP : va_P (dC, dI) vwCl ([(h0, .inr (1, [.ref ar, .null, .int 0, .int 0, .long 0])), (ar, .inl (cA, 1000, .inl (fun _ => 0)))]) H := hP
  have hD : va_D A ([(h0, .inr (1, [.ref ar, .null, .int 0, .int 0, .long 0])), (ar, .inl (cA, 1000, .inl (fun _ => 0)))]) := hD
  refine lv_aload_n hx hb dX1_init_13 rfl (lv_at hl 0 rfl) ?_
  refine lv_sipush (v := 1000) hx hb dX1_init_14 (by decide) ?_
  refine va_newa hx hb (atype := .byte) (hts (.arrayClass .byte) (by decide +kernel)) (ty := .byte) rfl hK hP hD hS hA (n := 1000) (N' := 1000) (a0 := (1000, .inl (fun _ => 0))) (fun cA => rfl) (by decide) (by decide) (by decide) (Nat.le_of_ble_eq_true rfl) (Nat.le_of_ble_eq_true rfl) dX1_init_17 (fun ao cB H hK hP hD hS => ?_)
  have hP : va_P (dC, dI) vwCl ([(h0, .inr (1, [.ref ar, .null, .int 0, .int 0, .long 0])), (ar, .inl (cA, 1000, .inl (fun _ => 0))), (ao, .inl (cB, 1000, .inl (fun _ => 0)))]) H := hP
  have hD : va_D A ([(h0, .inr (1, [.ref ar, .null, .int 0, .int 0, .long 0])), (ar, .inl (cA, 1000, .inl (fun _ => 0))), (ao, .inl (cB, 1000, .inl (fun _ => 0)))]) := hD
  have hK : va_K (dC, dI) vwCl [(cA, .byte), (cB, .byte)] s := hK
  refine va_putF (D := (dC, dI)) (ci := 1) (v := .ref ao) (ty := .array .byte) (C := RX1) (T := TX1) (N := 5) hx hb hts hin0 tyX1 tyX1_ok nmX1 hown hK hP hD hS 0 rfl rfl 1 (by decide) (hts (.fieldLink RX1 13 "GroupedNumbersModel" "out" "[B") (by decide +kernel)) (fun _ h9 => h9) rfl hin rfl (by decide +kernel) rfl rfl (Nat.le_of_ble_eq_true rfl) dX1_init_19 (fun H locs hP hD hS => ?_)
  have hP : va_P (dC, dI) vwCl ([(h0, .inr (1, [.ref ar, .ref ao, .int 0, .int 0, .long 0])), (ar, .inl (cA, 1000, .inl (fun _ => 0))), (ao, .inl (cB, 1000, .inl (fun _ => 0)))]) H := hP
  have hD : va_D A ([(h0, .inr (1, [.ref ar, .ref ao, .int 0, .int 0, .long 0])), (ar, .inl (cA, 1000, .inl (fun _ => 0))), (ao, .inl (cB, 1000, .inl (fun _ => 0)))]) := hD
  refine W.widen (k := 2) (n := 2000) (by decide) (by decide) ?_
  exact W.vret hx hb hr (fun t ht hW => ⟨⟨(ar, ao, cA, cB), rfl, trivial, by rw [ht]; exact hP, va_K.moved hW.alike hK, hD⟩, hS.F ht⟩) hS.2.2 dX1_init_22
end
section
-- ===== end of PART A; then your names; then what follows =====
/-! THE CLAIM OUT OF ONE WALK OF THE LAW'S BODY. Your part is whole_start (and what it stands on); all else here is the same for every law, but numbers. -/
def R_law : String := "GroupedNumbersLaw"
def lw_P (b : Addr) (xs : List Int32) (args : Array Value) (s : State) : Prop := args = #[.ref b] ∧ s.IntsAt b xs ∧ xs.length ≤ 3072 ∧ (Jvm.Cond.and given_1 narrow_1).before args s = true
def lw_Q (_ : Array Value) (s : State) (o : Outcome) (t : State) : Prop := o = .returned (some (.int 1)) ∧ Framed s o t [] 6 4010
def lw_Z (below : List Frame) (a : Array Value) (s : State) : State → Prop := fun t => ∃ o, t.status = .running ∧ Ended t below o ∧ lw_Q a s o t
/-- the law's own end, with 1 on the stack, nothing written that was there before, its room as the claim has it -/
theorem lw_ret {p : Program} {l : Launch} {e : Env} {s : State} {m : MethodId} {below : List Frame} {meth : Method} {c : Code} {b : Nat} (hx : p.tables.exec = Jvm.exec) (hb : c.code = code) (hr : meth.sig.returnType = ret) (hlocks : meth.locks = false) {pc : Nat} {H : Heap} {ls : Array Slot} (hdg : decode code pc = .ok (.ireturn, 1)) : W p l e room_1 s m #[Value.ref b] below meth c H [] 6 4010 (lw_Z below #[Value.ref b] s) (F0 m pc ls [.int 1]) := by
  intro T hT X
  obtain ⟨fs, hret, hrun, hended, hW, hframe⟩ := X.leave (v := some (.int 1)) (hlocks := hlocks) (fun h => by rw [hr] at h; cases h)
  have hmeth' : T.vm.method? m = some meth := X.method'
  refine ⟨T.setFrames fs, ?_, .returned (some (.int 1)), hrun, hended, rfl, ⟨_, rfl⟩, hW, hframe⟩
  jvm_step X.here [X.here.top, hx, hb, hdg, hmeth', hr, ret, narrow_b1]
  (try refine ⟨rfl, ?_⟩); (try refine ⟨rfl, ?_⟩)
  first | (intro acts; rw [hret _ acts rfl rfl rfl]) | rw [hret _ _ rfl rfl rfl]
  exact Steps.refl _
/-- what holds at the law's entry: the machine, the code, the tables' words (any of lw_tbl by 'hts w (by decide +kernel)'), the script of L ints xs at the cell b, what the Statement gives of the start (any of its parts by flat_of_before) -/
def lw_At (p : Program) (s : State) (m : MethodId) (meth : Method) (c : Code) (b L : Nat) (xs : Nat → Int32) : Prop :=
  p.tables.exec = Jvm.exec ∧ c.code = code ∧ meth.sig.returnType = ret ∧ c.maxLocals = 4 ∧ s.vm.findClass R_law = some m.cls ∧ (∀ w ∈ lw_tbl, w.before #[Value.ref b] s = true) ∧ va_X b L xs s s.heap ∧ b < s.heap.size ∧ meth.locks = false ∧ (Jvm.Cond.and given_1 narrow_1).before #[Value.ref b] s = true

theorem gg_feed_bd {t : Nat → Nat} {n : Nat} {a b c d f : Int32} (hn : n ≤ 1000) : (gg_feed t n a b c d f).2.1 ≤ 1000 := by
  unfold gg_feed
  split
  · assumption
  · exact hn
theorem gg_write_bd {a : Int32} {x : Int64} {k : Nat} {z : Nat → Nat} (hk : k ≤ 1000) : (gg_write a x k z).2.1 ≤ 1000 := by
  unfold gg_write
  split
  · split
    · split
      · assumption
      · exact hk
    · exact hk
  · exact hk
theorem gg_cmp_T {L i : Nat} (hL : L ≤ 3072) (hi : i ≤ L) (h : ¬ Int32.ofNat L - nI 6 < nI i) : i + 6 ≤ L := by
  rw [Int32.lt_iff_toInt_lt, show Int32.ofNat L = nI L from rfl, pk_sub_toInt (by omega) (by decide), nI_toInt (by omega)] at h
  omega

set_option maxHeartbeats 4000000 in
set_option maxRecDepth 100000 in
/-- the law's loop: at its head both objects hold the same row, the same output, the same value -/
theorem law_loop {p : Program} {l : Launch} {e : Env} {s : State} {m : MethodId} {below : List Frame} {meth : Method} {c : Code} {dC : Nat → ClassId} {dI : Nat → Nat → Nat} {b L : Nat} {xs : Nat → Int32} (hL : L ≤ 3072) (C0 : lw_At p s m meth c b L xs) {a0 ar ao b0 br bo : Nat} {cA cB cC cD : ClassId} (hK : va_K (dC, dI) vwCl (ty0 cA cB ++ ty1 cC cD) s) :
    ∀ (f i : Nat) (t z : Nat → Nat) (n k : Nat) (v : Int64) (g o gm om : Nat → Int32) (H : Heap) (locs : List Loc) (ls : Array Slot), i ≤ L → L + 1 ≤ i + f → n ≤ 1000 → k ≤ 1000 → gg_I t n g → gg_I z k o → sb_Lat t n gm → sb_Lat z k om → va_P (dC, dI) vwCl (w0 a0 ar ao cA cB g o (nI n) (nI k) v ++ w1 b0 br bo cC cD gm om (nI n) (nI k) v) H → va_D (fun q : Nat => s.heap.size ≤ q) (w0 a0 ar ao cA cB g o (nI n) (nI k) v ++ w1 b0 br bo cC cD gm om (nI n) (nI k) v) → va_S (fun q : Nat => s.heap.size ≤ q) s.heap H locs → lv_has ls 4 [(0, .ref b), (1, .ref a0), (2, .ref b0), (3, .int (nI i))] → W p l e room_1 s m #[Value.ref b] below meth c H locs 6 4010 (lw_Z below #[Value.ref b] s) (F0 m 18 ls []) := by
  obtain ⟨hx, hb, hr, hml, hown, hts0, hX, hbl, hlocks, hgv⟩ := C0
  have hb : c.code = cL_law := hb
  have hown : s.vm.findClass RL = some m.cls := hown
  have hts : ∀ w ∈ wsL_law, w.before #[Value.ref b] s = true := fun w h => hts0 w (wsL_law_in w h)
  have hA : ∀ q : Nat, s.heap.size ≤ q → (fun q : Nat => s.heap.size ≤ q) q := fun _ h => h
  have hbA : ¬ (fun q : Nat => s.heap.size ≤ q) b := Nat.not_le.mpr hbl
  have hK0 := hK.sub (tys' := ty0 cA cB) [0, 1] rfl
  have hK1 := hK.sub (tys' := ty1 cC cD) [2, 3] rfl
  intro f
  induction f with
  | zero => intro i t z n k v g o gm om H locs ls h1 h2
            exact absurd h2 (by omega)
  | succ f ih =>
    intro i t z n k v g o gm om H locs ls hi hf hn hk hI hO hJ hU hP hD hS hl
    refine lv_iload_n hx hb dL_law_18 rfl (lv_at hl 3 rfl) ?_
    refine lv_aload_n hx hb dL_law_19 rfl (lv_at hl 0 rfl) ?_
    refine va_slen hx hb hX hbl hbA hS dL_law_20 ?_
    refine lv_bipush (v := nI 6) hx hb dL_law_21 (by decide) ?_
    refine lv_isub hx hb dL_law_23 ?_
    refine lv_icmp_gt (tgt := 329) hx hb dL_law_24 (by decide) (fun c_1 => ?_) (fun c_1 => ?_)
    · refine lv_iconst (v := 1) hx hb dL_law_329 (by decide) ?_
      refine va_forget (fun q hq => hS.2.2 q hq) ?_
      refine W.widen (k := 6) (n := 4010) (Nat.le_refl _) (Nat.le_refl _) ?_
      exact lw_ret hx hb hr hlocks dL_law_330
    · have h6 : i + 6 ≤ L := gg_cmp_T hL hi c_1
      refine lv_aload_n hx hb dL_law_27 rfl (lv_at hl 0 rfl) ?_
      refine lv_iload_n hx hb dL_law_28 rfl (lv_at hl 3 rfl) ?_
      refine va_sld hx hb hX hbl hbA hS (vp_in_nI (show i < L by omega) (by omega)) dL_law_29 ?_
      refine lv_topi (fun z_2 ez_2 => ?_)
      have ez_2 : z_2 = xs (i) := by rw [ez_2]; rw [nI_clamp (show i < 2 ^ 31 by omega)]
      subst ez_2
      refine lv_bipush (v := 7) hx hb dL_law_30 (by decide) ?_
      refine lv_iand hx hb dL_law_32 ?_
      obtain ⟨q, hq, eq⟩ := pk_andE (xs i) (m := 7) 3 (by decide)
      refine lv_topi (fun z_3 ez_3 => ?_)
      have ez_3 : z_3 = nI q := by rw [ez_3]; exact eq
      subst ez_3
      have hq8 : q < 8 := hq
      rcases (show q = 0 ∨ q = 1 ∨ q = 2 ∨ q = 3 ∨ q = 4 ∨ q = 5 ∨ q = 6 ∨ q = 7 by omega) with rfl | rfl | rfl | rfl | rfl | rfl | rfl | rfl
      · refine lv_tableIn (off := 47) (tgt := 80) hx hb dL_law_33 (by decide) (by decide) (by decide +kernel) (by decide) ?_
        refine lv_aload_n hx hb dL_law_80 rfl (lv_at hl 1 rfl) ?_
        refine lv_aload_n hx hb dL_law_81 rfl (lv_at hl 0 rfl) ?_
        refine lv_iload_n hx hb dL_law_82 rfl (lv_at hl 3 rfl) ?_
        refine lv_iconst (v := nI 1) hx hb dL_law_83 (by decide) ?_
        refine lv_iadd hx hb dL_law_84 ?_
        refine lv_topi (fun z_4 ez_4 => ?_)
        have ez_4 : z_4 = nI (i + 1) := by rw [ez_4]; exact nI_add i 1
        subst ez_4
        refine va_sld hx hb hX hbl hbA hS (vp_in_nI (show i + 1 < L by omega) (by omega)) dL_law_85 ?_
        refine lv_topi (fun z_5 ez_5 => ?_)
        have ez_5 : z_5 = xs (i + 1) := by rw [ez_5]; rw [nI_clamp (show i + 1 < 2 ^ 31 by omega)]
        subst ez_5
        refine lv_aload_n hx hb dL_law_86 rfl (lv_at hl 0 rfl) ?_
        refine lv_iload_n hx hb dL_law_87 rfl (lv_at hl 3 rfl) ?_
        refine lv_iconst (v := nI 2) hx hb dL_law_88 (by decide) ?_
        refine lv_iadd hx hb dL_law_89 ?_
        refine lv_topi (fun z_6 ez_6 => ?_)
        have ez_6 : z_6 = nI (i + 2) := by rw [ez_6]; exact nI_add i 2
        subst ez_6
        refine va_sld hx hb hX hbl hbA hS (vp_in_nI (show i + 2 < L by omega) (by omega)) dL_law_90 ?_
        refine lv_topi (fun z_7 ez_7 => ?_)
        have ez_7 : z_7 = xs (i + 2) := by rw [ez_7]; rw [nI_clamp (show i + 2 < 2 ^ 31 by omega)]
        subst ez_7
        refine lv_aload_n hx hb dL_law_91 rfl (lv_at hl 0 rfl) ?_
        refine lv_iload_n hx hb dL_law_92 rfl (lv_at hl 3 rfl) ?_
        refine lv_iconst (v := nI 3) hx hb dL_law_93 (by decide) ?_
        refine lv_iadd hx hb dL_law_94 ?_
        refine lv_topi (fun z_8 ez_8 => ?_)
        have ez_8 : z_8 = nI (i + 3) := by rw [ez_8]; exact nI_add i 3
        subst ez_8
        refine va_sld hx hb hX hbl hbA hS (vp_in_nI (show i + 3 < L by omega) (by omega)) dL_law_95 ?_
        refine lv_topi (fun z_9 ez_9 => ?_)
        have ez_9 : z_9 = xs (i + 3) := by rw [ez_9]; rw [nI_clamp (show i + 3 < 2 ^ 31 by omega)]
        subst ez_9
        refine lv_aload_n hx hb dL_law_96 rfl (lv_at hl 0 rfl) ?_
        refine lv_iload_n hx hb dL_law_97 rfl (lv_at hl 3 rfl) ?_
        refine lv_iconst (v := nI 4) hx hb dL_law_98 (by decide) ?_
        refine lv_iadd hx hb dL_law_99 ?_
        refine lv_topi (fun z_10 ez_10 => ?_)
        have ez_10 : z_10 = nI (i + 4) := by rw [ez_10]; exact nI_add i 4
        subst ez_10
        refine va_sld hx hb hX hbl hbA hS (vp_in_nI (show i + 4 < L by omega) (by omega)) dL_law_100 ?_
        refine lv_topi (fun z_11 ez_11 => ?_)
        have ez_11 : z_11 = xs (i + 4) := by rw [ez_11]; rw [nI_clamp (show i + 4 < 2 ^ 31 by omega)]
        subst ez_11
        refine lv_aload_n hx hb dL_law_101 rfl (lv_at hl 0 rfl) ?_
        refine lv_iload_n hx hb dL_law_102 rfl (lv_at hl 3 rfl) ?_
        refine lv_iconst (v := nI 5) hx hb dL_law_103 (by decide) ?_
        refine lv_iadd hx hb dL_law_104 ?_
        refine lv_topi (fun z_12 ez_12 => ?_)
        have ez_12 : z_12 = nI (i + 5) := by rw [ez_12]; exact nI_add i 5
        subst ez_12
        refine va_sld hx hb hX hbl hbA hS (vp_in_nI (show i + 5 < L by omega) (by omega)) dL_law_105 ?_
        refine lv_topi (fun z_13 ez_13 => ?_)
        have ez_13 : z_13 = xs (i + 5) := by rw [ez_13]; rw [nI_clamp (show i + 5 < 2 ^ 31 by omega)]
        subst ez_13
        refine cc_mi (av := [.int (xs (i + 1)), .int (xs (i + 2)), .int (xs (i + 3)), .int (xs (i + 4)), .int (xs (i + 5))]) (rest := []) [0, 1, 2] [3, 4, 5] ⟨hx, hb, hml, hown, hts⟩ (c_X0_feed l dC dI a0 ar ao cA cB H.size g o n k v t z (xs (i + 1)) (xs (i + 2)) (xs (i + 3)) (xs (i + 4)) (xs (i + 5)) hI hO hn hk) (cwV 5 hts gL_law_X0_feed rfl rfl rfl (by decide +kernel) ⟨Nat.le_of_ble_eq_true rfl, Nat.le_of_ble_eq_true rfl⟩) hP hD hS hA hK0 (wr := w1 b0 br bo cC cD gm om (nI n) (nI k) v) rfl rfl (by decide) (by decide) (by decide) (ci := 0) rfl rfl rfl hl.1 rfl (Nat.le_of_ble_eq_true rfl) dL_law_106 ⟨Nat.le_of_ble_eq_true rfl, Nat.le_of_ble_eq_true rfl⟩ (fun r u H locs hw hP hD hS => ?_)
        obtain ⟨g1, o1, n1, k1, v1⟩ := u
        obtain ⟨hr1, hI1, hO1, en, ek, ev⟩ := hw
        dsimp only at hI1 hO1 en ek ev
        subst en
        subst ek
        have ev := ev.symm
        subst ev
        have hP : va_P (dC, dI) vwCl (w1 b0 br bo cC cD gm om (nI n) (nI k) v ++ w0 a0 ar ao cA cB g1 o1 (nI ((gg_feed t n (xs (i + 1)) (xs (i + 2)) (xs (i + 3)) (xs (i + 4)) (xs (i + 5))).2.1)) (nI (k)) v) H := hP
        have hD : va_D (fun q : Nat => s.heap.size ≤ q) (w1 b0 br bo cC cD gm om (nI n) (nI k) v ++ w0 a0 ar ao cA cB g1 o1 (nI ((gg_feed t n (xs (i + 1)) (xs (i + 2)) (xs (i + 3)) (xs (i + 4)) (xs (i + 5))).2.1)) (nI (k)) v) := hD
        subst hr1
        refine lv_aload_n hx hb dL_law_109 rfl (lv_at hl 2 rfl) ?_
        refine lv_aload_n hx hb dL_law_110 rfl (lv_at hl 0 rfl) ?_
        refine lv_iload_n hx hb dL_law_111 rfl (lv_at hl 3 rfl) ?_
        refine lv_iconst (v := nI 1) hx hb dL_law_112 (by decide) ?_
        refine lv_iadd hx hb dL_law_113 ?_
        refine lv_topi (fun z_14 ez_14 => ?_)
        have ez_14 : z_14 = nI (i + 1) := by rw [ez_14]; exact nI_add i 1
        subst ez_14
        refine va_sld hx hb hX hbl hbA hS (vp_in_nI (show i + 1 < L by omega) (by omega)) dL_law_114 ?_
        refine lv_topi (fun z_15 ez_15 => ?_)
        have ez_15 : z_15 = xs (i + 1) := by rw [ez_15]; rw [nI_clamp (show i + 1 < 2 ^ 31 by omega)]
        subst ez_15
        refine lv_aload_n hx hb dL_law_115 rfl (lv_at hl 0 rfl) ?_
        refine lv_iload_n hx hb dL_law_116 rfl (lv_at hl 3 rfl) ?_
        refine lv_iconst (v := nI 2) hx hb dL_law_117 (by decide) ?_
        refine lv_iadd hx hb dL_law_118 ?_
        refine lv_topi (fun z_16 ez_16 => ?_)
        have ez_16 : z_16 = nI (i + 2) := by rw [ez_16]; exact nI_add i 2
        subst ez_16
        refine va_sld hx hb hX hbl hbA hS (vp_in_nI (show i + 2 < L by omega) (by omega)) dL_law_119 ?_
        refine lv_topi (fun z_17 ez_17 => ?_)
        have ez_17 : z_17 = xs (i + 2) := by rw [ez_17]; rw [nI_clamp (show i + 2 < 2 ^ 31 by omega)]
        subst ez_17
        refine lv_aload_n hx hb dL_law_120 rfl (lv_at hl 0 rfl) ?_
        refine lv_iload_n hx hb dL_law_121 rfl (lv_at hl 3 rfl) ?_
        refine lv_iconst (v := nI 3) hx hb dL_law_122 (by decide) ?_
        refine lv_iadd hx hb dL_law_123 ?_
        refine lv_topi (fun z_18 ez_18 => ?_)
        have ez_18 : z_18 = nI (i + 3) := by rw [ez_18]; exact nI_add i 3
        subst ez_18
        refine va_sld hx hb hX hbl hbA hS (vp_in_nI (show i + 3 < L by omega) (by omega)) dL_law_124 ?_
        refine lv_topi (fun z_19 ez_19 => ?_)
        have ez_19 : z_19 = xs (i + 3) := by rw [ez_19]; rw [nI_clamp (show i + 3 < 2 ^ 31 by omega)]
        subst ez_19
        refine lv_aload_n hx hb dL_law_125 rfl (lv_at hl 0 rfl) ?_
        refine lv_iload_n hx hb dL_law_126 rfl (lv_at hl 3 rfl) ?_
        refine lv_iconst (v := nI 4) hx hb dL_law_127 (by decide) ?_
        refine lv_iadd hx hb dL_law_128 ?_
        refine lv_topi (fun z_20 ez_20 => ?_)
        have ez_20 : z_20 = nI (i + 4) := by rw [ez_20]; exact nI_add i 4
        subst ez_20
        refine va_sld hx hb hX hbl hbA hS (vp_in_nI (show i + 4 < L by omega) (by omega)) dL_law_129 ?_
        refine lv_topi (fun z_21 ez_21 => ?_)
        have ez_21 : z_21 = xs (i + 4) := by rw [ez_21]; rw [nI_clamp (show i + 4 < 2 ^ 31 by omega)]
        subst ez_21
        refine lv_aload_n hx hb dL_law_130 rfl (lv_at hl 0 rfl) ?_
        refine lv_iload_n hx hb dL_law_131 rfl (lv_at hl 3 rfl) ?_
        refine lv_iconst (v := nI 5) hx hb dL_law_132 (by decide) ?_
        refine lv_iadd hx hb dL_law_133 ?_
        refine lv_topi (fun z_22 ez_22 => ?_)
        have ez_22 : z_22 = nI (i + 5) := by rw [ez_22]; exact nI_add i 5
        subst ez_22
        refine va_sld hx hb hX hbl hbA hS (vp_in_nI (show i + 5 < L by omega) (by omega)) dL_law_134 ?_
        refine lv_topi (fun z_23 ez_23 => ?_)
        have ez_23 : z_23 = xs (i + 5) := by rw [ez_23]; rw [nI_clamp (show i + 5 < 2 ^ 31 by omega)]
        subst ez_23
        refine cc_mi (av := [.int (xs (i + 1)), .int (xs (i + 2)), .int (xs (i + 3)), .int (xs (i + 4)), .int (xs (i + 5))]) (rest := [.int ((gg_feed t n (xs (i + 1)) (xs (i + 2)) (xs (i + 3)) (xs (i + 4)) (xs (i + 5))).1)]) [0, 1, 2] [3, 4, 5] ⟨hx, hb, hml, hown, hts⟩ (c_X1_feed l dC dI b0 br bo cC cD H.size gm om n k v t z (xs (i + 1)) (xs (i + 2)) (xs (i + 3)) (xs (i + 4)) (xs (i + 5)) hJ hU hn hk) (cwV 5 hts gL_law_X1_feed rfl rfl rfl (by decide +kernel) ⟨Nat.le_of_ble_eq_true rfl, Nat.le_of_ble_eq_true rfl⟩) hP hD hS hA hK1 (wr := w0 a0 ar ao cA cB g1 o1 (nI ((gg_feed t n (xs (i + 1)) (xs (i + 2)) (xs (i + 3)) (xs (i + 4)) (xs (i + 5))).2.1)) (nI (k)) v) rfl rfl (by decide) (by decide) (by decide) (ci := 1) rfl rfl rfl hl.1 rfl (Nat.le_of_ble_eq_true rfl) dL_law_135 ⟨Nat.le_of_ble_eq_true rfl, Nat.le_of_ble_eq_true rfl⟩ (fun r u H locs hw hP hD hS => ?_)
        obtain ⟨gm1, om1, n1, k1, v1⟩ := u
        obtain ⟨hr2, hJ1, hU1, en, ek, ev⟩ := hw
        dsimp only at hJ1 hU1 en ek ev
        subst en
        subst ek
        have ev := ev.symm
        subst ev
        have hP : va_P (dC, dI) vwCl (w0 a0 ar ao cA cB g1 o1 (nI ((gg_feed t n (xs (i + 1)) (xs (i + 2)) (xs (i + 3)) (xs (i + 4)) (xs (i + 5))).2.1)) (nI (k)) v ++ w1 b0 br bo cC cD gm1 om1 (nI ((gg_feed t n (xs (i + 1)) (xs (i + 2)) (xs (i + 3)) (xs (i + 4)) (xs (i + 5))).2.1)) (nI (k)) v) H := hP
        have hD : va_D (fun q : Nat => s.heap.size ≤ q) (w0 a0 ar ao cA cB g1 o1 (nI ((gg_feed t n (xs (i + 1)) (xs (i + 2)) (xs (i + 3)) (xs (i + 4)) (xs (i + 5))).2.1)) (nI (k)) v ++ w1 b0 br bo cC cD gm1 om1 (nI ((gg_feed t n (xs (i + 1)) (xs (i + 2)) (xs (i + 3)) (xs (i + 4)) (xs (i + 5))).2.1)) (nI (k)) v) := hD
        refine lv_icmp_eq (tgt := 323) hx hb dL_law_138 (by decide) (fun c_24 => ?_) (fun c_24 => ?_)
        · refine lv_iinc (v := nI (i + 6)) (lv' := [(3, .int (nI (i + 6))), (0, .ref b), (1, .ref a0), (2, .ref b0)]) hx hb dL_law_323 hl (k := 3) rfl (show nI i + 6 = nI (i + 6) from nI_add i 6) (by decide) rfl (fun ls hl => ?_)
          refine lv_goto (tgt := 18) hx hb dL_law_326 (by decide) ?_
          exact ih (i + 6) ((gg_feed t n (xs (i + 1)) (xs (i + 2)) (xs (i + 3)) (xs (i + 4)) (xs (i + 5))).2.2) (z) ((gg_feed t n (xs (i + 1)) (xs (i + 2)) (xs (i + 3)) (xs (i + 4)) (xs (i + 5))).2.1) (k) _ g1 o1 gm1 om1 H locs ls (by omega) (by omega) (gg_feed_bd hn) (hk) hI1 hO1 hJ1 hU1 hP hD hS (lv_sub hl [1, 2, 3, 0] rfl)
        · exact absurd hr2.symm c_24
      · refine lv_tableIn (off := 110) (tgt := 143) hx hb dL_law_33 (by decide) (by decide) (by decide +kernel) (by decide) ?_
        refine lv_aload_n hx hb dL_law_143 rfl (lv_at hl 1 rfl) ?_
        refine lv_aload_n hx hb dL_law_144 rfl (lv_at hl 0 rfl) ?_
        refine lv_iload_n hx hb dL_law_145 rfl (lv_at hl 3 rfl) ?_
        refine lv_iconst (v := nI 1) hx hb dL_law_146 (by decide) ?_
        refine lv_iadd hx hb dL_law_147 ?_
        refine lv_topi (fun z_25 ez_25 => ?_)
        have ez_25 : z_25 = nI (i + 1) := by rw [ez_25]; exact nI_add i 1
        subst ez_25
        refine va_sld hx hb hX hbl hbA hS (vp_in_nI (show i + 1 < L by omega) (by omega)) dL_law_148 ?_
        refine lv_topi (fun z_26 ez_26 => ?_)
        have ez_26 : z_26 = xs (i + 1) := by rw [ez_26]; rw [nI_clamp (show i + 1 < 2 ^ 31 by omega)]
        subst ez_26
        refine cc_mi (av := [.int (xs (i + 1))]) (rest := []) [0, 1, 2] [3, 4, 5] ⟨hx, hb, hml, hown, hts⟩ (c_X0_end l dC dI a0 ar ao cA cB H.size g o n k v t z (xs (i + 1)) hI hO hn hk) (cwV 1 hts gL_law_X0_end rfl rfl rfl (by decide +kernel) ⟨Nat.le_of_ble_eq_true rfl, Nat.le_of_ble_eq_true rfl⟩) hP hD hS hA hK0 (wr := w1 b0 br bo cC cD gm om (nI n) (nI k) v) rfl rfl (by decide) (by decide) (by decide) (ci := 0) rfl rfl rfl hl.1 rfl (Nat.le_of_ble_eq_true rfl) dL_law_149 ⟨Nat.le_of_ble_eq_true rfl, Nat.le_of_ble_eq_true rfl⟩ (fun r u H locs hw hP hD hS => ?_)
        obtain ⟨g1, o1, n1, k1, v1⟩ := u
        obtain ⟨hr1, hI1, hO1, en, ek, ev⟩ := hw
        dsimp only at hI1 hO1 en ek ev
        subst en
        subst ek
        have ev := ev.symm
        subst ev
        have hP : va_P (dC, dI) vwCl (w1 b0 br bo cC cD gm om (nI n) (nI k) v ++ w0 a0 ar ao cA cB g1 o1 (nI ((gg_end (xs (i + 1)) n).2)) (nI (k)) v) H := hP
        have hD : va_D (fun q : Nat => s.heap.size ≤ q) (w1 b0 br bo cC cD gm om (nI n) (nI k) v ++ w0 a0 ar ao cA cB g1 o1 (nI ((gg_end (xs (i + 1)) n).2)) (nI (k)) v) := hD
        subst hr1
        refine lv_aload_n hx hb dL_law_152 rfl (lv_at hl 2 rfl) ?_
        refine lv_aload_n hx hb dL_law_153 rfl (lv_at hl 0 rfl) ?_
        refine lv_iload_n hx hb dL_law_154 rfl (lv_at hl 3 rfl) ?_
        refine lv_iconst (v := nI 1) hx hb dL_law_155 (by decide) ?_
        refine lv_iadd hx hb dL_law_156 ?_
        refine lv_topi (fun z_27 ez_27 => ?_)
        have ez_27 : z_27 = nI (i + 1) := by rw [ez_27]; exact nI_add i 1
        subst ez_27
        refine va_sld hx hb hX hbl hbA hS (vp_in_nI (show i + 1 < L by omega) (by omega)) dL_law_157 ?_
        refine lv_topi (fun z_28 ez_28 => ?_)
        have ez_28 : z_28 = xs (i + 1) := by rw [ez_28]; rw [nI_clamp (show i + 1 < 2 ^ 31 by omega)]
        subst ez_28
        refine cc_mi (av := [.int (xs (i + 1))]) (rest := [.int ((gg_end (xs (i + 1)) n).1)]) [0, 1, 2] [3, 4, 5] ⟨hx, hb, hml, hown, hts⟩ (c_X1_end l dC dI b0 br bo cC cD H.size gm om n k v t z (xs (i + 1)) hJ hU hn hk) (cwV 1 hts gL_law_X1_end rfl rfl rfl (by decide +kernel) ⟨Nat.le_of_ble_eq_true rfl, Nat.le_of_ble_eq_true rfl⟩) hP hD hS hA hK1 (wr := w0 a0 ar ao cA cB g1 o1 (nI ((gg_end (xs (i + 1)) n).2)) (nI (k)) v) rfl rfl (by decide) (by decide) (by decide) (ci := 1) rfl rfl rfl hl.1 rfl (Nat.le_of_ble_eq_true rfl) dL_law_158 ⟨Nat.le_of_ble_eq_true rfl, Nat.le_of_ble_eq_true rfl⟩ (fun r u H locs hw hP hD hS => ?_)
        obtain ⟨gm1, om1, n1, k1, v1⟩ := u
        obtain ⟨hr2, hJ1, hU1, en, ek, ev⟩ := hw
        dsimp only at hJ1 hU1 en ek ev
        subst en
        subst ek
        have ev := ev.symm
        subst ev
        have hP : va_P (dC, dI) vwCl (w0 a0 ar ao cA cB g1 o1 (nI ((gg_end (xs (i + 1)) n).2)) (nI (k)) v ++ w1 b0 br bo cC cD gm1 om1 (nI ((gg_end (xs (i + 1)) n).2)) (nI (k)) v) H := hP
        have hD : va_D (fun q : Nat => s.heap.size ≤ q) (w0 a0 ar ao cA cB g1 o1 (nI ((gg_end (xs (i + 1)) n).2)) (nI (k)) v ++ w1 b0 br bo cC cD gm1 om1 (nI ((gg_end (xs (i + 1)) n).2)) (nI (k)) v) := hD
        refine lv_icmp_eq (tgt := 323) hx hb dL_law_161 (by decide) (fun c_29 => ?_) (fun c_29 => ?_)
        · refine lv_iinc (v := nI (i + 6)) (lv' := [(3, .int (nI (i + 6))), (0, .ref b), (1, .ref a0), (2, .ref b0)]) hx hb dL_law_323 hl (k := 3) rfl (show nI i + 6 = nI (i + 6) from nI_add i 6) (by decide) rfl (fun ls hl => ?_)
          refine lv_goto (tgt := 18) hx hb dL_law_326 (by decide) ?_
          exact ih (i + 6) (t) (z) ((gg_end (xs (i + 1)) n).2) (k) _ g1 o1 gm1 om1 H locs ls (by omega) (by omega) (Nat.le_trans (gg_end_bd hn) hn) (hk) hI1 hO1 hJ1 hU1 hP hD hS (lv_sub hl [1, 2, 3, 0] rfl)
        · exact absurd hr2.symm c_29
      · refine lv_tableIn (off := 133) (tgt := 166) hx hb dL_law_33 (by decide) (by decide) (by decide +kernel) (by decide) ?_
        refine lv_aload_n hx hb dL_law_166 rfl (lv_at hl 1 rfl) ?_
        refine lv_aload_n hx hb dL_law_167 rfl (lv_at hl 0 rfl) ?_
        refine lv_iload_n hx hb dL_law_168 rfl (lv_at hl 3 rfl) ?_
        refine lv_iconst (v := nI 1) hx hb dL_law_169 (by decide) ?_
        refine lv_iadd hx hb dL_law_170 ?_
        refine lv_topi (fun z_30 ez_30 => ?_)
        have ez_30 : z_30 = nI (i + 1) := by rw [ez_30]; exact nI_add i 1
        subst ez_30
        refine va_sld hx hb hX hbl hbA hS (vp_in_nI (show i + 1 < L by omega) (by omega)) dL_law_171 ?_
        refine lv_topi (fun z_31 ez_31 => ?_)
        have ez_31 : z_31 = xs (i + 1) := by rw [ez_31]; rw [nI_clamp (show i + 1 < 2 ^ 31 by omega)]
        subst ez_31
        refine lv_aload_n hx hb dL_law_172 rfl (lv_at hl 0 rfl) ?_
        refine lv_iload_n hx hb dL_law_173 rfl (lv_at hl 3 rfl) ?_
        refine lv_iconst (v := nI 2) hx hb dL_law_174 (by decide) ?_
        refine lv_iadd hx hb dL_law_175 ?_
        refine lv_topi (fun z_32 ez_32 => ?_)
        have ez_32 : z_32 = nI (i + 2) := by rw [ez_32]; exact nI_add i 2
        subst ez_32
        refine va_sld hx hb hX hbl hbA hS (vp_in_nI (show i + 2 < L by omega) (by omega)) dL_law_176 ?_
        refine lv_topi (fun z_33 ez_33 => ?_)
        have ez_33 : z_33 = xs (i + 2) := by rw [ez_33]; rw [nI_clamp (show i + 2 < 2 ^ 31 by omega)]
        subst ez_33
        refine cc_mi (av := [.int (xs (i + 1)), .int (xs (i + 2))]) (rest := []) [0, 1, 2] [3, 4, 5] ⟨hx, hb, hml, hown, hts⟩ (c_X0_read l dC dI a0 ar ao cA cB H.size g o n k v t z (xs (i + 1)) (xs (i + 2)) hI hO hn hk) (cwV 2 hts gL_law_X0_read rfl rfl rfl (by decide +kernel) ⟨Nat.le_of_ble_eq_true rfl, Nat.le_of_ble_eq_true rfl⟩) hP hD hS hA hK0 (wr := w1 b0 br bo cC cD gm om (nI n) (nI k) v) rfl rfl (by decide) (by decide) (by decide) (ci := 0) rfl rfl rfl hl.1 rfl (Nat.le_of_ble_eq_true rfl) dL_law_177 ⟨Nat.le_of_ble_eq_true rfl, Nat.le_of_ble_eq_true rfl⟩ (fun r u H locs hw hP hD hS => ?_)
        obtain ⟨g1, o1, n1, k1, v1⟩ := u
        obtain ⟨hr1, hI1, hO1, en, ek, ev⟩ := hw
        dsimp only at hI1 hO1 en ek ev
        subst en
        subst ek
        have ev := ev.symm
        subst ev
        have hP : va_P (dC, dI) vwCl (w1 b0 br bo cC cD gm om (nI n) (nI k) v ++ w0 a0 ar ao cA cB g1 o1 (nI (n)) (nI (k)) ((gg_read (xs (i + 1)) (xs (i + 2)) t n v).2)) H := hP
        have hD : va_D (fun q : Nat => s.heap.size ≤ q) (w1 b0 br bo cC cD gm om (nI n) (nI k) v ++ w0 a0 ar ao cA cB g1 o1 (nI (n)) (nI (k)) ((gg_read (xs (i + 1)) (xs (i + 2)) t n v).2)) := hD
        subst hr1
        refine lv_aload_n hx hb dL_law_180 rfl (lv_at hl 2 rfl) ?_
        refine lv_aload_n hx hb dL_law_181 rfl (lv_at hl 0 rfl) ?_
        refine lv_iload_n hx hb dL_law_182 rfl (lv_at hl 3 rfl) ?_
        refine lv_iconst (v := nI 1) hx hb dL_law_183 (by decide) ?_
        refine lv_iadd hx hb dL_law_184 ?_
        refine lv_topi (fun z_34 ez_34 => ?_)
        have ez_34 : z_34 = nI (i + 1) := by rw [ez_34]; exact nI_add i 1
        subst ez_34
        refine va_sld hx hb hX hbl hbA hS (vp_in_nI (show i + 1 < L by omega) (by omega)) dL_law_185 ?_
        refine lv_topi (fun z_35 ez_35 => ?_)
        have ez_35 : z_35 = xs (i + 1) := by rw [ez_35]; rw [nI_clamp (show i + 1 < 2 ^ 31 by omega)]
        subst ez_35
        refine lv_aload_n hx hb dL_law_186 rfl (lv_at hl 0 rfl) ?_
        refine lv_iload_n hx hb dL_law_187 rfl (lv_at hl 3 rfl) ?_
        refine lv_iconst (v := nI 2) hx hb dL_law_188 (by decide) ?_
        refine lv_iadd hx hb dL_law_189 ?_
        refine lv_topi (fun z_36 ez_36 => ?_)
        have ez_36 : z_36 = nI (i + 2) := by rw [ez_36]; exact nI_add i 2
        subst ez_36
        refine va_sld hx hb hX hbl hbA hS (vp_in_nI (show i + 2 < L by omega) (by omega)) dL_law_190 ?_
        refine lv_topi (fun z_37 ez_37 => ?_)
        have ez_37 : z_37 = xs (i + 2) := by rw [ez_37]; rw [nI_clamp (show i + 2 < 2 ^ 31 by omega)]
        subst ez_37
        refine cc_mi (av := [.int (xs (i + 1)), .int (xs (i + 2))]) (rest := [.int ((gg_read (xs (i + 1)) (xs (i + 2)) t n v).1)]) [0, 1, 2] [3, 4, 5] ⟨hx, hb, hml, hown, hts⟩ (c_X1_read l dC dI b0 br bo cC cD H.size gm om n k v t z (xs (i + 1)) (xs (i + 2)) hJ hU hn hk) (cwV 2 hts gL_law_X1_read rfl rfl rfl (by decide +kernel) ⟨Nat.le_of_ble_eq_true rfl, Nat.le_of_ble_eq_true rfl⟩) hP hD hS hA hK1 (wr := w0 a0 ar ao cA cB g1 o1 (nI (n)) (nI (k)) ((gg_read (xs (i + 1)) (xs (i + 2)) t n v).2)) rfl rfl (by decide) (by decide) (by decide) (ci := 1) rfl rfl rfl hl.1 rfl (Nat.le_of_ble_eq_true rfl) dL_law_191 ⟨Nat.le_of_ble_eq_true rfl, Nat.le_of_ble_eq_true rfl⟩ (fun r u H locs hw hP hD hS => ?_)
        obtain ⟨gm1, om1, n1, k1, v1⟩ := u
        obtain ⟨hr2, hJ1, hU1, en, ek, ev⟩ := hw
        dsimp only at hJ1 hU1 en ek ev
        subst en
        subst ek
        have ev := ev.symm
        subst ev
        have hP : va_P (dC, dI) vwCl (w0 a0 ar ao cA cB g1 o1 (nI (n)) (nI (k)) ((gg_read (xs (i + 1)) (xs (i + 2)) t n v).2) ++ w1 b0 br bo cC cD gm1 om1 (nI (n)) (nI (k)) ((gg_read (xs (i + 1)) (xs (i + 2)) t n v).2)) H := hP
        have hD : va_D (fun q : Nat => s.heap.size ≤ q) (w0 a0 ar ao cA cB g1 o1 (nI (n)) (nI (k)) ((gg_read (xs (i + 1)) (xs (i + 2)) t n v).2) ++ w1 b0 br bo cC cD gm1 om1 (nI (n)) (nI (k)) ((gg_read (xs (i + 1)) (xs (i + 2)) t n v).2)) := hD
        refine lv_icmp_eq (tgt := 323) hx hb dL_law_194 (by decide) (fun c_38 => ?_) (fun c_38 => ?_)
        · refine lv_iinc (v := nI (i + 6)) (lv' := [(3, .int (nI (i + 6))), (0, .ref b), (1, .ref a0), (2, .ref b0)]) hx hb dL_law_323 hl (k := 3) rfl (show nI i + 6 = nI (i + 6) from nI_add i 6) (by decide) rfl (fun ls hl => ?_)
          refine lv_goto (tgt := 18) hx hb dL_law_326 (by decide) ?_
          exact ih (i + 6) (t) (z) (n) (k) _ g1 o1 gm1 om1 H locs ls (by omega) (by omega) (hn) (hk) hI1 hO1 hJ1 hU1 hP hD hS (lv_sub hl [1, 2, 3, 0] rfl)
        · exact absurd hr2.symm c_38
      · refine lv_tableIn (off := 166) (tgt := 199) hx hb dL_law_33 (by decide) (by decide) (by decide +kernel) (by decide) ?_
        refine lv_aload_n hx hb dL_law_199 rfl (lv_at hl 1 rfl) ?_
        refine cc_vl (av := []) (rest := []) ⟨hx, hb, hml, hown, hts⟩ (c_X0_value l dC dI a0 ar ao cA cB g o n k v ) (cwV 0 hts gL_law_X0_value rfl rfl rfl (by decide +kernel) ⟨Nat.le_of_ble_eq_true rfl, Nat.le_of_ble_eq_true rfl⟩) (hP.sub (ws' := w0 a0 ar ao cA cB g o (nI n) (nI k) v) [0, 1, 2] rfl) hK0 (ci := 0) rfl rfl rfl hl.1 rfl (Nat.le_of_ble_eq_true rfl) dL_law_200 ⟨Nat.le_of_ble_eq_true rfl, Nat.le_of_ble_eq_true rfl⟩ (fun r hr => ?_)
        have hr1 := hr.symm
        subst hr1
        refine lv_aload_n hx hb dL_law_203 rfl (lv_at hl 2 rfl) ?_
        refine cc_vl (av := []) (rest := [.long v]) ⟨hx, hb, hml, hown, hts⟩ (c_X1_value l dC dI b0 br bo cC cD gm om n k v ) (cwV 0 hts gL_law_X1_value rfl rfl rfl (by decide +kernel) ⟨Nat.le_of_ble_eq_true rfl, Nat.le_of_ble_eq_true rfl⟩) (hP.sub (ws' := w1 b0 br bo cC cD gm om (nI n) (nI k) v) [3, 4, 5] rfl) hK1 (ci := 1) rfl rfl rfl hl.1 rfl (Nat.le_of_ble_eq_true rfl) dL_law_204 ⟨Nat.le_of_ble_eq_true rfl, Nat.le_of_ble_eq_true rfl⟩ (fun r hr => ?_)
        refine W.lcmp hx hb dL_law_207 ?_
        refine lv_if_eq (tgt := 323) hx hb dL_law_208 (by decide) (fun c_39 => ?_) (fun c_39 => ?_)
        · refine lv_iinc (v := nI (i + 6)) (lv' := [(3, .int (nI (i + 6))), (0, .ref b), (1, .ref a0), (2, .ref b0)]) hx hb dL_law_323 hl (k := 3) rfl (show nI i + 6 = nI (i + 6) from nI_add i 6) (by decide) rfl (fun ls hl => ?_)
          refine lv_goto (tgt := 18) hx hb dL_law_326 (by decide) ?_
          exact ih (i + 6) t z n k v g o gm om H locs ls (by omega) (by omega) hn hk hI hO hJ hU hP hD hS (lv_sub hl [1, 2, 3, 0] rfl)
        · exact absurd ((lg_cmp_eq _ _).mpr hr.symm) c_39
      · refine lv_tableIn (off := 180) (tgt := 213) hx hb dL_law_33 (by decide) (by decide) (by decide +kernel) (by decide) ?_
        refine lv_aload_n hx hb dL_law_213 rfl (lv_at hl 1 rfl) ?_
        refine lv_aload_n hx hb dL_law_214 rfl (lv_at hl 0 rfl) ?_
        refine lv_iload_n hx hb dL_law_215 rfl (lv_at hl 3 rfl) ?_
        refine lv_iconst (v := nI 1) hx hb dL_law_216 (by decide) ?_
        refine lv_iadd hx hb dL_law_217 ?_
        refine lv_topi (fun z_40 ez_40 => ?_)
        have ez_40 : z_40 = nI (i + 1) := by rw [ez_40]; exact nI_add i 1
        subst ez_40
        refine va_sld hx hb hX hbl hbA hS (vp_in_nI (show i + 1 < L by omega) (by omega)) dL_law_218 ?_
        refine lv_topi (fun z_41 ez_41 => ?_)
        have ez_41 : z_41 = xs (i + 1) := by rw [ez_41]; rw [nI_clamp (show i + 1 < 2 ^ 31 by omega)]
        subst ez_41
        refine lv_aload_n hx hb dL_law_219 rfl (lv_at hl 0 rfl) ?_
        refine lv_iload_n hx hb dL_law_220 rfl (lv_at hl 3 rfl) ?_
        refine lv_iconst (v := nI 2) hx hb dL_law_221 (by decide) ?_
        refine lv_iadd hx hb dL_law_222 ?_
        refine lv_topi (fun z_42 ez_42 => ?_)
        have ez_42 : z_42 = nI (i + 2) := by rw [ez_42]; exact nI_add i 2
        subst ez_42
        refine va_sld hx hb hX hbl hbA hS (vp_in_nI (show i + 2 < L by omega) (by omega)) dL_law_223 ?_
        refine lv_topi (fun z_43 ez_43 => ?_)
        have ez_43 : z_43 = xs (i + 2) := by rw [ez_43]; rw [nI_clamp (show i + 2 < 2 ^ 31 by omega)]
        subst ez_43
        refine lv_i2l hx hb dL_law_224 rfl ?_
        refine lv_bipush (v := 32) hx hb dL_law_225 (by decide) ?_
        refine lv_lshl hx hb dL_law_227 rfl ?_
        refine lv_aload_n hx hb dL_law_228 rfl (lv_at hl 0 rfl) ?_
        refine lv_iload_n hx hb dL_law_229 rfl (lv_at hl 3 rfl) ?_
        refine lv_iconst (v := nI 3) hx hb dL_law_230 (by decide) ?_
        refine lv_iadd hx hb dL_law_231 ?_
        refine lv_topi (fun z_44 ez_44 => ?_)
        have ez_44 : z_44 = nI (i + 3) := by rw [ez_44]; exact nI_add i 3
        subst ez_44
        refine va_sld hx hb hX hbl hbA hS (vp_in_nI (show i + 3 < L by omega) (by omega)) dL_law_232 ?_
        refine lv_topi (fun z_45 ez_45 => ?_)
        have ez_45 : z_45 = xs (i + 3) := by rw [ez_45]; rw [nI_clamp (show i + 3 < 2 ^ 31 by omega)]
        subst ez_45
        refine lv_i2l hx hb dL_law_233 rfl ?_
        refine lv_ldc2 hx hb hown (hts (.constantLong RL 33 4294967295) (by decide +kernel)) dL_law_234 ?_
        refine lv_land hx hb dL_law_237 ?_
        refine lv_lor hx hb dL_law_238 ?_
        refine lv_topl (fun y ey => ?_)
        refine cc_mi (av := [.int (xs (i + 1)), .long y]) (rest := []) [0, 1, 2] [3, 4, 5] ⟨hx, hb, hml, hown, hts⟩ (c_X0_write l dC dI a0 ar ao cA cB H.size g o n k v t z (xs (i + 1)) y hI hO hn hk) (cwV 2 hts gL_law_X0_write rfl rfl rfl (by decide +kernel) ⟨Nat.le_of_ble_eq_true rfl, Nat.le_of_ble_eq_true rfl⟩) hP hD hS hA hK0 (wr := w1 b0 br bo cC cD gm om (nI n) (nI k) v) rfl rfl (by decide) (by decide) (by decide) (ci := 0) rfl rfl rfl hl.1 rfl (Nat.le_of_ble_eq_true rfl) dL_law_239 ⟨Nat.le_of_ble_eq_true rfl, Nat.le_of_ble_eq_true rfl⟩ (fun r u H locs hw hP hD hS => ?_)
        obtain ⟨g1, o1, n1, k1, v1⟩ := u
        obtain ⟨hr1, hI1, hO1, en, ek, ev⟩ := hw
        dsimp only at hI1 hO1 en ek ev
        subst en
        subst ek
        have ev := ev.symm
        subst ev
        have hP : va_P (dC, dI) vwCl (w1 b0 br bo cC cD gm om (nI n) (nI k) v ++ w0 a0 ar ao cA cB g1 o1 (nI (n)) (nI ((gg_write (xs (i + 1)) y k z).2.1)) v) H := hP
        have hD : va_D (fun q : Nat => s.heap.size ≤ q) (w1 b0 br bo cC cD gm om (nI n) (nI k) v ++ w0 a0 ar ao cA cB g1 o1 (nI (n)) (nI ((gg_write (xs (i + 1)) y k z).2.1)) v) := hD
        subst hr1
        refine lv_aload_n hx hb dL_law_242 rfl (lv_at hl 2 rfl) ?_
        refine lv_aload_n hx hb dL_law_243 rfl (lv_at hl 0 rfl) ?_
        refine lv_iload_n hx hb dL_law_244 rfl (lv_at hl 3 rfl) ?_
        refine lv_iconst (v := nI 1) hx hb dL_law_245 (by decide) ?_
        refine lv_iadd hx hb dL_law_246 ?_
        refine lv_topi (fun z_46 ez_46 => ?_)
        have ez_46 : z_46 = nI (i + 1) := by rw [ez_46]; exact nI_add i 1
        subst ez_46
        refine va_sld hx hb hX hbl hbA hS (vp_in_nI (show i + 1 < L by omega) (by omega)) dL_law_247 ?_
        refine lv_topi (fun z_47 ez_47 => ?_)
        have ez_47 : z_47 = xs (i + 1) := by rw [ez_47]; rw [nI_clamp (show i + 1 < 2 ^ 31 by omega)]
        subst ez_47
        refine lv_aload_n hx hb dL_law_248 rfl (lv_at hl 0 rfl) ?_
        refine lv_iload_n hx hb dL_law_249 rfl (lv_at hl 3 rfl) ?_
        refine lv_iconst (v := nI 2) hx hb dL_law_250 (by decide) ?_
        refine lv_iadd hx hb dL_law_251 ?_
        refine lv_topi (fun z_48 ez_48 => ?_)
        have ez_48 : z_48 = nI (i + 2) := by rw [ez_48]; exact nI_add i 2
        subst ez_48
        refine va_sld hx hb hX hbl hbA hS (vp_in_nI (show i + 2 < L by omega) (by omega)) dL_law_252 ?_
        refine lv_topi (fun z_49 ez_49 => ?_)
        have ez_49 : z_49 = xs (i + 2) := by rw [ez_49]; rw [nI_clamp (show i + 2 < 2 ^ 31 by omega)]
        subst ez_49
        refine lv_i2l hx hb dL_law_253 rfl ?_
        refine lv_bipush (v := 32) hx hb dL_law_254 (by decide) ?_
        refine lv_lshl hx hb dL_law_256 rfl ?_
        refine lv_aload_n hx hb dL_law_257 rfl (lv_at hl 0 rfl) ?_
        refine lv_iload_n hx hb dL_law_258 rfl (lv_at hl 3 rfl) ?_
        refine lv_iconst (v := nI 3) hx hb dL_law_259 (by decide) ?_
        refine lv_iadd hx hb dL_law_260 ?_
        refine lv_topi (fun z_50 ez_50 => ?_)
        have ez_50 : z_50 = nI (i + 3) := by rw [ez_50]; exact nI_add i 3
        subst ez_50
        refine va_sld hx hb hX hbl hbA hS (vp_in_nI (show i + 3 < L by omega) (by omega)) dL_law_261 ?_
        refine lv_topi (fun z_51 ez_51 => ?_)
        have ez_51 : z_51 = xs (i + 3) := by rw [ez_51]; rw [nI_clamp (show i + 3 < 2 ^ 31 by omega)]
        subst ez_51
        refine lv_i2l hx hb dL_law_262 rfl ?_
        refine lv_ldc2 hx hb hown (hts (.constantLong RL 33 4294967295) (by decide +kernel)) dL_law_263 ?_
        refine lv_land hx hb dL_law_266 ?_
        refine lv_lor hx hb dL_law_267 ?_
        refine lv_topl (fun z_52 ez_52 => ?_)
        have ez_52 : z_52 = y := by rw [ez_52]; exact ey.symm
        have ez_52 := ez_52.symm
        subst ez_52
        refine cc_mi (av := [.int (xs (i + 1)), .long y]) (rest := [.int ((gg_write (xs (i + 1)) y k z).1)]) [0, 1, 2] [3, 4, 5] ⟨hx, hb, hml, hown, hts⟩ (c_X1_write l dC dI b0 br bo cC cD H.size gm om n k v t z (xs (i + 1)) y hJ hU hn hk) (cwV 2 hts gL_law_X1_write rfl rfl rfl (by decide +kernel) ⟨Nat.le_of_ble_eq_true rfl, Nat.le_of_ble_eq_true rfl⟩) hP hD hS hA hK1 (wr := w0 a0 ar ao cA cB g1 o1 (nI (n)) (nI ((gg_write (xs (i + 1)) y k z).2.1)) v) rfl rfl (by decide) (by decide) (by decide) (ci := 1) rfl rfl rfl hl.1 rfl (Nat.le_of_ble_eq_true rfl) dL_law_268 ⟨Nat.le_of_ble_eq_true rfl, Nat.le_of_ble_eq_true rfl⟩ (fun r u H locs hw hP hD hS => ?_)
        obtain ⟨gm1, om1, n1, k1, v1⟩ := u
        obtain ⟨hr2, hJ1, hU1, en, ek, ev⟩ := hw
        dsimp only at hJ1 hU1 en ek ev
        subst en
        subst ek
        have ev := ev.symm
        subst ev
        have hP : va_P (dC, dI) vwCl (w0 a0 ar ao cA cB g1 o1 (nI (n)) (nI ((gg_write (xs (i + 1)) y k z).2.1)) v ++ w1 b0 br bo cC cD gm1 om1 (nI (n)) (nI ((gg_write (xs (i + 1)) y k z).2.1)) v) H := hP
        have hD : va_D (fun q : Nat => s.heap.size ≤ q) (w0 a0 ar ao cA cB g1 o1 (nI (n)) (nI ((gg_write (xs (i + 1)) y k z).2.1)) v ++ w1 b0 br bo cC cD gm1 om1 (nI (n)) (nI ((gg_write (xs (i + 1)) y k z).2.1)) v) := hD
        refine lv_icmp_eq (tgt := 323) hx hb dL_law_271 (by decide) (fun c_53 => ?_) (fun c_53 => ?_)
        · refine lv_iinc (v := nI (i + 6)) (lv' := [(3, .int (nI (i + 6))), (0, .ref b), (1, .ref a0), (2, .ref b0)]) hx hb dL_law_323 hl (k := 3) rfl (show nI i + 6 = nI (i + 6) from nI_add i 6) (by decide) rfl (fun ls hl => ?_)
          refine lv_goto (tgt := 18) hx hb dL_law_326 (by decide) ?_
          exact ih (i + 6) (t) ((gg_write (xs (i + 1)) y k z).2.2) (n) ((gg_write (xs (i + 1)) y k z).2.1) _ g1 o1 gm1 om1 H locs ls (by omega) (by omega) (hn) (gg_write_bd hk) hI1 hO1 hJ1 hU1 hP hD hS (lv_sub hl [1, 2, 3, 0] rfl)
        · exact absurd hr2.symm c_53
      · refine lv_tableIn (off := 243) (tgt := 276) hx hb dL_law_33 (by decide) (by decide) (by decide +kernel) (by decide) ?_
        refine lv_aload_n hx hb dL_law_276 rfl (lv_at hl 1 rfl) ?_
        refine cc_vi (av := []) (rest := []) ⟨hx, hb, hml, hown, hts⟩ (c_X0_size l dC dI a0 ar ao cA cB g o n k v ) (cwV 0 hts gL_law_X0_size rfl rfl rfl (by decide +kernel) ⟨Nat.le_of_ble_eq_true rfl, Nat.le_of_ble_eq_true rfl⟩) (hP.sub (ws' := w0 a0 ar ao cA cB g o (nI n) (nI k) v) [0, 1, 2] rfl) hK0 (ci := 0) rfl rfl rfl hl.1 rfl (Nat.le_of_ble_eq_true rfl) dL_law_277 ⟨Nat.le_of_ble_eq_true rfl, Nat.le_of_ble_eq_true rfl⟩ (fun r hr => ?_)
        have hr1 := hr.symm
        subst hr1
        refine lv_aload_n hx hb dL_law_280 rfl (lv_at hl 2 rfl) ?_
        refine cc_vi (av := []) (rest := [.int (nI k)]) ⟨hx, hb, hml, hown, hts⟩ (c_X1_size l dC dI b0 br bo cC cD gm om n k v ) (cwV 0 hts gL_law_X1_size rfl rfl rfl (by decide +kernel) ⟨Nat.le_of_ble_eq_true rfl, Nat.le_of_ble_eq_true rfl⟩) (hP.sub (ws' := w1 b0 br bo cC cD gm om (nI n) (nI k) v) [3, 4, 5] rfl) hK1 (ci := 1) rfl rfl rfl hl.1 rfl (Nat.le_of_ble_eq_true rfl) dL_law_281 ⟨Nat.le_of_ble_eq_true rfl, Nat.le_of_ble_eq_true rfl⟩ (fun r hr => ?_)
        refine lv_icmp_eq (tgt := 323) hx hb dL_law_284 (by decide) (fun c_54 => ?_) (fun c_54 => ?_)
        · refine lv_iinc (v := nI (i + 6)) (lv' := [(3, .int (nI (i + 6))), (0, .ref b), (1, .ref a0), (2, .ref b0)]) hx hb dL_law_323 hl (k := 3) rfl (show nI i + 6 = nI (i + 6) from nI_add i 6) (by decide) rfl (fun ls hl => ?_)
          refine lv_goto (tgt := 18) hx hb dL_law_326 (by decide) ?_
          exact ih (i + 6) t z n k v g o gm om H locs ls (by omega) (by omega) hn hk hI hO hJ hU hP hD hS (lv_sub hl [1, 2, 3, 0] rfl)
        · exact absurd hr.symm c_54
      · refine lv_tableIn (off := 256) (tgt := 289) hx hb dL_law_33 (by decide) (by decide) (by decide +kernel) (by decide) ?_
        refine lv_aload_n hx hb dL_law_289 rfl (lv_at hl 1 rfl) ?_
        refine lv_aload_n hx hb dL_law_290 rfl (lv_at hl 0 rfl) ?_
        refine lv_iload_n hx hb dL_law_291 rfl (lv_at hl 3 rfl) ?_
        refine lv_iconst (v := nI 1) hx hb dL_law_292 (by decide) ?_
        refine lv_iadd hx hb dL_law_293 ?_
        refine lv_topi (fun z_55 ez_55 => ?_)
        have ez_55 : z_55 = nI (i + 1) := by rw [ez_55]; exact nI_add i 1
        subst ez_55
        refine va_sld hx hb hX hbl hbA hS (vp_in_nI (show i + 1 < L by omega) (by omega)) dL_law_294 ?_
        refine lv_topi (fun z_56 ez_56 => ?_)
        have ez_56 : z_56 = xs (i + 1) := by rw [ez_56]; rw [nI_clamp (show i + 1 < 2 ^ 31 by omega)]
        subst ez_56
        refine cc_vi (av := [.int (xs (i + 1))]) (rest := []) ⟨hx, hb, hml, hown, hts⟩ (c_X0_at l dC dI a0 ar ao cA cB g o n k v z (xs (i + 1)) hO hk) (cwV 1 hts gL_law_X0_at rfl rfl rfl (by decide +kernel) ⟨Nat.le_of_ble_eq_true rfl, Nat.le_of_ble_eq_true rfl⟩) (hP.sub (ws' := w0 a0 ar ao cA cB g o (nI n) (nI k) v) [0, 1, 2] rfl) hK0 (ci := 0) rfl rfl rfl hl.1 rfl (Nat.le_of_ble_eq_true rfl) dL_law_295 ⟨Nat.le_of_ble_eq_true rfl, Nat.le_of_ble_eq_true rfl⟩ (fun r hr => ?_)
        have hr1 := hr.symm
        subst hr1
        refine lv_aload_n hx hb dL_law_298 rfl (lv_at hl 2 rfl) ?_
        refine lv_aload_n hx hb dL_law_299 rfl (lv_at hl 0 rfl) ?_
        refine lv_iload_n hx hb dL_law_300 rfl (lv_at hl 3 rfl) ?_
        refine lv_iconst (v := nI 1) hx hb dL_law_301 (by decide) ?_
        refine lv_iadd hx hb dL_law_302 ?_
        refine lv_topi (fun z_57 ez_57 => ?_)
        have ez_57 : z_57 = nI (i + 1) := by rw [ez_57]; exact nI_add i 1
        subst ez_57
        refine va_sld hx hb hX hbl hbA hS (vp_in_nI (show i + 1 < L by omega) (by omega)) dL_law_303 ?_
        refine lv_topi (fun z_58 ez_58 => ?_)
        have ez_58 : z_58 = xs (i + 1) := by rw [ez_58]; rw [nI_clamp (show i + 1 < 2 ^ 31 by omega)]
        subst ez_58
        refine cc_vi (av := [.int (xs (i + 1))]) (rest := [.int (gg_at (xs (i + 1)) z k)]) ⟨hx, hb, hml, hown, hts⟩ (c_X1_at l dC dI b0 br bo cC cD gm om n k v z (xs (i + 1)) hU hk) (cwV 1 hts gL_law_X1_at rfl rfl rfl (by decide +kernel) ⟨Nat.le_of_ble_eq_true rfl, Nat.le_of_ble_eq_true rfl⟩) (hP.sub (ws' := w1 b0 br bo cC cD gm om (nI n) (nI k) v) [3, 4, 5] rfl) hK1 (ci := 1) rfl rfl rfl hl.1 rfl (Nat.le_of_ble_eq_true rfl) dL_law_304 ⟨Nat.le_of_ble_eq_true rfl, Nat.le_of_ble_eq_true rfl⟩ (fun r hr => ?_)
        refine lv_icmp_eq (tgt := 323) hx hb dL_law_307 (by decide) (fun c_59 => ?_) (fun c_59 => ?_)
        · refine lv_iinc (v := nI (i + 6)) (lv' := [(3, .int (nI (i + 6))), (0, .ref b), (1, .ref a0), (2, .ref b0)]) hx hb dL_law_323 hl (k := 3) rfl (show nI i + 6 = nI (i + 6) from nI_add i 6) (by decide) rfl (fun ls hl => ?_)
          refine lv_goto (tgt := 18) hx hb dL_law_326 (by decide) ?_
          exact ih (i + 6) t z n k v g o gm om H locs ls (by omega) (by omega) hn hk hI hO hJ hU hP hD hS (lv_sub hl [1, 2, 3, 0] rfl)
        · exact absurd hr.symm c_59
      · refine lv_tableIn (off := 279) (tgt := 312) hx hb dL_law_33 (by decide) (by decide) (by decide +kernel) (by decide) ?_
        refine lv_aload_n hx hb dL_law_312 rfl (lv_at hl 1 rfl) ?_
        refine cc_mv (av := []) (rest := []) [0, 1, 2] [3, 4, 5] ⟨hx, hb, hml, hown, hts⟩ (c_X0_clear l dC dI a0 ar ao cA cB H.size g o n k v t z  hI hO hn hk) (cwV 0 hts gL_law_X0_clear rfl rfl rfl (by decide +kernel) ⟨Nat.le_of_ble_eq_true rfl, Nat.le_of_ble_eq_true rfl⟩) hP hD hS hA hK0 (wr := w1 b0 br bo cC cD gm om (nI n) (nI k) v) rfl rfl (by decide) (by decide) (by decide) (ci := 0) rfl rfl rfl hl.1 rfl (Nat.le_of_ble_eq_true rfl) dL_law_313 ⟨Nat.le_of_ble_eq_true rfl, Nat.le_of_ble_eq_true rfl⟩ (fun u H locs hw hP hD hS => ?_)
        obtain ⟨g1, o1, n1, k1, v1⟩ := u
        obtain ⟨hI1, hO1, en, ek, ev⟩ := hw
        dsimp only at hI1 hO1 en ek ev
        subst en
        subst ek
        have ev := ev.symm
        subst ev
        have hP : va_P (dC, dI) vwCl (w1 b0 br bo cC cD gm om (nI n) (nI k) v ++ w0 a0 ar ao cA cB g1 o1 (nI (0)) (nI (0)) v) H := hP
        have hD : va_D (fun q : Nat => s.heap.size ≤ q) (w1 b0 br bo cC cD gm om (nI n) (nI k) v ++ w0 a0 ar ao cA cB g1 o1 (nI (0)) (nI (0)) v) := hD
        refine lv_aload_n hx hb dL_law_316 rfl (lv_at hl 2 rfl) ?_
        refine cc_mv (av := []) (rest := []) [0, 1, 2] [3, 4, 5] ⟨hx, hb, hml, hown, hts⟩ (c_X1_clear l dC dI b0 br bo cC cD H.size gm om n k v t z  hJ hU hn hk) (cwV 0 hts gL_law_X1_clear rfl rfl rfl (by decide +kernel) ⟨Nat.le_of_ble_eq_true rfl, Nat.le_of_ble_eq_true rfl⟩) hP hD hS hA hK1 (wr := w0 a0 ar ao cA cB g1 o1 (nI (0)) (nI (0)) v) rfl rfl (by decide) (by decide) (by decide) (ci := 1) rfl rfl rfl hl.1 rfl (Nat.le_of_ble_eq_true rfl) dL_law_317 ⟨Nat.le_of_ble_eq_true rfl, Nat.le_of_ble_eq_true rfl⟩ (fun u H locs hw hP hD hS => ?_)
        obtain ⟨gm1, om1, n1, k1, v1⟩ := u
        obtain ⟨hJ1, hU1, en, ek, ev⟩ := hw
        dsimp only at hJ1 hU1 en ek ev
        subst en
        subst ek
        have ev := ev.symm
        subst ev
        have hP : va_P (dC, dI) vwCl (w0 a0 ar ao cA cB g1 o1 (nI (0)) (nI (0)) v ++ w1 b0 br bo cC cD gm1 om1 (nI (0)) (nI (0)) v) H := hP
        have hD : va_D (fun q : Nat => s.heap.size ≤ q) (w0 a0 ar ao cA cB g1 o1 (nI (0)) (nI (0)) v ++ w1 b0 br bo cC cD gm1 om1 (nI (0)) (nI (0)) v) := hD
        refine lv_goto (tgt := 323) hx hb dL_law_320 (by decide) ?_
        refine lv_iinc (v := nI (i + 6)) (lv' := [(3, .int (nI (i + 6))), (0, .ref b), (1, .ref a0), (2, .ref b0)]) hx hb dL_law_323 hl (k := 3) rfl (show nI i + 6 = nI (i + 6) from nI_add i 6) (by decide) rfl (fun ls hl => ?_)
        refine lv_goto (tgt := 18) hx hb dL_law_326 (by decide) ?_
        exact ih (i + 6) (t) (z) (0) (0) _ g1 o1 gm1 om1 H locs ls (by omega) (by omega) (by omega) (by omega) hI1 hO1 hJ1 hU1 hP hD hS (lv_sub hl [1, 2, 3, 0] rfl)
end
section
set_option maxHeartbeats 4000000 in
set_option maxRecDepth 100000 in
/-- the law, from its entry -/
theorem whole_start {p : Program} {e : Env} {s : State} {m : MethodId} {below : List Frame} {meth : Method} {c : Code} (l : Launch) {b L : Nat} {xs : Nat → Int32} (hL : L ≤ 3072) (C0 : lw_At p s m meth c b L xs) : W p l e room_1 s m #[Value.ref b] below meth c s.heap [] 0 0 (lw_Z below #[Value.ref b] s) (entryFrame m ([Value.ref b] : List Value).toArray 4) := by
  obtain ⟨hx, hb, hr, hml, hown, hts0, hX, hbl, hlocks, hgv⟩ := id C0
  have hb : c.code = cL_law := hb
  have hown : s.vm.findClass RL = some m.cls := hown
  have hts : ∀ w ∈ wsL_law, w.before #[Value.ref b] s = true := fun w h => hts0 w (wsL_law_in w h)
  have hA : ∀ q : Nat, s.heap.size ≤ q → (fun q : Nat => s.heap.size ≤ q) q := fun _ h => h
  obtain ⟨c0, iS0, hKn0⟩ := u_known (C := RX0) (T := TX0) (N := 5) (n := 5) hts inlX0 (hts (.instantiable RX0 5) (by decide +kernel))
  obtain ⟨c1, iS1, hKn1⟩ := u_known (C := RX1) (T := TX1) (N := 5) (n := 5) hts inlX1 (hts (.instantiable RX1 5) (by decide +kernel))
  obtain ⟨dC, dI, hKc⟩ : ∃ (dC : Nat → ClassId) (dI : Nat → Nat → Nat), ∀ (k : Nat) (q : vw_C), vwCl[k]? = some q → u_Kn s q.1 q.2.1 q.2.2 (dC k) (dI k) := by
    refine ⟨fun k => if k = 0 then c0 else c1, fun k => if k = 0 then iS0 else iS1, ?_⟩
    intro k q hq
    match k, hq with
    | 0, hq => cases hq; exact hKn0
    | 1, hq => cases hq; exact hKn1
    | k + 2, hq => simp [vwCl] at hq
  have hS : va_S (fun q : Nat => s.heap.size ≤ q) s.heap s.heap [] := va_S.rf
  have hK : va_K (dC, dI) vwCl [] s := ⟨hKc, fun k q h => by simp at h⟩
  have hP : va_P (dC, dI) vwCl [] s.heap := fun k q h => by simp at h
  have hD : va_D (fun q : Nat => s.heap.size ≤ q) [] := ⟨fun i j p q h => by simp at h, fun k q h => by simp at h⟩
  have hl := lv_entry ([.ref b]) (n := 4) (Nat.le_of_ble_eq_true rfl)
  rw [lg_entry_eq]
  generalize (lg_sl ([.ref b]) ++ List.replicate (4 - (lg_sl ([.ref b])).length) Slot.unset).toArray = ls at hl ⊢
  have hl : lv_has ls 4 [(0, .ref b)] := hl
  refine va_new (ci := 0) (fs := [.null, .int 0, .null, .int 0, .long 0]) (C := RX0) (T := TX0) (N := 5) hx hb hts inlX0 tyX0 tyX0_ok hown (hts (.classLink RL 7 RX0) (by decide +kernel)) (hts (.instantiable RX0 5) (by decide +kernel)) (hts (.initialized RX0) (by decide +kernel)) hK hP hD hS hA rfl (fun j hj => by rcases (show j = 0 ∨ j = 1 ∨ j = 2 ∨ j = 3 ∨ j = 4 by omega) with rfl | rfl | rfl | rfl | rfl <;> rfl) (Nat.le_of_ble_eq_true rfl) (Nat.le_of_ble_eq_true rfl) dL_law_0 (fun a0 H hP hD hS => ?_)
  have hP : va_P (dC, dI) vwCl [(a0, .inr (0, [.null, .int 0, .null, .int 0, .long 0]))] H := hP
  have hD : va_D (fun q : Nat => s.heap.size ≤ q) [(a0, .inr (0, [.null, .int 0, .null, .int 0, .long 0]))] := hD
  refine W.widen (k := 1) (n := 5) (by omega) (by omega) ?_
  refine lv_dup hx hb dL_law_3 rfl ?_
  have hPc := hP.sub (ws' := [(a0, .inr (0, [.null, .int 0, .null, .int 0, .long 0]))]) [0] rfl
  have hDc := hD.sub (ws' := [(a0, .inr (0, [.null, .int 0, .null, .int 0, .long 0]))]) [0] (by decide) rfl
  have hFc := va_free (wc := [(a0, .inr (0, [.null, .int 0, .null, .int 0, .long 0]))]) hD hS hA [0] rfl
  refine va_callv (va_runI (As := []) (rest := [.ref a0]) ⟨hx, hb, hml, hown, hts⟩ (c_X0_init l dC dI a0 H.size) (cwI 0 hts gL_law_X0_init rfl rfl rfl (hts (.initialized RX0) (by decide +kernel)) (hts (.methodLink RL 9 yX0_init) (by decide +kernel)) (hts (.instanceMethod yX0_init) (by decide +kernel)) rfl (by decide +kernel) ⟨Nat.le_of_ble_eq_true rfl, Nat.le_of_ble_eq_true rfl⟩) ⟨fun a U g mk q => ⟨q.1, q.2.1, q.2.2.1, va_K.moved (u := U) (U := U.calling g mk a) (Vm.Alike.refl U.vm) q.2.2.2.1, q.2.2.2.2⟩, fun U hU hW => ⟨rfl, by rw [hU], by rw [hU]; exact hPc, va_K.moved hW.alike hK, hDc.weaken (fun _ _ _ _ => trivial)⟩⟩ rfl rfl hl.1 rfl (lv_room (Nat.le_of_ble_eq_true rfl)) dL_law_4 ⟨Nat.le_of_ble_eq_true rfl, Nat.le_of_ble_eq_true rfl⟩) hS (fun q _ h => hFc q h) hFc (fun u t H1 locs ht hvm hw hB hz1 hk1 hS => ?_)
  obtain ⟨ar, ao, cA, cB⟩ := u
  obtain ⟨hP1, hK1, hD1⟩ := hB
  rw [ht] at hP1
  have hKa : va_K (dC, dI) vwCl (ty0 cA cB) s := va_K.moved hvm.symm hK1
  obtain ⟨hP, hD⟩ := va_join (wr := []) (w1 := (w0 a0 ar ao cA cB (fun _ => 0) (fun _ => 0) (nI 0) (nI 0) 0)) hP hD [0] [] rfl rfl (by decide) (by decide) hk1 hFc hP1 hD1
  generalize H1 = H at hP hS ⊢
  have hP : va_P (dC, dI) vwCl ((w0 a0 ar ao cA cB (fun _ => 0) (fun _ => 0) (nI 0) (nI 0) 0)) H := hP
  have hD : va_D (fun q : Nat => s.heap.size ≤ q) ((w0 a0 ar ao cA cB (fun _ => 0) (fun _ => 0) (nI 0) (nI 0) 0)) := hD
  refine W.widen (k := 3) (n := 2005) (by omega) (by omega) ?_
  refine lv_astore_n (lv' := [(1, .ref a0), (0, .ref b)]) hx hb dL_law_7 rfl hl (by decide) rfl (fun ls hl => ?_)
  refine va_new (ci := 1) (fs := [.null, .null, .int 0, .int 0, .long 0]) (C := RX1) (T := TX1) (N := 5) hx hb hts inlX1 tyX1 tyX1_ok hown (hts (.classLink RL 10 RX1) (by decide +kernel)) (hts (.instantiable RX1 5) (by decide +kernel)) (hts (.initialized RX1) (by decide +kernel)) hK hP hD hS hA rfl (fun j hj => by rcases (show j = 0 ∨ j = 1 ∨ j = 2 ∨ j = 3 ∨ j = 4 by omega) with rfl | rfl | rfl | rfl | rfl <;> rfl) (Nat.le_of_ble_eq_true rfl) (Nat.le_of_ble_eq_true rfl) dL_law_8 (fun b0 H hP hD hS => ?_)
  have hP : va_P (dC, dI) vwCl ((w0 a0 ar ao cA cB (fun _ => 0) (fun _ => 0) (nI 0) (nI 0) 0) ++ [(b0, .inr (1, [.null, .null, .int 0, .int 0, .long 0]))]) H := hP
  have hD : va_D (fun q : Nat => s.heap.size ≤ q) ((w0 a0 ar ao cA cB (fun _ => 0) (fun _ => 0) (nI 0) (nI 0) 0) ++ [(b0, .inr (1, [.null, .null, .int 0, .int 0, .long 0]))]) := hD
  refine W.widen (k := 4) (n := 2010) (by omega) (by omega) ?_
  refine lv_dup hx hb dL_law_11 rfl ?_
  have hPc := hP.sub (ws' := [(b0, .inr (1, [.null, .null, .int 0, .int 0, .long 0]))]) [3] rfl
  have hDc := hD.sub (ws' := [(b0, .inr (1, [.null, .null, .int 0, .int 0, .long 0]))]) [3] (by decide) rfl
  have hFc := va_free (wc := [(b0, .inr (1, [.null, .null, .int 0, .int 0, .long 0]))]) hD hS hA [3] rfl
  refine va_callv (va_runI (As := []) (rest := [.ref b0]) ⟨hx, hb, hml, hown, hts⟩ (c_X1_init l dC dI b0 H.size) (cwI 0 hts gL_law_X1_init rfl rfl rfl (hts (.initialized RX1) (by decide +kernel)) (hts (.methodLink RL 12 yX1_init) (by decide +kernel)) (hts (.instanceMethod yX1_init) (by decide +kernel)) rfl (by decide +kernel) ⟨Nat.le_of_ble_eq_true rfl, Nat.le_of_ble_eq_true rfl⟩) ⟨fun a U g mk q => ⟨q.1, q.2.1, q.2.2.1, va_K.moved (u := U) (U := U.calling g mk a) (Vm.Alike.refl U.vm) q.2.2.2.1, q.2.2.2.2⟩, fun U hU hW => ⟨rfl, by rw [hU], by rw [hU]; exact hPc, va_K.moved hW.alike hK, hDc.weaken (fun _ _ _ _ => trivial)⟩⟩ rfl rfl hl.1 rfl (lv_room (Nat.le_of_ble_eq_true rfl)) dL_law_12 ⟨Nat.le_of_ble_eq_true rfl, Nat.le_of_ble_eq_true rfl⟩) hS (fun q _ h => hFc q h) hFc (fun u t H1 locs ht hvm hw hB hz1 hk1 hS => ?_)
  obtain ⟨br, bo, cC, cD⟩ := u
  obtain ⟨hP1, hK1, hD1⟩ := hB
  rw [ht] at hP1
  have hKb : va_K (dC, dI) vwCl (ty1 cC cD) s := va_K.moved hvm.symm hK1
  obtain ⟨hP, hD⟩ := va_join (wr := (w0 a0 ar ao cA cB (fun _ => 0) (fun _ => 0) (nI 0) (nI 0) 0)) (w1 := (w1 b0 br bo cC cD (fun _ => 0) (fun _ => 0) (nI 0) (nI 0) 0)) hP hD [3] [0, 1, 2] rfl rfl (by decide) (by decide) hk1 hFc hP1 hD1
  generalize H1 = H at hP hS ⊢
  have hP : va_P (dC, dI) vwCl ((w0 a0 ar ao cA cB (fun _ => 0) (fun _ => 0) (nI 0) (nI 0) 0) ++ (w1 b0 br bo cC cD (fun _ => 0) (fun _ => 0) (nI 0) (nI 0) 0)) H := hP
  have hD : va_D (fun q : Nat => s.heap.size ≤ q) ((w0 a0 ar ao cA cB (fun _ => 0) (fun _ => 0) (nI 0) (nI 0) 0) ++ (w1 b0 br bo cC cD (fun _ => 0) (fun _ => 0) (nI 0) (nI 0) 0)) := hD
  refine W.widen (k := 6) (n := 4010) (by omega) (by omega) ?_
  refine lv_astore_n (lv' := [(2, .ref b0), (1, .ref a0), (0, .ref b)]) hx hb dL_law_15 rfl hl (by decide) rfl (fun ls hl => ?_)
  refine lv_iconst (v := nI 0) hx hb dL_law_16 (by decide) ?_
  refine lv_istore_n (lv' := [(3, .int (nI 0)), (2, .ref b0), (1, .ref a0), (0, .ref b)]) hx hb dL_law_17 rfl hl (by decide) rfl (fun ls hl => ?_)
  exact law_loop hL C0 (hKa.app hKb) (L + 1) 0 (fun _ => 0) (fun _ => 0) 0 0 0 _ _ _ _ H _ ls (by omega) (by omega) (by omega) (by omega) (fun j hj => absurd hj (by omega)) (fun j hj => absurd hj (by omega)) (fun j hj => absurd hj (by omega)) (fun j hj => absurd hj (by omega)) hP hD hS (lv_sub hl [3, 2, 1, 0] rfl)
end
section
-- ===== YOUR PART ENDS =====
set_option maxHeartbeats 4000000 in
theorem lw_walk (l : Launch) (b : Addr) (xs : List Int32) : MetFree l x (headSpec (Jvm.Cond.code x code maxLocals ret :: tables_1) room_1) (lw_P b xs) (fun _ _ _ _ _ => True) lw_Q := by
  refine MetFree.of_bodyS (code := code) (maxLocals := maxLocals) (ret := ret) (by decide) ?_ ?_
  · intro args s m h hn
    obtain ⟨meth, c, h1, h2, h3, h4, h5, h6, -, -⟩ := Cond.code_spec hn (atoms_spec (ws := Jvm.Cond.code x code maxLocals ret :: tables_1) h _ List.mem_cons_self)
    exact ⟨meth, c, h1, h2, h3, h4, h5, h6⟩
  · intro p e s m args below meth c s₁ B hml0 hP _
    obtain ⟨rfl, hx, hbd, hgv⟩ := hP
    obtain ⟨scr, harrAt, hlist, hof, hsmall⟩ := hx
    obtain ⟨hcb, hkn, -, -⟩ := State.arrayAt?_spec harrAt
    have hown : s.vm.findClass R_law = some m.cls := findClass_of_methodNamed B.named
    have hts0 : ∀ c ∈ (Jvm.Cond.code x code maxLocals ret :: tables_1), c.before #[Value.ref b] s = true := atoms_spec (ws := Jvm.Cond.code x code maxLocals ret :: tables_1) B.pre
    have hts : ∀ w ∈ lw_tbl, w.before #[Value.ref b] s = true := k2_hts_sels lw_privs (fun w hw => hts0 w (List.mem_cons_of_mem _ hw)) lw_privs_ok
    have hml : c.maxLocals = 4 := B.maxLocals_eq (hts0 _ List.mem_cons_self)
    have X₀ : Stand p l e room_1 s m #[Value.ref b] below meth c s₁ [] 0 0 := Stand.of_body B
    have hh0 : s₁.heap = s.heap := by rw [B.state]; rfl
    have hsz : scr.slots.size = xs.length := by rw [← Array.length_toList, hlist, List.length_map]
    have hval : ∀ j : Nat, j < xs.length → scr.slots[j]? = some (.int (xs.getD j 0)) := fun j hj => by
      rw [← Array.getElem?_toList, hlist]
      simp [hj]
    have hbl : b < s.heap.size := (Array.getElem?_eq_some_iff.mp hcb).1
    have hX : va_X b xs.length (fun j => xs.getD j 0) s s.heap := ⟨scr, hcb, hof, hkn, hsz, hval⟩
    have K : W p l e room_1 s m #[Value.ref b] below meth c s₁.heap [] 0 0 (lw_Z below #[Value.ref b] s) (entryFrame m ([Value.ref b] : List Value).toArray 4) := by
      rw [hh0]
      exact whole_start l hbd ⟨B.exec, B.bytes, B.returns, hml, hown, hts, hX, hbl, B.notSynchronized, hgv⟩
    obtain ⟨t, a1, o, b1, b2, b3⟩ := K s₁ rfl X₀
    exact ⟨t, o, a1, b1, b2, b3⟩
theorem lw_pre_spec {args : Array Value} {s : State} (h : (Jvm.Cond.and given_1 narrow_1).before args s = true) (hr : rest_1_c.before args s = true) : ∃ (b : Addr) (xs : List Int32), lw_P b xs args s := by
  have hs := flat_of_before _ h
  have hq := flat_of_before _ hr
  have hc : (Cond.count 1).before args s = true := hs _ (by decide +kernel)
  have harr : (Cond.arrayOf (.arg 0) .int).before args s = true := hs _ (by decide +kernel)
  have hle : (Cond.le (.length (.arg 0)) (.int 3072)).before args s = true := hs _ (by decide +kernel)
  have hlen : (Cond.isInt (.length (.arg 0))).before args s = true := hq _ (by decide +kernel)
  have hall : (Cond.all (.arg 0) (.isInt (.elem (.arg 0) (.index 0)))).before args s = true := hq _ (by decide +kernel)
  obtain ⟨b, xs, hb, hx⟩ := State.ints_of_pre rfl harr hlen hall
  have hsm : xs.length < 2 ^ 31 := hx.choose_spec.2.2.2
  have hev : (Term.length (.arg 0)).eval args s none [] s = some (.int xs.length.toInt32) := hx.length_eval hb
  have hv := Cond.le_ints hev (show (Term.int 3072).eval args s none [] s = some (.int 3072) from rfl)
  have hd : xs.length.toInt32 ≤ 3072 := by
    simpa [Cond.before, Cond.holds, hv] using hle
  have hN : xs.length ≤ 3072 := (Int32.ofNat_le_ofNat hsm (by decide)).mp (show Int32.ofNat xs.length ≤ Int32.ofNat 3072 from hd)
  exact ⟨b, xs, Cond.one_arg hc (show args[0]? = some (.ref b) from hb), hx, hN, h⟩
theorem lw_comes (l : Launch) : Comes l x (Jvm.Cond.code x code maxLocals ret :: tables_1) room_1 (fun tb e args s => Calls_1 tb e args s ∧ rest_1 tb e args s ∧ Pre_1 tb e args s)
    (fun _ _ args s o t => lw_Q args s o t) := by
  intro p e ha hc hk s m args below hf hfit hheap happ hpre
  obtain ⟨b, xs, hP⟩ := lw_pre_spec hpre.2.2 hpre.2.1
  obtain ⟨k, o, h1, h2, h3, hQ⟩ := lw_walk l b xs p e ha hc hk s m args below hf ((Spec.applies_iff_loose hf).mp happ).1 hP trivial
  exact ⟨k, o, h1, h2, h3, hQ⟩
theorem lw_frame {s t : State} {o : Outcome} {args : Array Value} (h : Framed s o t [] 6 4010) :
    Framed s o t (fieldLocs frame_1_writes args s ++ arrayLocs frame_1_arrays args s ++ staticLocs frame_1_statics s) 6 4010 := h
theorem lw_limb (L : Cond) (hL : ∀ (args : Array Value) (s t : State), L.after args s (.returned (some (.int 1))) t = true) :
    ArmFor flags0 classFile x code maxLocals ret World_1 tables_1 room_1 Calls_1 rest_1 Pre_1
      (fun tb e a s o t => postC L tb e a s o t ∧ Framed s o t (fieldLocs frame_1_writes a s ++ arrayLocs frame_1_arrays a s ++ staticLocs frame_1_statics s) 6 4010) := by
  intro l _ _ _ p e ha hc hk s m args below hf hfit hheap happ hpre
  obtain ⟨k, o, h1, h2, h3, rfl, hF⟩ := lw_comes l p e ha hc hk s m args below hf hfit hheap happ hpre
  exact ⟨k, _, h1, h2, h3, hL args s _, lw_frame hF⟩
theorem i_vc : Claimed_1_1 ∧ Claimed_1_2 := ⟨lw_limb limb_1_1 (fun args s t => by simp [limb_1_1, Cond.after, Cond.holds, Cond.value]), lw_limb limb_1_2 (fun args s t => Cond.after_iff.mpr (by
  first | (rw [show limb_1_2 = Cond.eq .result (.int 1) from rfl, Cond.eq_ints (x := 1) (y := 1) rfl rfl]; simp; done) | (simp [limb_1_2, Cond.value, Term.eval]; done)))⟩
end
