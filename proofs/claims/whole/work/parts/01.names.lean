-- ===== PART A: goes FIRST, ahead of the names: the tables' words, and 'selects' of the private methods out of them =====
/-- a private method of a class that the tables say can be made, by its rows of tables_1 -/
def lw_okq (q : MethodName × Nat) : Prop := (q.1.cls ≠ "java/lang/invoke/MethodHandle" ∧ q.1.cls ≠ "java/lang/invoke/VarHandle") ∧ Cond.instantiable q.1.cls q.2 ∈ tables_1 ∧ Cond.privateMethod q.1 ∈ tables_1 ∧ Cond.instanceMethod q.1 ∈ tables_1
theorem lw_p0 : lw_okq (⟨"GroupedNumbers", "appendToRow", "(I)V"⟩, 5) := ⟨⟨by decide +kernel, by decide +kernel⟩, List.mem_of_getElem? (i := 5) (by decide +kernel), List.mem_of_getElem? (i := 34) (by decide +kernel), List.mem_of_getElem? (i := 35) (by decide +kernel)⟩
theorem lw_p1 : lw_okq (⟨"GroupedNumbers", "countGroups", "(II)I"⟩, 5) := ⟨⟨by decide +kernel, by decide +kernel⟩, List.mem_of_getElem? (i := 5) (by decide +kernel), List.mem_of_getElem? (i := 52) (by decide +kernel), List.mem_of_getElem? (i := 53) (by decide +kernel)⟩
theorem lw_p2 : lw_okq (⟨"GroupedNumbers", "joinGroups", "(II)J"⟩, 5) := ⟨⟨by decide +kernel, by decide +kernel⟩, List.mem_of_getElem? (i := 5) (by decide +kernel), List.mem_of_getElem? (i := 62) (by decide +kernel), List.mem_of_getElem? (i := 63) (by decide +kernel)⟩
theorem lw_p3 : lw_okq (⟨"GroupedNumbers", "appendToOutput", "(JI)V"⟩, 5) := ⟨⟨by decide +kernel, by decide +kernel⟩, List.mem_of_getElem? (i := 5) (by decide +kernel), List.mem_of_getElem? (i := 90) (by decide +kernel), List.mem_of_getElem? (i := 91) (by decide +kernel)⟩
theorem lw_p4 : lw_okq (⟨"GroupedNumbersModel", "word", "(I)V"⟩, 5) := ⟨⟨by decide +kernel, by decide +kernel⟩, List.mem_of_getElem? (i := 106) (by decide +kernel), List.mem_of_getElem? (i := 133) (by decide +kernel), List.mem_of_getElem? (i := 134) (by decide +kernel)⟩
def lw_privs_1 : List (MethodName × Nat) := [(⟨"GroupedNumbers", "appendToRow", "(I)V"⟩, 5), (⟨"GroupedNumbers", "countGroups", "(II)I"⟩, 5), (⟨"GroupedNumbers", "joinGroups", "(II)J"⟩, 5), (⟨"GroupedNumbers", "appendToOutput", "(JI)V"⟩, 5), (⟨"GroupedNumbersModel", "word", "(I)V"⟩, 5)]
theorem lw_r1 : ∀ q ∈ lw_privs_1, lw_okq q := List.forall_mem_cons.mpr ⟨lw_p0, List.forall_mem_cons.mpr ⟨lw_p1, List.forall_mem_cons.mpr ⟨lw_p2, List.forall_mem_cons.mpr ⟨lw_p3, List.forall_mem_cons.mpr ⟨lw_p4, fun _ h => absurd h List.not_mem_nil⟩⟩⟩⟩⟩
def lw_privs : List (MethodName × Nat) := lw_privs_1
def lw_tbl : List Cond := k2_sels lw_privs ++ tables_1
theorem lw_privs_ok : ∀ q ∈ lw_privs, lw_okq q := lw_r1
/-! ===== BEGIN words of one list among another's, by their places ===== -/
theorem goodIn_r {big : List Cond} (ws : List Cond) (ps : List Nat) (hp : ws = ps.filterMap (fun i => big[i]?)) (h : ws.all goodWord = true) : GoodIn big ws := by
  intro w hw
  have h1 := List.all_eq_true.mp h w hw
  rw [hp] at hw
  obtain ⟨i, -, hi⟩ := List.mem_filterMap.mp hw
  have hm : w ∈ big := by first | exact List.mem_of_getElem? hi | exact List.getElem?_mem hi
  exact ⟨hm, good_of_word h1⟩
theorem goodIn_app {big a b : List Cond} (ha : GoodIn big a) (hb : GoodIn big b) : GoodIn big (a ++ b) := fun w h => (List.mem_append.mp h).elim (ha w) (hb w)
theorem goodIn_ca {big a b : List Cond} {c : Cond} (ha : GoodIn big (c :: a)) (hb : GoodIn big b) : GoodIn big (c :: (a ++ b)) := fun w h => (List.mem_cons.mp h).elim (fun e => ha w (List.mem_cons.mpr (Or.inl e))) (fun h => (List.mem_append.mp h).elim (fun h => ha w (List.mem_cons.mpr (Or.inr h))) (hb w))
theorem goodIn_sub {big ws : List Cond} (hm : ∀ w ∈ ws, w ∈ big) (h : ws.all goodWord = true) : GoodIn big ws := fun w hw => ⟨hm w hw, good_of_word (List.all_eq_true.mp h w hw)⟩
/-! ===== END ===== -/

/-! ===== BEGIN printed: names, fields, word lists, decode rows ===== -/
def RX0 : String := "GroupedNumbers"
def TX0 : u_T := fun k => match k with
  | 0 => ("GroupedNumbers", "row", "[I", true)
  | 1 => ("GroupedNumbers", "rowLength", "I", false)
  | 2 => ("GroupedNumbers", "output", "[I", true)
  | 3 => ("GroupedNumbers", "outputLength", "I", false)
  | _ => ("GroupedNumbers", "lastRead", "J", false)
def tyX0 : Nat → FieldType := fun k => match k with
  | 0 => .array .int
  | 1 => .int
  | 2 => .array .int
  | 3 => .int
  | _ => .long
abbrev wsX00 : List Cond := u_ws RX0 TX0 5
theorem nmX0 : ∀ a, a < 5 → ∀ b, b < 5 → a ≠ b → (TX0 a).2.1 ≠ (TX0 b).2.1 := by decide +kernel
theorem tyX0_ok : ∀ k, k < 5 → parseFieldDescriptor (TX0 k).2.2.1 = some (tyX0 k) := by decide +kernel
abbrev cX0_init : ByteArray := prog_1_method_1_code
def yX0_init : MethodName := ⟨RX0, "<init>", "()V"⟩
abbrev cX0_feed : ByteArray := prog_1_method_2_code
def yX0_feed : MethodName := ⟨RX0, "feed", "(IIIII)I"⟩
abbrev cX0_end : ByteArray := prog_1_method_3_code
def yX0_end : MethodName := ⟨RX0, "end", "(I)I"⟩
abbrev cX0_read : ByteArray := prog_1_method_4_code
def yX0_read : MethodName := ⟨RX0, "read", "(II)I"⟩
abbrev cX0_value : ByteArray := prog_1_method_5_code
def yX0_value : MethodName := ⟨RX0, "value", "()J"⟩
abbrev cX0_write : ByteArray := prog_1_method_6_code
def yX0_write : MethodName := ⟨RX0, "write", "(IJ)I"⟩
abbrev cX0_size : ByteArray := prog_1_method_7_code
def yX0_size : MethodName := ⟨RX0, "size", "()I"⟩
abbrev cX0_at : ByteArray := prog_1_method_8_code
def yX0_at : MethodName := ⟨RX0, "at", "(I)I"⟩
abbrev cX0_clear : ByteArray := prog_1_method_9_code
def yX0_clear : MethodName := ⟨RX0, "clear", "()V"⟩
abbrev cX0_isKind : ByteArray := prog_1_method_10_code
def yX0_isKind : MethodName := ⟨RX0, "isKind", "(I)Z"⟩
abbrev cX0_mostGroups : ByteArray := prog_1_method_11_code
def yX0_mostGroups : MethodName := ⟨RX0, "mostGroups", "(I)I"⟩
abbrev cX0_mayEndLongest : ByteArray := prog_1_method_12_code
def yX0_mayEndLongest : MethodName := ⟨RX0, "mayEndLongest", "(II)Z"⟩
abbrev cX0_isNumberOf : ByteArray := prog_1_method_13_code
def yX0_isNumberOf : MethodName := ⟨RX0, "isNumberOf", "(IJ)Z"⟩
abbrev cX0_groupsNeeded : ByteArray := prog_1_method_14_code
def yX0_groupsNeeded : MethodName := ⟨RX0, "groupsNeeded", "(IJ)I"⟩
abbrev cX0_fitsGroups : ByteArray := prog_1_method_15_code
def yX0_fitsGroups : MethodName := ⟨RX0, "fitsGroups", "(IJI)Z"⟩
abbrev cX0_extendSign : ByteArray := prog_1_method_16_code
def yX0_extendSign : MethodName := ⟨RX0, "extendSign", "(JII)J"⟩
abbrev cX0_countGroups : ByteArray := prog_1_method_17_code
def yX0_countGroups : MethodName := ⟨RX0, "countGroups", "(II)I"⟩
abbrev cX0_joinGroups : ByteArray := prog_1_method_18_code
def yX0_joinGroups : MethodName := ⟨RX0, "joinGroups", "(II)J"⟩
abbrev cX0_appendToRow : ByteArray := prog_1_method_19_code
def yX0_appendToRow : MethodName := ⟨RX0, "appendToRow", "(I)V"⟩
abbrev cX0_appendToOutput : ByteArray := prog_1_method_20_code
def yX0_appendToOutput : MethodName := ⟨RX0, "appendToOutput", "(JI)V"⟩
def RX1 : String := "GroupedNumbersModel"
def TX1 : u_T := fun k => match k with
  | 0 => ("GroupedNumbersModel", "row", "[B", true)
  | 1 => ("GroupedNumbersModel", "out", "[B", true)
  | 2 => ("GroupedNumbersModel", "rows", "I", false)
  | 3 => ("GroupedNumbersModel", "outs", "I", false)
  | _ => ("GroupedNumbersModel", "value", "J", false)
def tyX1 : Nat → FieldType := fun k => match k with
  | 0 => .array .byte
  | 1 => .array .byte
  | 2 => .int
  | 3 => .int
  | _ => .long
abbrev wsX10 : List Cond := u_ws RX1 TX1 5
theorem nmX1 : ∀ a, a < 5 → ∀ b, b < 5 → a ≠ b → (TX1 a).2.1 ≠ (TX1 b).2.1 := by decide +kernel
theorem tyX1_ok : ∀ k, k < 5 → parseFieldDescriptor (TX1 k).2.2.1 = some (tyX1 k) := by decide +kernel
abbrev cX1_init : ByteArray := prog_3_method_1_code
def yX1_init : MethodName := ⟨RX1, "<init>", "()V"⟩
abbrev cX1_feed : ByteArray := prog_3_method_3_code
def yX1_feed : MethodName := ⟨RX1, "feed", "(IIIII)I"⟩
abbrev cX1_word : ByteArray := prog_3_method_4_code
def yX1_word : MethodName := ⟨RX1, "word", "(I)V"⟩
abbrev cX1_end : ByteArray := prog_3_method_5_code
def yX1_end : MethodName := ⟨RX1, "end", "(I)I"⟩
abbrev cX1_read : ByteArray := prog_3_method_6_code
def yX1_read : MethodName := ⟨RX1, "read", "(II)I"⟩
abbrev cX1_value : ByteArray := prog_3_method_7_code
def yX1_value : MethodName := ⟨RX1, "value", "()J"⟩
abbrev cX1_isEnough : ByteArray := prog_3_method_8_code
def yX1_isEnough : MethodName := ⟨RX1, "isEnough", "(IJI)Z"⟩
abbrev cX1_write : ByteArray := prog_3_method_9_code
def yX1_write : MethodName := ⟨RX1, "write", "(IJ)I"⟩
abbrev cX1_size : ByteArray := prog_3_method_10_code
def yX1_size : MethodName := ⟨RX1, "size", "()I"⟩
abbrev cX1_at : ByteArray := prog_3_method_11_code
def yX1_at : MethodName := ⟨RX1, "at", "(I)I"⟩
abbrev cX1_clear : ByteArray := prog_3_method_12_code
def yX1_clear : MethodName := ⟨RX1, "clear", "()V"⟩
def RJ9 : String := "java/lang/Math"
def TJ9 : u_T := fun k => match k with
  | _ => ("", "", "", false)
def tyJ9 : Nat → FieldType := fun k => match k with
  | _ => .int
abbrev wsJ90 : List Cond := u_ws RJ9 TJ9 0
theorem nmJ9 : ∀ a, a < 0 → ∀ b, b < 0 → a ≠ b → (TJ9 a).2.1 ≠ (TJ9 b).2.1 := by decide +kernel
theorem tyJ9_ok : ∀ k, k < 0 → parseFieldDescriptor (TJ9 k).2.2.1 = some (tyJ9 k) := by decide +kernel
abbrev cJ9_min_7cf53 : ByteArray := prog_4_method_69_code
def yJ9_min_7cf53 : MethodName := ⟨RJ9, "min", "(II)I"⟩
def RL : String := "GroupedNumbersLaw"
abbrev cL_law : ByteArray := code
def yL_law : MethodName := ⟨RL, "law", "([I)Z"⟩
def wsX0_init : List Cond := .code yX0_init cX0_init 1 none :: ([.methodLink RX0 1 objectInit, .instanceMethod objectInit, .code objectInit ⟨#[0xb1]⟩ 1 none, .arrayClass .int, .fieldLink RX0 9 "GroupedNumbers" "row" "[I", .fieldLink RX0 13 "GroupedNumbers" "rowLength" "I", .fieldLink RX0 17 "GroupedNumbers" "output" "[I", .fieldLink RX0 20 "GroupedNumbers" "outputLength" "I", .fieldLink RX0 23 "GroupedNumbers" "lastRead" "J"] ++ wsX00)
def wsX0_appendToRow : List Cond := .code yX0_appendToRow cX0_appendToRow 3 none :: ([.fieldLink RX0 9 "GroupedNumbers" "row" "[I", .fieldLink RX0 13 "GroupedNumbers" "rowLength" "I"] ++ wsX00)
def wsX0_feed : List Cond := .code yX0_feed cX0_feed 6 (some .int) :: ([.fieldLink RX0 13 "GroupedNumbers" "rowLength" "I", .methodLink RX0 27 yX0_appendToRow, .instanceMethod yX0_appendToRow, .selects RX0 yX0_appendToRow yX0_appendToRow, .initialized RX0, .code yX0_appendToRow cX0_appendToRow 3 none, .fieldLink RX0 9 "GroupedNumbers" "row" "[I"] ++ wsX00)
def wsX0_end : List Cond := .code yX0_end cX0_end 2 (some .int) :: ([.fieldLink RX0 13 "GroupedNumbers" "rowLength" "I"] ++ wsX00)
def wsX0_isKind : List Cond := .code yX0_isKind cX0_isKind 1 (some .boolean) :: ([])
def wsX0_mostGroups : List Cond := .code yX0_mostGroups cX0_mostGroups 1 (some .int) :: ([])
def wsX0_countGroups : List Cond := .code yX0_countGroups cX0_countGroups 5 (some .int) :: ([.fieldLink RX0 13 "GroupedNumbers" "rowLength" "I", .methodLink RX0 79 Lib.Math.min.name, .static Lib.Math.min.name, .initialized "java/lang/Math", .code Lib.Math.min.name Lib.Math.min.code 2 (some .int), .fieldLink RX0 9 "GroupedNumbers" "row" "[I"] ++ wsX00)
def wsX0_mayEndLongest : List Cond := .code yX0_mayEndLongest cX0_mayEndLongest 2 (some .boolean) :: ([])
def wsX0_joinGroups : List Cond := .code yX0_joinGroups cX0_joinGroups 8 (some .long) :: ([.fieldLink RX0 9 "GroupedNumbers" "row" "[I"] ++ wsX00)
def wsX0_extendSign : List Cond := .code yX0_extendSign cX0_extendSign 5 (some .long) :: ([.constantLong RX0 77 (-1)])
def wsX0_read_r1 : List Cond := [Cond.fieldLink RX0 13 "GroupedNumbers" "rowLength" "I", Cond.fieldLink RX0 9 "GroupedNumbers" "row" "[I", Cond.fieldLink RX0 23 "GroupedNumbers" "lastRead" "J", Cond.methodLink RX0 31 yX0_isKind, Cond.static yX0_isKind, Cond.initialized RX0, Cond.code yX0_isKind cX0_isKind 1 (some .boolean), Cond.methodLink RX0 35 yX0_mostGroups, Cond.static yX0_mostGroups, Cond.code yX0_mostGroups cX0_mostGroups 1 (some .int), Cond.methodLink RX0 39 yX0_countGroups, Cond.instanceMethod yX0_countGroups, Cond.selects RX0 yX0_countGroups yX0_countGroups, Cond.code yX0_countGroups cX0_countGroups 5 (some .int), Cond.methodLink RX0 79 Lib.Math.min.name, Cond.static Lib.Math.min.name, Cond.initialized "java/lang/Math", Cond.code Lib.Math.min.name Lib.Math.min.code 2 (some .int), Cond.methodLink RX0 43 yX0_mayEndLongest, Cond.static yX0_mayEndLongest, Cond.code yX0_mayEndLongest cX0_mayEndLongest 2 (some .boolean), Cond.methodLink RX0 47 yX0_joinGroups, Cond.instanceMethod yX0_joinGroups, Cond.selects RX0 yX0_joinGroups yX0_joinGroups]
def wsX0_read_r2 : List Cond := [Cond.code yX0_joinGroups cX0_joinGroups 8 (some .long), Cond.methodLink RX0 51 yX0_extendSign, Cond.static yX0_extendSign, Cond.code yX0_extendSign cX0_extendSign 5 (some .long), Cond.constantLong RX0 77 (-1)]
def wsX0_read : List Cond := .code yX0_read cX0_read 7 (some .int) :: ((wsX0_read_r1 ++ wsX0_read_r2) ++ wsX00)
def wsX0_value : List Cond := .code yX0_value cX0_value 1 (some .long) :: ([.fieldLink RX0 23 "GroupedNumbers" "lastRead" "J"] ++ wsX00)
def wsX0_isNumberOf : List Cond := .code yX0_isNumberOf cX0_isNumberOf 3 (some .boolean) :: ([.constantLong RX0 67 (4294967295), .constantLong RX0 69 (-2147483648), .constantLong RX0 71 (2147483647)])
def wsX0_fitsGroups : List Cond := .code yX0_fitsGroups cX0_fitsGroups 6 (some .boolean) :: ([.constantLong RX0 77 (-1)])
def wsX0_groupsNeeded : List Cond := .code yX0_groupsNeeded cX0_groupsNeeded 5 (some .int) :: ([.methodLink RX0 35 yX0_mostGroups, .static yX0_mostGroups, .initialized RX0, .code yX0_mostGroups cX0_mostGroups 1 (some .int), .methodLink RX0 73 yX0_fitsGroups, .static yX0_fitsGroups, .code yX0_fitsGroups cX0_fitsGroups 6 (some .boolean), .constantLong RX0 77 (-1)])
def wsX0_appendToOutput : List Cond := .code yX0_appendToOutput cX0_appendToOutput 6 none :: ([.fieldLink RX0 17 "GroupedNumbers" "output" "[I", .fieldLink RX0 20 "GroupedNumbers" "outputLength" "I"] ++ wsX00)
def wsX0_write_r1 : List Cond := [Cond.fieldLink RX0 20 "GroupedNumbers" "outputLength" "I", Cond.methodLink RX0 31 yX0_isKind, Cond.static yX0_isKind, Cond.initialized RX0, Cond.code yX0_isKind cX0_isKind 1 (some .boolean), Cond.methodLink RX0 55 yX0_isNumberOf, Cond.static yX0_isNumberOf, Cond.code yX0_isNumberOf cX0_isNumberOf 3 (some .boolean), Cond.constantLong RX0 67 (4294967295), Cond.constantLong RX0 69 (-2147483648), Cond.constantLong RX0 71 (2147483647), Cond.methodLink RX0 59 yX0_groupsNeeded, Cond.static yX0_groupsNeeded, Cond.code yX0_groupsNeeded cX0_groupsNeeded 5 (some .int), Cond.methodLink RX0 35 yX0_mostGroups, Cond.static yX0_mostGroups, Cond.code yX0_mostGroups cX0_mostGroups 1 (some .int), Cond.methodLink RX0 73 yX0_fitsGroups, Cond.static yX0_fitsGroups, Cond.code yX0_fitsGroups cX0_fitsGroups 6 (some .boolean), Cond.constantLong RX0 77 (-1), Cond.methodLink RX0 63 yX0_appendToOutput, Cond.instanceMethod yX0_appendToOutput, Cond.selects RX0 yX0_appendToOutput yX0_appendToOutput]
def wsX0_write_r2 : List Cond := [Cond.code yX0_appendToOutput cX0_appendToOutput 6 none, Cond.fieldLink RX0 17 "GroupedNumbers" "output" "[I"]
def wsX0_write : List Cond := .code yX0_write cX0_write 5 (some .int) :: ((wsX0_write_r1 ++ wsX0_write_r2) ++ wsX00)
def wsX0_size : List Cond := .code yX0_size cX0_size 1 (some .int) :: ([.fieldLink RX0 20 "GroupedNumbers" "outputLength" "I"] ++ wsX00)
def wsX0_at : List Cond := .code yX0_at cX0_at 2 (some .int) :: ([.fieldLink RX0 20 "GroupedNumbers" "outputLength" "I", .fieldLink RX0 17 "GroupedNumbers" "output" "[I"] ++ wsX00)
def wsX0_clear : List Cond := .code yX0_clear cX0_clear 1 none :: ([.fieldLink RX0 20 "GroupedNumbers" "outputLength" "I", .fieldLink RX0 13 "GroupedNumbers" "rowLength" "I"] ++ wsX00)
def wsX1_init : List Cond := .code yX1_init cX1_init 1 none :: ([.methodLink RX1 1 objectInit, .instanceMethod objectInit, .code objectInit ⟨#[0xb1]⟩ 1 none, .arrayClass .byte, .fieldLink RX1 9 "GroupedNumbersModel" "row" "[B", .fieldLink RX1 13 "GroupedNumbersModel" "out" "[B"] ++ wsX10)
def wsX1_word : List Cond := .code yX1_word cX1_word 3 none :: ([.fieldLink RX1 9 "GroupedNumbersModel" "row" "[B", .fieldLink RX1 16 "GroupedNumbersModel" "rows" "I"] ++ wsX10)
def wsX1_feed : List Cond := .code yX1_feed cX1_feed 6 (some .int) :: ([.fieldLink RX1 16 "GroupedNumbersModel" "rows" "I", .methodLink RX1 20 yX1_word, .instanceMethod yX1_word, .selects RX1 yX1_word yX1_word, .initialized RX1, .code yX1_word cX1_word 3 none, .fieldLink RX1 9 "GroupedNumbersModel" "row" "[B"] ++ wsX10)
def wsX1_end : List Cond := .code yX1_end cX1_end 2 (some .int) :: ([.fieldLink RX1 16 "GroupedNumbersModel" "rows" "I"] ++ wsX10)
def wsX1_read : List Cond := .code yX1_read cX1_read 9 (some .int) :: ([.fieldLink RX1 16 "GroupedNumbersModel" "rows" "I", .fieldLink RX1 9 "GroupedNumbersModel" "row" "[B", .constantLong RX1 24 (-1), .fieldLink RX1 26 "GroupedNumbersModel" "value" "J"] ++ wsX10)
def wsX1_value : List Cond := .code yX1_value cX1_value 1 (some .long) :: ([.fieldLink RX1 26 "GroupedNumbersModel" "value" "J"] ++ wsX10)
def wsX1_isEnough : List Cond := .code yX1_isEnough cX1_isEnough 5 (some .boolean) :: ([.constantLong RX1 24 (-1)])
def wsX1_write : List Cond := .code yX1_write cX1_write 7 (some .int) :: ([.constantLong RX1 30 (4294967295), .fieldLink RX1 36 "GroupedNumbersModel" "outs" "I", .methodLink RX1 39 Lib.Math.min.name, .static Lib.Math.min.name, .initialized "java/lang/Math", .code Lib.Math.min.name Lib.Math.min.code 2 (some .int), .fieldLink RX1 13 "GroupedNumbersModel" "out" "[B", .methodLink RX1 32 yX1_isEnough, .static yX1_isEnough, .initialized RX1, .code yX1_isEnough cX1_isEnough 5 (some .boolean), .constantLong RX1 24 (-1)] ++ wsX10)
def wsX1_size : List Cond := .code yX1_size cX1_size 1 (some .int) :: ([.fieldLink RX1 36 "GroupedNumbersModel" "outs" "I"] ++ wsX10)
def wsX1_at : List Cond := .code yX1_at cX1_at 2 (some .int) :: ([.fieldLink RX1 36 "GroupedNumbersModel" "outs" "I", .fieldLink RX1 13 "GroupedNumbersModel" "out" "[B"] ++ wsX10)
def wsX1_clear : List Cond := .code yX1_clear cX1_clear 1 none :: ([.fieldLink RX1 16 "GroupedNumbersModel" "rows" "I", .fieldLink RX1 36 "GroupedNumbersModel" "outs" "I"] ++ wsX10)
def wsJ9_min_7cf53 : List Cond := .code yJ9_min_7cf53 cJ9_min_7cf53 2 (some .int) :: ([])
def wsL_law_r1 : List Cond := [Cond.classLink RL 7 RX0, Cond.instantiable RX0 5, Cond.initialized RX0, Cond.classLink RL 10 RX1, Cond.instantiable RX1 5, Cond.initialized RX1, Cond.constantLong RL 33 (4294967295), Cond.methodLink RL 9 yX0_init, Cond.instanceMethod yX0_init, Cond.code yX0_init cX0_init 1 none, Cond.methodLink RX0 1 objectInit, Cond.instanceMethod objectInit, Cond.code objectInit ⟨#[0xb1]⟩ 1 none, Cond.arrayClass .int, Cond.fieldLink RX0 9 "GroupedNumbers" "row" "[I", Cond.fieldLink RX0 13 "GroupedNumbers" "rowLength" "I", Cond.fieldLink RX0 17 "GroupedNumbers" "output" "[I", Cond.fieldLink RX0 20 "GroupedNumbers" "outputLength" "I", Cond.fieldLink RX0 23 "GroupedNumbers" "lastRead" "J", Cond.methodLink RL 12 yX1_init, Cond.instanceMethod yX1_init, Cond.code yX1_init cX1_init 1 none, Cond.methodLink RX1 1 objectInit, Cond.arrayClass .byte]
def wsL_law_r2 : List Cond := [Cond.fieldLink RX1 9 "GroupedNumbersModel" "row" "[B", Cond.fieldLink RX1 13 "GroupedNumbersModel" "out" "[B", Cond.methodLink RL 13 yX0_feed, Cond.instanceMethod yX0_feed, Cond.selects RX0 yX0_feed yX0_feed, Cond.code yX0_feed cX0_feed 6 (some .int), Cond.methodLink RX0 27 yX0_appendToRow, Cond.instanceMethod yX0_appendToRow, Cond.selects RX0 yX0_appendToRow yX0_appendToRow, Cond.code yX0_appendToRow cX0_appendToRow 3 none, Cond.methodLink RL 17 yX1_feed, Cond.instanceMethod yX1_feed, Cond.selects RX1 yX1_feed yX1_feed, Cond.code yX1_feed cX1_feed 6 (some .int), Cond.fieldLink RX1 16 "GroupedNumbersModel" "rows" "I", Cond.methodLink RX1 20 yX1_word, Cond.instanceMethod yX1_word, Cond.selects RX1 yX1_word yX1_word, Cond.code yX1_word cX1_word 3 none, Cond.methodLink RL 18 yX0_end, Cond.instanceMethod yX0_end, Cond.selects RX0 yX0_end yX0_end, Cond.code yX0_end cX0_end 2 (some .int), Cond.methodLink RL 22 yX1_end]
def wsL_law_r3 : List Cond := [Cond.instanceMethod yX1_end, Cond.selects RX1 yX1_end yX1_end, Cond.code yX1_end cX1_end 2 (some .int), Cond.methodLink RL 23 yX0_read, Cond.instanceMethod yX0_read, Cond.selects RX0 yX0_read yX0_read, Cond.code yX0_read cX0_read 7 (some .int), Cond.methodLink RX0 31 yX0_isKind, Cond.static yX0_isKind, Cond.code yX0_isKind cX0_isKind 1 (some .boolean), Cond.methodLink RX0 35 yX0_mostGroups, Cond.static yX0_mostGroups, Cond.code yX0_mostGroups cX0_mostGroups 1 (some .int), Cond.methodLink RX0 39 yX0_countGroups, Cond.instanceMethod yX0_countGroups, Cond.selects RX0 yX0_countGroups yX0_countGroups, Cond.code yX0_countGroups cX0_countGroups 5 (some .int), Cond.methodLink RX0 79 Lib.Math.min.name, Cond.static Lib.Math.min.name, Cond.initialized "java/lang/Math", Cond.code Lib.Math.min.name Lib.Math.min.code 2 (some .int), Cond.methodLink RX0 43 yX0_mayEndLongest, Cond.static yX0_mayEndLongest, Cond.code yX0_mayEndLongest cX0_mayEndLongest 2 (some .boolean)]
def wsL_law_r4 : List Cond := [Cond.methodLink RX0 47 yX0_joinGroups, Cond.instanceMethod yX0_joinGroups, Cond.selects RX0 yX0_joinGroups yX0_joinGroups, Cond.code yX0_joinGroups cX0_joinGroups 8 (some .long), Cond.methodLink RX0 51 yX0_extendSign, Cond.static yX0_extendSign, Cond.code yX0_extendSign cX0_extendSign 5 (some .long), Cond.constantLong RX0 77 (-1), Cond.methodLink RL 27 yX1_read, Cond.instanceMethod yX1_read, Cond.selects RX1 yX1_read yX1_read, Cond.code yX1_read cX1_read 9 (some .int), Cond.constantLong RX1 24 (-1), Cond.fieldLink RX1 26 "GroupedNumbersModel" "value" "J", Cond.methodLink RL 28 yX0_value, Cond.instanceMethod yX0_value, Cond.selects RX0 yX0_value yX0_value, Cond.code yX0_value cX0_value 1 (some .long), Cond.methodLink RL 32 yX1_value, Cond.instanceMethod yX1_value, Cond.selects RX1 yX1_value yX1_value, Cond.code yX1_value cX1_value 1 (some .long), Cond.methodLink RL 35 yX0_write, Cond.instanceMethod yX0_write]
def wsL_law_r5 : List Cond := [Cond.selects RX0 yX0_write yX0_write, Cond.code yX0_write cX0_write 5 (some .int), Cond.methodLink RX0 55 yX0_isNumberOf, Cond.static yX0_isNumberOf, Cond.code yX0_isNumberOf cX0_isNumberOf 3 (some .boolean), Cond.constantLong RX0 67 (4294967295), Cond.constantLong RX0 69 (-2147483648), Cond.constantLong RX0 71 (2147483647), Cond.methodLink RX0 59 yX0_groupsNeeded, Cond.static yX0_groupsNeeded, Cond.code yX0_groupsNeeded cX0_groupsNeeded 5 (some .int), Cond.methodLink RX0 73 yX0_fitsGroups, Cond.static yX0_fitsGroups, Cond.code yX0_fitsGroups cX0_fitsGroups 6 (some .boolean), Cond.methodLink RX0 63 yX0_appendToOutput, Cond.instanceMethod yX0_appendToOutput, Cond.selects RX0 yX0_appendToOutput yX0_appendToOutput, Cond.code yX0_appendToOutput cX0_appendToOutput 6 none, Cond.methodLink RL 39 yX1_write, Cond.instanceMethod yX1_write, Cond.selects RX1 yX1_write yX1_write, Cond.code yX1_write cX1_write 7 (some .int), Cond.constantLong RX1 30 (4294967295), Cond.fieldLink RX1 36 "GroupedNumbersModel" "outs" "I"]
def wsL_law_r6 : List Cond := [Cond.methodLink RX1 39 Lib.Math.min.name, Cond.methodLink RX1 32 yX1_isEnough, Cond.static yX1_isEnough, Cond.code yX1_isEnough cX1_isEnough 5 (some .boolean), Cond.methodLink RL 40 yX0_size, Cond.instanceMethod yX0_size, Cond.selects RX0 yX0_size yX0_size, Cond.code yX0_size cX0_size 1 (some .int), Cond.methodLink RL 44 yX1_size, Cond.instanceMethod yX1_size, Cond.selects RX1 yX1_size yX1_size, Cond.code yX1_size cX1_size 1 (some .int), Cond.methodLink RL 45 yX0_at, Cond.instanceMethod yX0_at, Cond.selects RX0 yX0_at yX0_at, Cond.code yX0_at cX0_at 2 (some .int), Cond.methodLink RL 48 yX1_at, Cond.instanceMethod yX1_at, Cond.selects RX1 yX1_at yX1_at, Cond.code yX1_at cX1_at 2 (some .int), Cond.methodLink RL 49 yX0_clear, Cond.instanceMethod yX0_clear, Cond.selects RX0 yX0_clear yX0_clear, Cond.code yX0_clear cX0_clear 1 none]
def wsL_law_r7 : List Cond := [Cond.methodLink RL 52 yX1_clear, Cond.instanceMethod yX1_clear, Cond.selects RX1 yX1_clear yX1_clear, Cond.code yX1_clear cX1_clear 1 none]
def wsL_law : List Cond := (wsL_law_r1 ++ (wsL_law_r2 ++ (wsL_law_r3 ++ (wsL_law_r4 ++ (wsL_law_r5 ++ (wsL_law_r6 ++ wsL_law_r7)))))) ++ wsX00 ++ wsX10 ++ ([] : List Cond)
set_option maxRecDepth 20000 in
theorem wsL_law_in : ∀ w ∈ wsL_law, w ∈ lw_tbl := fun w h => (goodIn_p wsL_law [13, 16, 114, 37, 41, 136, 140, 45, 144, 49, 52, 55, 59, 62, 65, 69, 72, 148, 77, 153, 81, 84, 90, 93, 97, 157, 161, 101, 166, 105, 170, 109, 174] (by decide +kernel) (by decide +kernel) w h).1
theorem inlX0 : ∀ w ∈ wsX00, w ∈ wsL_law := fun _ h => List.mem_append_left _ (List.mem_append_left _ (List.mem_append_right _ h))
theorem inX0 : ∀ w ∈ wsX00, w ∈ lw_tbl := fun w h => wsL_law_in w (inlX0 w h)
theorem inlX1 : ∀ w ∈ wsX10, w ∈ wsL_law := fun _ h => List.mem_append_left _ (List.mem_append_right _ h)
theorem inX1 : ∀ w ∈ wsX10, w ∈ lw_tbl := fun w h => wsL_law_in w (inlX1 w h)
theorem inJ9 : ∀ w ∈ wsJ90, w ∈ lw_tbl := by decide +kernel
set_option maxRecDepth 20000 in
theorem ggX0_feed_X0_appendToRow : GoodIn wsX0_feed wsX0_appendToRow := goodIn_r _ [6, 7, 1, 8, 9, 10, 11, 12] (by decide +kernel) (by decide +kernel)
set_option maxRecDepth 20000 in
theorem gX0_feed_X0_appendToRow : GoodIn wsX0_feed (wsV RX0 27 RX0 yX0_appendToRow wsX0_appendToRow) := goodIn_app (goodIn_of _ (by decide +kernel)) ggX0_feed_X0_appendToRow
set_option maxRecDepth 20000 in
theorem ggX0_read_X0_isKind : GoodIn wsX0_read wsX0_isKind := goodIn_r _ [7] (by decide +kernel) (by decide +kernel)
set_option maxRecDepth 20000 in
theorem gX0_read_X0_isKind : GoodIn wsX0_read (va_wsS RX0 31 yX0_isKind wsX0_isKind) := goodIn_app (goodIn_of _ (by decide +kernel)) ggX0_read_X0_isKind
set_option maxRecDepth 20000 in
theorem ggX0_read_X0_mostGroups : GoodIn wsX0_read wsX0_mostGroups := goodIn_r _ [10] (by decide +kernel) (by decide +kernel)
set_option maxRecDepth 20000 in
theorem gX0_read_X0_mostGroups : GoodIn wsX0_read (va_wsS RX0 35 yX0_mostGroups wsX0_mostGroups) := goodIn_app (goodIn_of _ (by decide +kernel)) ggX0_read_X0_mostGroups
set_option maxRecDepth 20000 in
theorem ggX0_read_X0_countGroups : GoodIn wsX0_read wsX0_countGroups := goodIn_r _ [14, 1, 15, 16, 17, 18, 2, 30, 31, 32, 33, 34] (by decide +kernel) (by decide +kernel)
set_option maxRecDepth 20000 in
theorem gX0_read_X0_countGroups : GoodIn wsX0_read (wsV RX0 39 RX0 yX0_countGroups wsX0_countGroups) := goodIn_app (goodIn_of _ (by decide +kernel)) ggX0_read_X0_countGroups
set_option maxRecDepth 20000 in
theorem ggX0_read_X0_mayEndLongest : GoodIn wsX0_read wsX0_mayEndLongest := goodIn_r _ [21] (by decide +kernel) (by decide +kernel)
set_option maxRecDepth 20000 in
theorem gX0_read_X0_mayEndLongest : GoodIn wsX0_read (va_wsS RX0 43 yX0_mayEndLongest wsX0_mayEndLongest) := goodIn_app (goodIn_of _ (by decide +kernel)) ggX0_read_X0_mayEndLongest
set_option maxRecDepth 20000 in
theorem ggX0_read_X0_joinGroups : GoodIn wsX0_read wsX0_joinGroups := goodIn_r _ [25, 2, 30, 31, 32, 33, 34] (by decide +kernel) (by decide +kernel)
set_option maxRecDepth 20000 in
theorem gX0_read_X0_joinGroups : GoodIn wsX0_read (wsV RX0 47 RX0 yX0_joinGroups wsX0_joinGroups) := goodIn_app (goodIn_of _ (by decide +kernel)) ggX0_read_X0_joinGroups
set_option maxRecDepth 20000 in
theorem ggX0_read_X0_extendSign : GoodIn wsX0_read wsX0_extendSign := goodIn_r _ [28, 29] (by decide +kernel) (by decide +kernel)
set_option maxRecDepth 20000 in
theorem gX0_read_X0_extendSign : GoodIn wsX0_read (va_wsS RX0 51 yX0_extendSign wsX0_extendSign) := goodIn_app (goodIn_of _ (by decide +kernel)) ggX0_read_X0_extendSign
set_option maxRecDepth 20000 in
theorem ggX0_write_X0_isKind : GoodIn wsX0_write wsX0_isKind := goodIn_r _ [5] (by decide +kernel) (by decide +kernel)
set_option maxRecDepth 20000 in
theorem gX0_write_X0_isKind : GoodIn wsX0_write (va_wsS RX0 31 yX0_isKind wsX0_isKind) := goodIn_app (goodIn_of _ (by decide +kernel)) ggX0_write_X0_isKind
set_option maxRecDepth 20000 in
theorem ggX0_write_X0_isNumberOf : GoodIn wsX0_write wsX0_isNumberOf := goodIn_r _ [8, 9, 10, 11] (by decide +kernel) (by decide +kernel)
set_option maxRecDepth 20000 in
theorem gX0_write_X0_isNumberOf : GoodIn wsX0_write (va_wsS RX0 55 yX0_isNumberOf wsX0_isNumberOf) := goodIn_app (goodIn_of _ (by decide +kernel)) ggX0_write_X0_isNumberOf
set_option maxRecDepth 20000 in
theorem ggX0_write_X0_groupsNeeded : GoodIn wsX0_write wsX0_groupsNeeded := goodIn_r _ [14, 15, 16, 4, 17, 18, 19, 20, 21] (by decide +kernel) (by decide +kernel)
set_option maxRecDepth 20000 in
theorem gX0_write_X0_groupsNeeded : GoodIn wsX0_write (va_wsS RX0 59 yX0_groupsNeeded wsX0_groupsNeeded) := goodIn_app (goodIn_of _ (by decide +kernel)) ggX0_write_X0_groupsNeeded
set_option maxRecDepth 20000 in
theorem ggX0_write_X0_appendToOutput : GoodIn wsX0_write wsX0_appendToOutput := goodIn_r _ [25, 26, 1, 27, 28, 29, 30, 31] (by decide +kernel) (by decide +kernel)
set_option maxRecDepth 20000 in
theorem gX0_write_X0_appendToOutput : GoodIn wsX0_write (wsV RX0 63 RX0 yX0_appendToOutput wsX0_appendToOutput) := goodIn_app (goodIn_of _ (by decide +kernel)) ggX0_write_X0_appendToOutput
set_option maxRecDepth 20000 in
theorem ggX0_groupsNeeded_X0_mostGroups : GoodIn wsX0_groupsNeeded wsX0_mostGroups := goodIn_r _ [4] (by decide +kernel) (by decide +kernel)
set_option maxRecDepth 20000 in
theorem gX0_groupsNeeded_X0_mostGroups : GoodIn wsX0_groupsNeeded (va_wsS RX0 35 yX0_mostGroups wsX0_mostGroups) := goodIn_app (goodIn_of _ (by decide +kernel)) ggX0_groupsNeeded_X0_mostGroups
set_option maxRecDepth 20000 in
theorem ggX0_groupsNeeded_X0_fitsGroups : GoodIn wsX0_groupsNeeded wsX0_fitsGroups := goodIn_r _ [7, 8] (by decide +kernel) (by decide +kernel)
set_option maxRecDepth 20000 in
theorem gX0_groupsNeeded_X0_fitsGroups : GoodIn wsX0_groupsNeeded (va_wsS RX0 73 yX0_fitsGroups wsX0_fitsGroups) := goodIn_app (goodIn_of _ (by decide +kernel)) ggX0_groupsNeeded_X0_fitsGroups
set_option maxRecDepth 20000 in
theorem ggX1_feed_X1_word : GoodIn wsX1_feed wsX1_word := goodIn_r _ [6, 7, 1, 8, 9, 10, 11, 12] (by decide +kernel) (by decide +kernel)
set_option maxRecDepth 20000 in
theorem gX1_feed_X1_word : GoodIn wsX1_feed (wsV RX1 20 RX1 yX1_word wsX1_word) := goodIn_app (goodIn_of _ (by decide +kernel)) ggX1_feed_X1_word
set_option maxRecDepth 20000 in
theorem ggX1_write_X1_isEnough : GoodIn wsX1_write wsX1_isEnough := goodIn_r _ [11, 12] (by decide +kernel) (by decide +kernel)
set_option maxRecDepth 20000 in
theorem gX1_write_X1_isEnough : GoodIn wsX1_write (va_wsS RX1 32 yX1_isEnough wsX1_isEnough) := goodIn_app (goodIn_of _ (by decide +kernel)) ggX1_write_X1_isEnough
set_option maxRecDepth 20000 in
theorem ggL_law_X0_init : GoodIn wsL_law wsX0_init := goodIn_r _ [9, 10, 11, 12, 13, 14, 15, 16, 17, 18, 148, 149, 150, 151, 152] (by decide +kernel) (by decide +kernel)
set_option maxRecDepth 20000 in
theorem gL_law_X0_init : GoodIn wsL_law (wsX0_init) := ggL_law_X0_init
set_option maxRecDepth 20000 in
theorem ggL_law_X1_init : GoodIn wsL_law wsX1_init := goodIn_r _ [21, 22, 11, 12, 23, 24, 25, 153, 154, 155, 156, 157] (by decide +kernel) (by decide +kernel)
set_option maxRecDepth 20000 in
theorem gL_law_X1_init : GoodIn wsL_law (wsX1_init) := ggL_law_X1_init
set_option maxRecDepth 20000 in
theorem ggL_law_X0_feed : GoodIn wsL_law wsX0_feed := goodIn_r _ [29, 15, 30, 31, 32, 2, 33, 14, 148, 149, 150, 151, 152] (by decide +kernel) (by decide +kernel)
set_option maxRecDepth 20000 in
theorem gL_law_X0_feed : GoodIn wsL_law (wsV RL 13 RX0 yX0_feed wsX0_feed) := goodIn_app (goodIn_of _ (by decide +kernel)) ggL_law_X0_feed
set_option maxRecDepth 20000 in
theorem ggL_law_X1_feed : GoodIn wsL_law wsX1_feed := goodIn_r _ [37, 38, 39, 40, 41, 5, 42, 24, 153, 154, 155, 156, 157] (by decide +kernel) (by decide +kernel)
set_option maxRecDepth 20000 in
theorem gL_law_X1_feed : GoodIn wsL_law (wsV RL 17 RX1 yX1_feed wsX1_feed) := goodIn_app (goodIn_of _ (by decide +kernel)) ggL_law_X1_feed
set_option maxRecDepth 20000 in
theorem ggL_law_X0_end : GoodIn wsL_law wsX0_end := goodIn_r _ [46, 15, 148, 149, 150, 151, 152] (by decide +kernel) (by decide +kernel)
set_option maxRecDepth 20000 in
theorem gL_law_X0_end : GoodIn wsL_law (wsV RL 18 RX0 yX0_end wsX0_end) := goodIn_app (goodIn_of _ (by decide +kernel)) ggL_law_X0_end
set_option maxRecDepth 20000 in
theorem ggL_law_X1_end : GoodIn wsL_law wsX1_end := goodIn_r _ [50, 38, 153, 154, 155, 156, 157] (by decide +kernel) (by decide +kernel)
set_option maxRecDepth 20000 in
theorem gL_law_X1_end : GoodIn wsL_law (wsV RL 22 RX1 yX1_end wsX1_end) := goodIn_app (goodIn_of _ (by decide +kernel)) ggL_law_X1_end
set_option maxRecDepth 20000 in
theorem ggL_law_X0_read : GoodIn wsL_law wsX0_read := goodIn_r _ [54, 15, 14, 18, 55, 56, 2, 57, 58, 59, 60, 61, 62, 63, 64, 65, 66, 67, 68, 69, 70, 71, 72, 73, 74, 75, 76, 77, 78, 79, 148, 149, 150, 151, 152] (by decide +kernel) (by decide +kernel)
set_option maxRecDepth 20000 in
theorem gL_law_X0_read : GoodIn wsL_law (wsV RL 23 RX0 yX0_read wsX0_read) := goodIn_app (goodIn_of _ (by decide +kernel)) ggL_law_X0_read
set_option maxRecDepth 20000 in
theorem ggL_law_X1_read : GoodIn wsL_law wsX1_read := goodIn_r _ [83, 38, 24, 84, 85, 153, 154, 155, 156, 157] (by decide +kernel) (by decide +kernel)
set_option maxRecDepth 20000 in
theorem gL_law_X1_read : GoodIn wsL_law (wsV RL 27 RX1 yX1_read wsX1_read) := goodIn_app (goodIn_of _ (by decide +kernel)) ggL_law_X1_read
set_option maxRecDepth 20000 in
theorem ggL_law_X0_value : GoodIn wsL_law wsX0_value := goodIn_r _ [89, 18, 148, 149, 150, 151, 152] (by decide +kernel) (by decide +kernel)
set_option maxRecDepth 20000 in
theorem gL_law_X0_value : GoodIn wsL_law (wsV RL 28 RX0 yX0_value wsX0_value) := goodIn_app (goodIn_of _ (by decide +kernel)) ggL_law_X0_value
set_option maxRecDepth 20000 in
theorem ggL_law_X1_value : GoodIn wsL_law wsX1_value := goodIn_r _ [93, 85, 153, 154, 155, 156, 157] (by decide +kernel) (by decide +kernel)
set_option maxRecDepth 20000 in
theorem gL_law_X1_value : GoodIn wsL_law (wsV RL 32 RX1 yX1_value wsX1_value) := goodIn_app (goodIn_of _ (by decide +kernel)) ggL_law_X1_value
set_option maxRecDepth 20000 in
theorem ggL_law_X0_write : GoodIn wsL_law wsX0_write := goodIn_r _ [97, 17, 55, 56, 2, 57, 98, 99, 100, 101, 102, 103, 104, 105, 106, 58, 59, 60, 107, 108, 109, 79, 110, 111, 112, 113, 16, 148, 149, 150, 151, 152] (by decide +kernel) (by decide +kernel)
set_option maxRecDepth 20000 in
theorem gL_law_X0_write : GoodIn wsL_law (wsV RL 35 RX0 yX0_write wsX0_write) := goodIn_app (goodIn_of _ (by decide +kernel)) ggL_law_X0_write
set_option maxRecDepth 20000 in
theorem ggL_law_X1_write : GoodIn wsL_law wsX1_write := goodIn_r _ [117, 118, 119, 120, 66, 67, 68, 25, 121, 122, 5, 123, 84, 153, 154, 155, 156, 157] (by decide +kernel) (by decide +kernel)
set_option maxRecDepth 20000 in
theorem gL_law_X1_write : GoodIn wsL_law (wsV RL 39 RX1 yX1_write wsX1_write) := goodIn_app (goodIn_of _ (by decide +kernel)) ggL_law_X1_write
set_option maxRecDepth 20000 in
theorem ggL_law_X0_size : GoodIn wsL_law wsX0_size := goodIn_r _ [127, 17, 148, 149, 150, 151, 152] (by decide +kernel) (by decide +kernel)
set_option maxRecDepth 20000 in
theorem gL_law_X0_size : GoodIn wsL_law (wsV RL 40 RX0 yX0_size wsX0_size) := goodIn_app (goodIn_of _ (by decide +kernel)) ggL_law_X0_size
set_option maxRecDepth 20000 in
theorem ggL_law_X1_size : GoodIn wsL_law wsX1_size := goodIn_r _ [131, 119, 153, 154, 155, 156, 157] (by decide +kernel) (by decide +kernel)
set_option maxRecDepth 20000 in
theorem gL_law_X1_size : GoodIn wsL_law (wsV RL 44 RX1 yX1_size wsX1_size) := goodIn_app (goodIn_of _ (by decide +kernel)) ggL_law_X1_size
set_option maxRecDepth 20000 in
theorem ggL_law_X0_at : GoodIn wsL_law wsX0_at := goodIn_r _ [135, 17, 16, 148, 149, 150, 151, 152] (by decide +kernel) (by decide +kernel)
set_option maxRecDepth 20000 in
theorem gL_law_X0_at : GoodIn wsL_law (wsV RL 45 RX0 yX0_at wsX0_at) := goodIn_app (goodIn_of _ (by decide +kernel)) ggL_law_X0_at
set_option maxRecDepth 20000 in
theorem ggL_law_X1_at : GoodIn wsL_law wsX1_at := goodIn_r _ [139, 119, 25, 153, 154, 155, 156, 157] (by decide +kernel) (by decide +kernel)
set_option maxRecDepth 20000 in
theorem gL_law_X1_at : GoodIn wsL_law (wsV RL 48 RX1 yX1_at wsX1_at) := goodIn_app (goodIn_of _ (by decide +kernel)) ggL_law_X1_at
set_option maxRecDepth 20000 in
theorem ggL_law_X0_clear : GoodIn wsL_law wsX0_clear := goodIn_r _ [143, 17, 15, 148, 149, 150, 151, 152] (by decide +kernel) (by decide +kernel)
set_option maxRecDepth 20000 in
theorem gL_law_X0_clear : GoodIn wsL_law (wsV RL 49 RX0 yX0_clear wsX0_clear) := goodIn_app (goodIn_of _ (by decide +kernel)) ggL_law_X0_clear
set_option maxRecDepth 20000 in
theorem ggL_law_X1_clear : GoodIn wsL_law wsX1_clear := goodIn_r _ [147, 38, 119, 153, 154, 155, 156, 157] (by decide +kernel) (by decide +kernel)
set_option maxRecDepth 20000 in
theorem gL_law_X1_clear : GoodIn wsL_law (wsV RL 52 RX1 yX1_clear wsX1_clear) := goodIn_app (goodIn_of _ (by decide +kernel)) ggL_law_X1_clear
abbrev vwCl : List vw_C := [(RX0, TX0, 5), (RX1, TX1, 5)]
