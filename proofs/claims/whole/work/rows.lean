section
-- ===== PART A: goes FIRST, ahead of the names: the tables' words, and 'selects' of the private methods out of them =====
/-- a private method of a class that the tables say can be made, by its rows of tables_1 -/
def lw_okq (q : MethodName × Nat) : Prop := (q.1.cls ≠ "java/lang/invoke/MethodHandle" ∧ q.1.cls ≠ "java/lang/invoke/VarHandle") ∧ Cond.instantiable q.1.cls q.2 ∈ tables_1 ∧ Cond.privateMethod q.1 ∈ tables_1 ∧ Cond.instanceMethod q.1 ∈ tables_1
theorem lw_p0 : lw_okq (⟨"EditedScanner", "scanAnew", "(III)V"⟩, 7) := ⟨⟨by decide +kernel, by decide +kernel⟩, List.mem_of_getElem? (i := 10) (by decide +kernel), List.mem_of_getElem? (i := 153) (by decide +kernel), List.mem_of_getElem? (i := 154) (by decide +kernel)⟩
theorem lw_p1 : lw_okq (⟨"EditedScanner$Findings", "has", "(I)Z"⟩, 5) := ⟨⟨by decide +kernel, by decide +kernel⟩, List.mem_of_getElem? (i := 52) (by decide +kernel), List.mem_of_getElem? (i := 184) (by decide +kernel), List.mem_of_getElem? (i := 185) (by decide +kernel)⟩
theorem lw_p2 : lw_okq (⟨"EditedScanner", "scanOne", "(I)V"⟩, 7) := ⟨⟨by decide +kernel, by decide +kernel⟩, List.mem_of_getElem? (i := 10) (by decide +kernel), List.mem_of_getElem? (i := 192) (by decide +kernel), List.mem_of_getElem? (i := 193) (by decide +kernel)⟩
theorem lw_p3 : lw_okq (⟨"EditedScannerModel", "forget", "()V"⟩, 21) := ⟨⟨by decide +kernel, by decide +kernel⟩, List.mem_of_getElem? (i := 263) (by decide +kernel), List.mem_of_getElem? (i := 269) (by decide +kernel), List.mem_of_getElem? (i := 270) (by decide +kernel)⟩
theorem lw_p4 : lw_okq (⟨"EditedScannerModel", "change", "(IIJI)V"⟩, 21) := ⟨⟨by decide +kernel, by decide +kernel⟩, List.mem_of_getElem? (i := 263) (by decide +kernel), List.mem_of_getElem? (i := 351) (by decide +kernel), List.mem_of_getElem? (i := 352) (by decide +kernel)⟩
theorem lw_p5 : lw_okq (⟨"EditedScannerModel", "goOver", "(IIII)V"⟩, 21) := ⟨⟨by decide +kernel, by decide +kernel⟩, List.mem_of_getElem? (i := 263) (by decide +kernel), List.mem_of_getElem? (i := 355) (by decide +kernel), List.mem_of_getElem? (i := 356) (by decide +kernel)⟩
theorem lw_p6 : lw_okq (⟨"EditedScannerModel", "began", "(I)Z"⟩, 21) := ⟨⟨by decide +kernel, by decide +kernel⟩, List.mem_of_getElem? (i := 263) (by decide +kernel), List.mem_of_getElem? (i := 359) (by decide +kernel), List.mem_of_getElem? (i := 360) (by decide +kernel)⟩
theorem lw_p7 : lw_okq (⟨"EditedScannerModel", "scan", "(I)Z"⟩, 21) := ⟨⟨by decide +kernel, by decide +kernel⟩, List.mem_of_getElem? (i := 263) (by decide +kernel), List.mem_of_getElem? (i := 363) (by decide +kernel), List.mem_of_getElem? (i := 364) (by decide +kernel)⟩
theorem lw_p8 : lw_okq (⟨"EditedScannerModel", "scanAll", "()V"⟩, 21) := ⟨⟨by decide +kernel, by decide +kernel⟩, List.mem_of_getElem? (i := 263) (by decide +kernel), List.mem_of_getElem? (i := 367) (by decide +kernel), List.mem_of_getElem? (i := 368) (by decide +kernel)⟩
def lw_privs_1 : List (MethodName × Nat) := [(⟨"EditedScanner", "scanAnew", "(III)V"⟩, 7), (⟨"EditedScanner$Findings", "has", "(I)Z"⟩, 5), (⟨"EditedScanner", "scanOne", "(I)V"⟩, 7), (⟨"EditedScannerModel", "forget", "()V"⟩, 21), (⟨"EditedScannerModel", "change", "(IIJI)V"⟩, 21), (⟨"EditedScannerModel", "goOver", "(IIII)V"⟩, 21), (⟨"EditedScannerModel", "began", "(I)Z"⟩, 21), (⟨"EditedScannerModel", "scan", "(I)Z"⟩, 21), (⟨"EditedScannerModel", "scanAll", "()V"⟩, 21)]
theorem lw_r1 : ∀ q ∈ lw_privs_1, lw_okq q := List.forall_mem_cons.mpr ⟨lw_p0, List.forall_mem_cons.mpr ⟨lw_p1, List.forall_mem_cons.mpr ⟨lw_p2, List.forall_mem_cons.mpr ⟨lw_p3, List.forall_mem_cons.mpr ⟨lw_p4, List.forall_mem_cons.mpr ⟨lw_p5, List.forall_mem_cons.mpr ⟨lw_p6, List.forall_mem_cons.mpr ⟨lw_p7, List.forall_mem_cons.mpr ⟨lw_p8, fun _ h => absurd h List.not_mem_nil⟩⟩⟩⟩⟩⟩⟩⟩⟩
def lw_privs : List (MethodName × Nat) := lw_privs_1
def lw_tbl : List Cond := k2_sels lw_privs ++ tables_1
theorem lw_privs_ok : ∀ q ∈ lw_privs, lw_okq q := lw_r1
def RX0 : String := "EditedScanner$Findings"
def TX0 : u_T := fun k => match k with
  | 0 => ("EditedScanner$Findings", "begins", "[I", true)
  | 1 => ("EditedScanner$Findings", "lengths", "[I", true)
  | 2 => ("EditedScanner$Findings", "kinds", "[I", true)
  | 3 => ("EditedScanner$Findings", "looks", "[I", true)
  | _ => ("EditedScanner$Findings", "size", "I", false)
def tyX0 : Nat → FieldType := fun k => match k with
  | 0 => .array .int
  | 1 => .array .int
  | 2 => .array .int
  | 3 => .array .int
  | _ => .int
abbrev wsX00 : List Cond := u_ws RX0 TX0 5
theorem nmX0 : ∀ a, a < 5 → ∀ b, b < 5 → a ≠ b → (TX0 a).2.1 ≠ (TX0 b).2.1 := by decide +kernel
theorem tyX0_ok : ∀ k, k < 5 → parseFieldDescriptor (TX0 k).2.2.1 = some (tyX0 k) := by decide +kernel
abbrev cX0_init : ByteArray := prog_2_method_1_code
def yX0_init : MethodName := ⟨RX0, "<init>", "()V"⟩
abbrev cX0_forget : ByteArray := prog_2_method_2_code
def yX0_forget : MethodName := ⟨RX0, "forget", "()V"⟩
abbrev cX0_size : ByteArray := prog_2_method_3_code
def yX0_size : MethodName := ⟨RX0, "size", "()I"⟩
abbrev cX0_failed : ByteArray := prog_2_method_4_code
def yX0_failed : MethodName := ⟨RX0, "failed", "()Z"⟩
abbrev cX0_tokens : ByteArray := prog_2_method_5_code
def yX0_tokens : MethodName := ⟨RX0, "tokens", "()I"⟩
abbrev cX0_begin : ByteArray := prog_2_method_6_code
def yX0_begin : MethodName := ⟨RX0, "begin", "(I)I"⟩
abbrev cX0_length : ByteArray := prog_2_method_7_code
def yX0_length : MethodName := ⟨RX0, "length", "(I)I"⟩
abbrev cX0_kindFound : ByteArray := prog_2_method_8_code
def yX0_kindFound : MethodName := ⟨RX0, "kindFound", "(I)I"⟩
abbrev cX0_looked : ByteArray := prog_2_method_9_code
def yX0_looked : MethodName := ⟨RX0, "looked", "(I)I"⟩
abbrev cX0_nextBegin : ByteArray := prog_2_method_10_code
def yX0_nextBegin : MethodName := ⟨RX0, "nextBegin", "()I"⟩
abbrev cX0_tokenAround : ByteArray := prog_2_method_11_code
def yX0_tokenAround : MethodName := ⟨RX0, "tokenAround", "(I)I"⟩
abbrev cX0_firstThatLookedAt : ByteArray := prog_2_method_12_code
def yX0_firstThatLookedAt : MethodName := ⟨RX0, "firstThatLookedAt", "(I)I"⟩
abbrev cX0_firstFrom : ByteArray := prog_2_method_13_code
def yX0_firstFrom : MethodName := ⟨RX0, "firstFrom", "(II)I"⟩
abbrev cX0_add : ByteArray := prog_2_method_14_code
def yX0_add : MethodName := ⟨RX0, "add", "(IIII)V"⟩
abbrev cX0_takeUpTo : ByteArray := prog_2_method_15_code
def yX0_takeUpTo : MethodName := ⟨RX0, "takeUpTo", "(LEditedScanner$Findings;I)V"⟩
abbrev cX0_takeMoved : ByteArray := prog_2_method_16_code
def yX0_takeMoved : MethodName := ⟨RX0, "takeMoved", "(LEditedScanner$Findings;II)V"⟩
abbrev cX0_has : ByteArray := prog_2_method_17_code
def yX0_has : MethodName := ⟨RX0, "has", "(I)Z"⟩
def RX1 : String := "EditedScanner$Table"
def TX1 : u_T := fun k => match k with
  | 0 => ("EditedScanner$Table", "arrows", "[I", true)
  | _ => ("EditedScanner$Table", "kinds", "[I", true)
def tyX1 : Nat → FieldType := fun k => match k with
  | 0 => .array .int
  | _ => .array .int
abbrev wsX10 : List Cond := u_ws RX1 TX1 2
theorem nmX1 : ∀ a, a < 2 → ∀ b, b < 2 → a ≠ b → (TX1 a).2.1 ≠ (TX1 b).2.1 := by decide +kernel
theorem tyX1_ok : ∀ k, k < 2 → parseFieldDescriptor (TX1 k).2.2.1 = some (tyX1 k) := by decide +kernel
abbrev cX1_init : ByteArray := prog_3_method_1_code
def yX1_init : MethodName := ⟨RX1, "<init>", "()V"⟩
abbrev cX1_forget : ByteArray := prog_3_method_2_code
def yX1_forget : MethodName := ⟨RX1, "forget", "()V"⟩
abbrev cX1_setArrow : ByteArray := prog_3_method_3_code
def yX1_setArrow : MethodName := ⟨RX1, "setArrow", "(III)Z"⟩
abbrev cX1_setKind : ByteArray := prog_3_method_4_code
def yX1_setKind : MethodName := ⟨RX1, "setKind", "(II)Z"⟩
abbrev cX1_next : ByteArray := prog_3_method_5_code
def yX1_next : MethodName := ⟨RX1, "next", "(II)I"⟩
abbrev cX1_kindOf : ByteArray := prog_3_method_6_code
def yX1_kindOf : MethodName := ⟨RX1, "kindOf", "(I)I"⟩
abbrev cX1_isState : ByteArray := prog_3_method_7_code
def yX1_isState : MethodName := ⟨RX1, "isState", "(I)Z"⟩
abbrev cX1_isSymbol : ByteArray := prog_3_method_8_code
def yX1_isSymbol : MethodName := ⟨RX1, "isSymbol", "(I)Z"⟩
def RX2 : String := "EditedScanner$Text"
def TX2 : u_T := fun k => match k with
  | 0 => ("EditedScanner$Text", "row", "[I", true)
  | _ => ("EditedScanner$Text", "size", "I", false)
def tyX2 : Nat → FieldType := fun k => match k with
  | 0 => .array .int
  | _ => .int
abbrev wsX20 : List Cond := u_ws RX2 TX2 2
theorem nmX2 : ∀ a, a < 2 → ∀ b, b < 2 → a ≠ b → (TX2 a).2.1 ≠ (TX2 b).2.1 := by decide +kernel
theorem tyX2_ok : ∀ k, k < 2 → parseFieldDescriptor (TX2 k).2.2.1 = some (tyX2 k) := by decide +kernel
abbrev cX2_init : ByteArray := prog_4_method_1_code
def yX2_init : MethodName := ⟨RX2, "<init>", "()V"⟩
abbrev cX2_forget : ByteArray := prog_4_method_2_code
def yX2_forget : MethodName := ⟨RX2, "forget", "()V"⟩
abbrev cX2_size : ByteArray := prog_4_method_3_code
def yX2_size : MethodName := ⟨RX2, "size", "()I"⟩
abbrev cX2_isEmpty : ByteArray := prog_4_method_4_code
def yX2_isEmpty : MethodName := ⟨RX2, "isEmpty", "()Z"⟩
abbrev cX2_at : ByteArray := prog_4_method_5_code
def yX2_at : MethodName := ⟨RX2, "at", "(I)I"⟩
abbrev cX2_canReplace : ByteArray := prog_4_method_6_code
def yX2_canReplace : MethodName := ⟨RX2, "canReplace", "(III)Z"⟩
abbrev cX2_replace : ByteArray := prog_4_method_7_code
def yX2_replace : MethodName := ⟨RX2, "replace", "(IIJI)V"⟩
def RX3 : String := "EditedScanner"
def TX3 : u_T := fun k => match k with
  | 0 => ("EditedScanner", "table", "LEditedScanner$Table;", true)
  | 1 => ("EditedScanner", "text", "LEditedScanner$Text;", true)
  | 2 => ("EditedScanner", "found", "LEditedScanner$Findings;", false)
  | 3 => ("EditedScanner", "spare", "LEditedScanner$Findings;", false)
  | 4 => ("EditedScanner", "readByLast", "I", false)
  | 5 => ("EditedScanner", "scannedByLast", "I", false)
  | _ => ("EditedScanner", "edits", "I", false)
def tyX3 : Nat → FieldType := fun k => match k with
  | 0 => .object "EditedScanner$Table"
  | 1 => .object "EditedScanner$Text"
  | 2 => .object "EditedScanner$Findings"
  | 3 => .object "EditedScanner$Findings"
  | 4 => .int
  | 5 => .int
  | _ => .int
abbrev wsX30 : List Cond := u_ws RX3 TX3 7
theorem nmX3 : ∀ a, a < 7 → ∀ b, b < 7 → a ≠ b → (TX3 a).2.1 ≠ (TX3 b).2.1 := by decide +kernel
theorem tyX3_ok : ∀ k, k < 7 → parseFieldDescriptor (TX3 k).2.2.1 = some (tyX3 k) := by decide +kernel
abbrev cX3_init : ByteArray := prog_1_method_1_code
def yX3_init : MethodName := ⟨RX3, "<init>", "()V"⟩
abbrev cX3_arrow : ByteArray := prog_1_method_2_code
def yX3_arrow : MethodName := ⟨RX3, "arrow", "(III)Z"⟩
abbrev cX3_kind : ByteArray := prog_1_method_3_code
def yX3_kind : MethodName := ⟨RX3, "kind", "(II)Z"⟩
abbrev cX3_edit : ByteArray := prog_1_method_4_code
def yX3_edit : MethodName := ⟨RX3, "edit", "(IIJI)I"⟩
abbrev cX3_token : ByteArray := prog_1_method_5_code
def yX3_token : MethodName := ⟨RX3, "token", "(II)I"⟩
abbrev cX3_tokenAt : ByteArray := prog_1_method_6_code
def yX3_tokenAt : MethodName := ⟨RX3, "tokenAt", "(I)I"⟩
abbrev cX3_symbol : ByteArray := prog_1_method_7_code
def yX3_symbol : MethodName := ⟨RX3, "symbol", "(I)I"⟩
abbrev cX3_count : ByteArray := prog_1_method_8_code
def yX3_count : MethodName := ⟨RX3, "count", "(I)I"⟩
abbrev cX3_clear : ByteArray := prog_1_method_9_code
def yX3_clear : MethodName := ⟨RX3, "clear", "()I"⟩
abbrev cX3_areSymbols : ByteArray := prog_1_method_10_code
def yX3_areSymbols : MethodName := ⟨RX3, "areSymbols", "(JI)Z"⟩
abbrev cX3_unpack : ByteArray := prog_1_method_11_code
def yX3_unpack : MethodName := ⟨RX3, "unpack", "(JII)I"⟩
abbrev cX3_scanAnew : ByteArray := prog_1_method_12_code
def yX3_scanAnew : MethodName := ⟨RX3, "scanAnew", "(III)V"⟩
abbrev cX3_scanOne : ByteArray := prog_1_method_13_code
def yX3_scanOne : MethodName := ⟨RX3, "scanOne", "(I)V"⟩
def RX4 : String := "EditedScannerModel"
def TX4 : u_T := fun k => match k with
  | 0 => ("EditedScannerModel", "arrows", "[I", true)
  | 1 => ("EditedScannerModel", "kinds", "[I", true)
  | 2 => ("EditedScannerModel", "text", "[I", true)
  | 3 => ("EditedScannerModel", "size", "I", false)
  | 4 => ("EditedScannerModel", "tokens", "I", false)
  | 5 => ("EditedScannerModel", "begins", "[I", true)
  | 6 => ("EditedScannerModel", "sizes", "[I", true)
  | 7 => ("EditedScannerModel", "sorts", "[I", true)
  | 8 => ("EditedScannerModel", "looks", "[I", true)
  | 9 => ("EditedScannerModel", "failed", "I", false)
  | 10 => ("EditedScannerModel", "failedLook", "I", false)
  | 11 => ("EditedScannerModel", "oldTokens", "I", false)
  | 12 => ("EditedScannerModel", "oldBegins", "[I", true)
  | 13 => ("EditedScannerModel", "oldFailed", "I", false)
  | 14 => ("EditedScannerModel", "oldSize", "I", false)
  | 15 => ("EditedScannerModel", "read", "I", false)
  | 16 => ("EditedScannerModel", "scanned", "I", false)
  | 17 => ("EditedScannerModel", "edits", "I", false)
  | 18 => ("EditedScannerModel", "tokenSize", "I", false)
  | 19 => ("EditedScannerModel", "tokenKind", "I", false)
  | _ => ("EditedScannerModel", "tokenLook", "I", false)
def tyX4 : Nat → FieldType := fun k => match k with
  | 0 => .array .int
  | 1 => .array .int
  | 2 => .array .int
  | 3 => .int
  | 4 => .int
  | 5 => .array .int
  | 6 => .array .int
  | 7 => .array .int
  | 8 => .array .int
  | 9 => .int
  | 10 => .int
  | 11 => .int
  | 12 => .array .int
  | 13 => .int
  | 14 => .int
  | 15 => .int
  | 16 => .int
  | 17 => .int
  | 18 => .int
  | 19 => .int
  | _ => .int
abbrev wsX40 : List Cond := u_ws RX4 TX4 21
theorem nmX4 : ∀ a, a < 21 → ∀ b, b < 21 → a ≠ b → (TX4 a).2.1 ≠ (TX4 b).2.1 := by decide +kernel
theorem tyX4_ok : ∀ k, k < 21 → parseFieldDescriptor (TX4 k).2.2.1 = some (tyX4 k) := by decide +kernel
abbrev cX4_init : ByteArray := prog_6_method_1_code
def yX4_init : MethodName := ⟨RX4, "<init>", "()V"⟩
abbrev cX4_forget : ByteArray := prog_6_method_2_code
def yX4_forget : MethodName := ⟨RX4, "forget", "()V"⟩
abbrev cX4_arrow : ByteArray := prog_6_method_3_code
def yX4_arrow : MethodName := ⟨RX4, "arrow", "(III)Z"⟩
abbrev cX4_kind : ByteArray := prog_6_method_4_code
def yX4_kind : MethodName := ⟨RX4, "kind", "(II)Z"⟩
abbrev cX4_scan : ByteArray := prog_6_method_5_code
def yX4_scan : MethodName := ⟨RX4, "scan", "(I)Z"⟩
abbrev cX4_scanAll : ByteArray := prog_6_method_6_code
def yX4_scanAll : MethodName := ⟨RX4, "scanAll", "()V"⟩
abbrev cX4_began : ByteArray := prog_6_method_7_code
def yX4_began : MethodName := ⟨RX4, "began", "(I)Z"⟩
abbrev cX4_edit : ByteArray := prog_6_method_8_code
def yX4_edit : MethodName := ⟨RX4, "edit", "(IIJI)I"⟩
abbrev cX4_change : ByteArray := prog_6_method_9_code
def yX4_change : MethodName := ⟨RX4, "change", "(IIJI)V"⟩
abbrev cX4_goOver : ByteArray := prog_6_method_10_code
def yX4_goOver : MethodName := ⟨RX4, "goOver", "(IIII)V"⟩
abbrev cX4_token : ByteArray := prog_6_method_11_code
def yX4_token : MethodName := ⟨RX4, "token", "(II)I"⟩
abbrev cX4_tokenAt : ByteArray := prog_6_method_12_code
def yX4_tokenAt : MethodName := ⟨RX4, "tokenAt", "(I)I"⟩
abbrev cX4_symbol : ByteArray := prog_6_method_13_code
def yX4_symbol : MethodName := ⟨RX4, "symbol", "(I)I"⟩
abbrev cX4_count : ByteArray := prog_6_method_14_code
def yX4_count : MethodName := ⟨RX4, "count", "(I)I"⟩
abbrev cX4_clear : ByteArray := prog_6_method_15_code
def yX4_clear : MethodName := ⟨RX4, "clear", "()I"⟩
def RJ9 : String := "java/lang/Math"
def TJ9 : u_T := fun k => match k with
  | _ => ("", "", "", false)
def tyJ9 : Nat → FieldType := fun k => match k with
  | _ => .int
abbrev wsJ90 : List Cond := u_ws RJ9 TJ9 0
theorem nmJ9 : ∀ a, a < 0 → ∀ b, b < 0 → a ≠ b → (TJ9 a).2.1 ≠ (TJ9 b).2.1 := by decide +kernel
theorem tyJ9_ok : ∀ k, k < 0 → parseFieldDescriptor (TJ9 k).2.2.1 = some (tyJ9 k) := by decide +kernel
abbrev cJ9_max_7cf53 : ByteArray := prog_7_method_65_code
def yJ9_max_7cf53 : MethodName := ⟨RJ9, "max", "(II)I"⟩
def RJ10 : String := "java/lang/System"
def TJ10 : u_T := fun k => match k with
  | _ => ("", "", "", false)
def tyJ10 : Nat → FieldType := fun k => match k with
  | _ => .int
abbrev wsJ100 : List Cond := u_ws RJ10 TJ10 0
theorem nmJ10 : ∀ a, a < 0 → ∀ b, b < 0 → a ≠ b → (TJ10 a).2.1 ≠ (TJ10 b).2.1 := by decide +kernel
theorem tyJ10_ok : ∀ k, k < 0 → parseFieldDescriptor (TJ10 k).2.2.1 = some (tyJ10 k) := by decide +kernel
def RJ7 : String := "java/util/Arrays"
def TJ7 : u_T := fun k => match k with
  | _ => ("", "", "", false)
def tyJ7 : Nat → FieldType := fun k => match k with
  | _ => .int
abbrev wsJ70 : List Cond := u_ws RJ7 TJ7 0
theorem nmJ7 : ∀ a, a < 0 → ∀ b, b < 0 → a ≠ b → (TJ7 a).2.1 ≠ (TJ7 b).2.1 := by decide +kernel
theorem tyJ7_ok : ∀ k, k < 0 → parseFieldDescriptor (TJ7 k).2.2.1 = some (tyJ7 k) := by decide +kernel
abbrev cJ7_fill_53178 : ByteArray := prog_9_method_103_code
def yJ7_fill_53178 : MethodName := ⟨RJ7, "fill", "([II)V"⟩
def RL : String := "EditedScannerLaw"
abbrev cL_law : ByteArray := code
def yL_law : MethodName := ⟨RL, "law", "([I)Z"⟩
abbrev vwCl : List vw_C := [(RX0, TX0, 5), (RX1, TX1, 2), (RX2, TX2, 2), (RX3, TX3, 7), (RX4, TX4, 21)]
end
section
theorem dX0_init_0 : decode cX0_init 0 = .ok (.aload_n 0, 1) := by decide +kernel
theorem dX0_init_1 : decode cX0_init 1 = .ok (.invokespecial 3, 3) := by decide +kernel
theorem dX0_init_4 : decode cX0_init 4 = .ok (.aload_n 0, 1) := by decide +kernel
theorem dX0_init_5 : decode cX0_init 5 = .ok (.sipush 400, 3) := by decide +kernel
theorem dX0_init_8 : decode cX0_init 8 = .ok (.newarray .int, 2) := by decide +kernel
theorem dX0_init_10 : decode cX0_init 10 = .ok (.putfield 9, 3) := by decide +kernel
theorem dX0_init_13 : decode cX0_init 13 = .ok (.aload_n 0, 1) := by decide +kernel
theorem dX0_init_14 : decode cX0_init 14 = .ok (.sipush 400, 3) := by decide +kernel
theorem dX0_init_17 : decode cX0_init 17 = .ok (.newarray .int, 2) := by decide +kernel
theorem dX0_init_19 : decode cX0_init 19 = .ok (.putfield 15, 3) := by decide +kernel
theorem dX0_init_22 : decode cX0_init 22 = .ok (.aload_n 0, 1) := by decide +kernel
theorem dX0_init_23 : decode cX0_init 23 = .ok (.sipush 400, 3) := by decide +kernel
theorem dX0_init_26 : decode cX0_init 26 = .ok (.newarray .int, 2) := by decide +kernel
theorem dX0_init_28 : decode cX0_init 28 = .ok (.putfield 18, 3) := by decide +kernel
theorem dX0_init_31 : decode cX0_init 31 = .ok (.aload_n 0, 1) := by decide +kernel
theorem dX0_init_32 : decode cX0_init 32 = .ok (.sipush 400, 3) := by decide +kernel
theorem dX0_init_35 : decode cX0_init 35 = .ok (.newarray .int, 2) := by decide +kernel
theorem dX0_init_37 : decode cX0_init 37 = .ok (.putfield 21, 3) := by decide +kernel
theorem dX0_init_40 : decode cX0_init 40 = .ok (.return_, 1) := by decide +kernel
theorem dX0_forget_0 : decode cX0_forget 0 = .ok (.aload_n 0, 1) := by decide +kernel
theorem dX0_forget_1 : decode cX0_forget 1 = .ok (.iconst 0, 1) := by decide +kernel
theorem dX0_forget_2 : decode cX0_forget 2 = .ok (.putfield 24, 3) := by decide +kernel
theorem dX0_forget_5 : decode cX0_forget 5 = .ok (.return_, 1) := by decide +kernel
theorem dX0_size_0 : decode cX0_size 0 = .ok (.aload_n 0, 1) := by decide +kernel
theorem dX0_size_1 : decode cX0_size 1 = .ok (.getfield 24, 3) := by decide +kernel
theorem dX0_size_4 : decode cX0_size 4 = .ok (.ireturn, 1) := by decide +kernel
theorem dX0_failed_0 : decode cX0_failed 0 = .ok (.aload_n 0, 1) := by decide +kernel
theorem dX0_failed_1 : decode cX0_failed 1 = .ok (.getfield 24, 3) := by decide +kernel
theorem dX0_failed_4 : decode cX0_failed 4 = .ok (.ifCond .le 21, 3) := by decide +kernel
theorem dX0_failed_7 : decode cX0_failed 7 = .ok (.aload_n 0, 1) := by decide +kernel
theorem dX0_failed_8 : decode cX0_failed 8 = .ok (.getfield 15, 3) := by decide +kernel
theorem dX0_failed_11 : decode cX0_failed 11 = .ok (.aload_n 0, 1) := by decide +kernel
theorem dX0_failed_12 : decode cX0_failed 12 = .ok (.getfield 24, 3) := by decide +kernel
theorem dX0_failed_15 : decode cX0_failed 15 = .ok (.iconst 1, 1) := by decide +kernel
theorem dX0_failed_16 : decode cX0_failed 16 = .ok (.isub, 1) := by decide +kernel
theorem dX0_failed_17 : decode cX0_failed 17 = .ok (.iaload, 1) := by decide +kernel
theorem dX0_failed_18 : decode cX0_failed 18 = .ok (.ifCond .ne 7, 3) := by decide +kernel
theorem dX0_failed_21 : decode cX0_failed 21 = .ok (.iconst 1, 1) := by decide +kernel
theorem dX0_failed_22 : decode cX0_failed 22 = .ok (.goto 4, 3) := by decide +kernel
theorem dX0_failed_25 : decode cX0_failed 25 = .ok (.iconst 0, 1) := by decide +kernel
theorem dX0_failed_26 : decode cX0_failed 26 = .ok (.ireturn, 1) := by decide +kernel
theorem dX0_tokens_0 : decode cX0_tokens 0 = .ok (.aload_n 0, 1) := by decide +kernel
theorem dX0_tokens_1 : decode cX0_tokens 1 = .ok (.invokevirtual 28, 3) := by decide +kernel
theorem dX0_tokens_4 : decode cX0_tokens 4 = .ok (.ifCond .eq 12, 3) := by decide +kernel
theorem dX0_tokens_7 : decode cX0_tokens 7 = .ok (.aload_n 0, 1) := by decide +kernel
theorem dX0_tokens_8 : decode cX0_tokens 8 = .ok (.getfield 24, 3) := by decide +kernel
theorem dX0_tokens_11 : decode cX0_tokens 11 = .ok (.iconst 1, 1) := by decide +kernel
theorem dX0_tokens_12 : decode cX0_tokens 12 = .ok (.isub, 1) := by decide +kernel
theorem dX0_tokens_13 : decode cX0_tokens 13 = .ok (.goto 7, 3) := by decide +kernel
theorem dX0_tokens_16 : decode cX0_tokens 16 = .ok (.aload_n 0, 1) := by decide +kernel
theorem dX0_tokens_17 : decode cX0_tokens 17 = .ok (.getfield 24, 3) := by decide +kernel
theorem dX0_tokens_20 : decode cX0_tokens 20 = .ok (.ireturn, 1) := by decide +kernel
theorem dX0_begin_0 : decode cX0_begin 0 = .ok (.aload_n 0, 1) := by decide +kernel
theorem dX0_begin_1 : decode cX0_begin 1 = .ok (.iload_n 1, 1) := by decide +kernel
theorem dX0_begin_2 : decode cX0_begin 2 = .ok (.invokevirtual 32, 3) := by decide +kernel
theorem dX0_begin_5 : decode cX0_begin 5 = .ok (.ifCond .eq 12, 3) := by decide +kernel
theorem dX0_begin_8 : decode cX0_begin 8 = .ok (.aload_n 0, 1) := by decide +kernel
theorem dX0_begin_9 : decode cX0_begin 9 = .ok (.getfield 9, 3) := by decide +kernel
theorem dX0_begin_12 : decode cX0_begin 12 = .ok (.iload_n 1, 1) := by decide +kernel
theorem dX0_begin_13 : decode cX0_begin 13 = .ok (.iaload, 1) := by decide +kernel
theorem dX0_begin_14 : decode cX0_begin 14 = .ok (.goto 4, 3) := by decide +kernel
theorem dX0_begin_17 : decode cX0_begin 17 = .ok (.iconst (-1), 1) := by decide +kernel
theorem dX0_begin_18 : decode cX0_begin 18 = .ok (.ireturn, 1) := by decide +kernel
theorem dX0_length_0 : decode cX0_length 0 = .ok (.aload_n 0, 1) := by decide +kernel
theorem dX0_length_1 : decode cX0_length 1 = .ok (.iload_n 1, 1) := by decide +kernel
theorem dX0_length_2 : decode cX0_length 2 = .ok (.invokevirtual 32, 3) := by decide +kernel
theorem dX0_length_5 : decode cX0_length 5 = .ok (.ifCond .eq 12, 3) := by decide +kernel
theorem dX0_length_8 : decode cX0_length 8 = .ok (.aload_n 0, 1) := by decide +kernel
theorem dX0_length_9 : decode cX0_length 9 = .ok (.getfield 15, 3) := by decide +kernel
theorem dX0_length_12 : decode cX0_length 12 = .ok (.iload_n 1, 1) := by decide +kernel
theorem dX0_length_13 : decode cX0_length 13 = .ok (.iaload, 1) := by decide +kernel
theorem dX0_length_14 : decode cX0_length 14 = .ok (.goto 4, 3) := by decide +kernel
theorem dX0_length_17 : decode cX0_length 17 = .ok (.iconst (-1), 1) := by decide +kernel
theorem dX0_length_18 : decode cX0_length 18 = .ok (.ireturn, 1) := by decide +kernel
theorem dX0_kindFound_0 : decode cX0_kindFound 0 = .ok (.aload_n 0, 1) := by decide +kernel
theorem dX0_kindFound_1 : decode cX0_kindFound 1 = .ok (.iload_n 1, 1) := by decide +kernel
theorem dX0_kindFound_2 : decode cX0_kindFound 2 = .ok (.invokevirtual 32, 3) := by decide +kernel
theorem dX0_kindFound_5 : decode cX0_kindFound 5 = .ok (.ifCond .eq 12, 3) := by decide +kernel
theorem dX0_kindFound_8 : decode cX0_kindFound 8 = .ok (.aload_n 0, 1) := by decide +kernel
theorem dX0_kindFound_9 : decode cX0_kindFound 9 = .ok (.getfield 18, 3) := by decide +kernel
theorem dX0_kindFound_12 : decode cX0_kindFound 12 = .ok (.iload_n 1, 1) := by decide +kernel
theorem dX0_kindFound_13 : decode cX0_kindFound 13 = .ok (.iaload, 1) := by decide +kernel
theorem dX0_kindFound_14 : decode cX0_kindFound 14 = .ok (.goto 4, 3) := by decide +kernel
theorem dX0_kindFound_17 : decode cX0_kindFound 17 = .ok (.iconst (-1), 1) := by decide +kernel
theorem dX0_kindFound_18 : decode cX0_kindFound 18 = .ok (.ireturn, 1) := by decide +kernel
theorem dX0_looked_0 : decode cX0_looked 0 = .ok (.aload_n 0, 1) := by decide +kernel
theorem dX0_looked_1 : decode cX0_looked 1 = .ok (.iload_n 1, 1) := by decide +kernel
theorem dX0_looked_2 : decode cX0_looked 2 = .ok (.invokevirtual 32, 3) := by decide +kernel
theorem dX0_looked_5 : decode cX0_looked 5 = .ok (.ifCond .eq 12, 3) := by decide +kernel
theorem dX0_looked_8 : decode cX0_looked 8 = .ok (.aload_n 0, 1) := by decide +kernel
theorem dX0_looked_9 : decode cX0_looked 9 = .ok (.getfield 21, 3) := by decide +kernel
theorem dX0_looked_12 : decode cX0_looked 12 = .ok (.iload_n 1, 1) := by decide +kernel
theorem dX0_looked_13 : decode cX0_looked 13 = .ok (.iaload, 1) := by decide +kernel
theorem dX0_looked_14 : decode cX0_looked 14 = .ok (.goto 4, 3) := by decide +kernel
theorem dX0_looked_17 : decode cX0_looked 17 = .ok (.iconst (-1), 1) := by decide +kernel
theorem dX0_looked_18 : decode cX0_looked 18 = .ok (.ireturn, 1) := by decide +kernel
theorem dX0_nextBegin_0 : decode cX0_nextBegin 0 = .ok (.aload_n 0, 1) := by decide +kernel
theorem dX0_nextBegin_1 : decode cX0_nextBegin 1 = .ok (.getfield 24, 3) := by decide +kernel
theorem dX0_nextBegin_4 : decode cX0_nextBegin 4 = .ok (.ifCond .le 29, 3) := by decide +kernel
theorem dX0_nextBegin_7 : decode cX0_nextBegin 7 = .ok (.aload_n 0, 1) := by decide +kernel
theorem dX0_nextBegin_8 : decode cX0_nextBegin 8 = .ok (.getfield 9, 3) := by decide +kernel
theorem dX0_nextBegin_11 : decode cX0_nextBegin 11 = .ok (.aload_n 0, 1) := by decide +kernel
theorem dX0_nextBegin_12 : decode cX0_nextBegin 12 = .ok (.getfield 24, 3) := by decide +kernel
theorem dX0_nextBegin_15 : decode cX0_nextBegin 15 = .ok (.iconst 1, 1) := by decide +kernel
theorem dX0_nextBegin_16 : decode cX0_nextBegin 16 = .ok (.isub, 1) := by decide +kernel
theorem dX0_nextBegin_17 : decode cX0_nextBegin 17 = .ok (.iaload, 1) := by decide +kernel
theorem dX0_nextBegin_18 : decode cX0_nextBegin 18 = .ok (.aload_n 0, 1) := by decide +kernel
theorem dX0_nextBegin_19 : decode cX0_nextBegin 19 = .ok (.getfield 15, 3) := by decide +kernel
theorem dX0_nextBegin_22 : decode cX0_nextBegin 22 = .ok (.aload_n 0, 1) := by decide +kernel
theorem dX0_nextBegin_23 : decode cX0_nextBegin 23 = .ok (.getfield 24, 3) := by decide +kernel
theorem dX0_nextBegin_26 : decode cX0_nextBegin 26 = .ok (.iconst 1, 1) := by decide +kernel
theorem dX0_nextBegin_27 : decode cX0_nextBegin 27 = .ok (.isub, 1) := by decide +kernel
theorem dX0_nextBegin_28 : decode cX0_nextBegin 28 = .ok (.iaload, 1) := by decide +kernel
theorem dX0_nextBegin_29 : decode cX0_nextBegin 29 = .ok (.iadd, 1) := by decide +kernel
theorem dX0_nextBegin_30 : decode cX0_nextBegin 30 = .ok (.goto 4, 3) := by decide +kernel
theorem dX0_nextBegin_33 : decode cX0_nextBegin 33 = .ok (.iconst 0, 1) := by decide +kernel
theorem dX0_nextBegin_34 : decode cX0_nextBegin 34 = .ok (.ireturn, 1) := by decide +kernel
theorem dX0_tokenAround_0 : decode cX0_tokenAround 0 = .ok (.iconst 0, 1) := by decide +kernel
theorem dX0_tokenAround_1 : decode cX0_tokenAround 1 = .ok (.istore_n 2, 1) := by decide +kernel
theorem dX0_tokenAround_2 : decode cX0_tokenAround 2 = .ok (.iload_n 2, 1) := by decide +kernel
theorem dX0_tokenAround_3 : decode cX0_tokenAround 3 = .ok (.aload_n 0, 1) := by decide +kernel
theorem dX0_tokenAround_4 : decode cX0_tokenAround 4 = .ok (.getfield 24, 3) := by decide +kernel
theorem dX0_tokenAround_7 : decode cX0_tokenAround 7 = .ok (.if_icmp .ge 38, 3) := by decide +kernel
theorem dX0_tokenAround_10 : decode cX0_tokenAround 10 = .ok (.iload_n 1, 1) := by decide +kernel
theorem dX0_tokenAround_11 : decode cX0_tokenAround 11 = .ok (.aload_n 0, 1) := by decide +kernel
theorem dX0_tokenAround_12 : decode cX0_tokenAround 12 = .ok (.getfield 9, 3) := by decide +kernel
theorem dX0_tokenAround_15 : decode cX0_tokenAround 15 = .ok (.iload_n 2, 1) := by decide +kernel
theorem dX0_tokenAround_16 : decode cX0_tokenAround 16 = .ok (.iaload, 1) := by decide +kernel
theorem dX0_tokenAround_17 : decode cX0_tokenAround 17 = .ok (.if_icmp .lt 22, 3) := by decide +kernel
theorem dX0_tokenAround_20 : decode cX0_tokenAround 20 = .ok (.iload_n 1, 1) := by decide +kernel
theorem dX0_tokenAround_21 : decode cX0_tokenAround 21 = .ok (.aload_n 0, 1) := by decide +kernel
theorem dX0_tokenAround_22 : decode cX0_tokenAround 22 = .ok (.getfield 9, 3) := by decide +kernel
theorem dX0_tokenAround_25 : decode cX0_tokenAround 25 = .ok (.iload_n 2, 1) := by decide +kernel
theorem dX0_tokenAround_26 : decode cX0_tokenAround 26 = .ok (.iaload, 1) := by decide +kernel
theorem dX0_tokenAround_27 : decode cX0_tokenAround 27 = .ok (.aload_n 0, 1) := by decide +kernel
theorem dX0_tokenAround_28 : decode cX0_tokenAround 28 = .ok (.getfield 15, 3) := by decide +kernel
theorem dX0_tokenAround_31 : decode cX0_tokenAround 31 = .ok (.iload_n 2, 1) := by decide +kernel
theorem dX0_tokenAround_32 : decode cX0_tokenAround 32 = .ok (.iaload, 1) := by decide +kernel
theorem dX0_tokenAround_33 : decode cX0_tokenAround 33 = .ok (.iadd, 1) := by decide +kernel
theorem dX0_tokenAround_34 : decode cX0_tokenAround 34 = .ok (.if_icmp .ge 5, 3) := by decide +kernel
theorem dX0_tokenAround_37 : decode cX0_tokenAround 37 = .ok (.iload_n 2, 1) := by decide +kernel
theorem dX0_tokenAround_38 : decode cX0_tokenAround 38 = .ok (.ireturn, 1) := by decide +kernel
theorem dX0_tokenAround_39 : decode cX0_tokenAround 39 = .ok (.iinc 2 1, 3) := by decide +kernel
theorem dX0_tokenAround_42 : decode cX0_tokenAround 42 = .ok (.goto (-40), 3) := by decide +kernel
theorem dX0_tokenAround_45 : decode cX0_tokenAround 45 = .ok (.iconst (-1), 1) := by decide +kernel
theorem dX0_tokenAround_46 : decode cX0_tokenAround 46 = .ok (.ireturn, 1) := by decide +kernel
theorem dX0_firstThatLookedAt_0 : decode cX0_firstThatLookedAt 0 = .ok (.iconst 0, 1) := by decide +kernel
theorem dX0_firstThatLookedAt_1 : decode cX0_firstThatLookedAt 1 = .ok (.istore_n 2, 1) := by decide +kernel
theorem dX0_firstThatLookedAt_2 : decode cX0_firstThatLookedAt 2 = .ok (.iload_n 2, 1) := by decide +kernel
theorem dX0_firstThatLookedAt_3 : decode cX0_firstThatLookedAt 3 = .ok (.aload_n 0, 1) := by decide +kernel
theorem dX0_firstThatLookedAt_4 : decode cX0_firstThatLookedAt 4 = .ok (.getfield 24, 3) := by decide +kernel
theorem dX0_firstThatLookedAt_7 : decode cX0_firstThatLookedAt 7 = .ok (.if_icmp .ge 28, 3) := by decide +kernel
theorem dX0_firstThatLookedAt_10 : decode cX0_firstThatLookedAt 10 = .ok (.aload_n 0, 1) := by decide +kernel
theorem dX0_firstThatLookedAt_11 : decode cX0_firstThatLookedAt 11 = .ok (.getfield 9, 3) := by decide +kernel
theorem dX0_firstThatLookedAt_14 : decode cX0_firstThatLookedAt 14 = .ok (.iload_n 2, 1) := by decide +kernel
theorem dX0_firstThatLookedAt_15 : decode cX0_firstThatLookedAt 15 = .ok (.iaload, 1) := by decide +kernel
theorem dX0_firstThatLookedAt_16 : decode cX0_firstThatLookedAt 16 = .ok (.aload_n 0, 1) := by decide +kernel
theorem dX0_firstThatLookedAt_17 : decode cX0_firstThatLookedAt 17 = .ok (.getfield 21, 3) := by decide +kernel
theorem dX0_firstThatLookedAt_20 : decode cX0_firstThatLookedAt 20 = .ok (.iload_n 2, 1) := by decide +kernel
theorem dX0_firstThatLookedAt_21 : decode cX0_firstThatLookedAt 21 = .ok (.iaload, 1) := by decide +kernel
theorem dX0_firstThatLookedAt_22 : decode cX0_firstThatLookedAt 22 = .ok (.iadd, 1) := by decide +kernel
theorem dX0_firstThatLookedAt_23 : decode cX0_firstThatLookedAt 23 = .ok (.iload_n 1, 1) := by decide +kernel
theorem dX0_firstThatLookedAt_24 : decode cX0_firstThatLookedAt 24 = .ok (.if_icmp .le 5, 3) := by decide +kernel
theorem dX0_firstThatLookedAt_27 : decode cX0_firstThatLookedAt 27 = .ok (.iload_n 2, 1) := by decide +kernel
theorem dX0_firstThatLookedAt_28 : decode cX0_firstThatLookedAt 28 = .ok (.ireturn, 1) := by decide +kernel
theorem dX0_firstThatLookedAt_29 : decode cX0_firstThatLookedAt 29 = .ok (.iinc 2 1, 3) := by decide +kernel
theorem dX0_firstThatLookedAt_32 : decode cX0_firstThatLookedAt 32 = .ok (.goto (-30), 3) := by decide +kernel
theorem dX0_firstThatLookedAt_35 : decode cX0_firstThatLookedAt 35 = .ok (.aload_n 0, 1) := by decide +kernel
theorem dX0_firstThatLookedAt_36 : decode cX0_firstThatLookedAt 36 = .ok (.getfield 24, 3) := by decide +kernel
theorem dX0_firstThatLookedAt_39 : decode cX0_firstThatLookedAt 39 = .ok (.ireturn, 1) := by decide +kernel
theorem dX0_firstFrom_0 : decode cX0_firstFrom 0 = .ok (.iload_n 1, 1) := by decide +kernel
theorem dX0_firstFrom_1 : decode cX0_firstFrom 1 = .ok (.iconst 0, 1) := by decide +kernel
theorem dX0_firstFrom_2 : decode cX0_firstFrom 2 = .ok (.invokestatic 36, 3) := by decide +kernel
theorem dX0_firstFrom_5 : decode cX0_firstFrom 5 = .ok (.istore_n 3, 1) := by decide +kernel
theorem dX0_firstFrom_6 : decode cX0_firstFrom 6 = .ok (.iload_n 3, 1) := by decide +kernel
theorem dX0_firstFrom_7 : decode cX0_firstFrom 7 = .ok (.aload_n 0, 1) := by decide +kernel
theorem dX0_firstFrom_8 : decode cX0_firstFrom 8 = .ok (.getfield 24, 3) := by decide +kernel
theorem dX0_firstFrom_11 : decode cX0_firstFrom 11 = .ok (.if_icmp .ge 21, 3) := by decide +kernel
theorem dX0_firstFrom_14 : decode cX0_firstFrom 14 = .ok (.aload_n 0, 1) := by decide +kernel
theorem dX0_firstFrom_15 : decode cX0_firstFrom 15 = .ok (.getfield 9, 3) := by decide +kernel
theorem dX0_firstFrom_18 : decode cX0_firstFrom 18 = .ok (.iload_n 3, 1) := by decide +kernel
theorem dX0_firstFrom_19 : decode cX0_firstFrom 19 = .ok (.iaload, 1) := by decide +kernel
theorem dX0_firstFrom_20 : decode cX0_firstFrom 20 = .ok (.iload_n 2, 1) := by decide +kernel
theorem dX0_firstFrom_21 : decode cX0_firstFrom 21 = .ok (.if_icmp .lt 5, 3) := by decide +kernel
theorem dX0_firstFrom_24 : decode cX0_firstFrom 24 = .ok (.iload_n 3, 1) := by decide +kernel
theorem dX0_firstFrom_25 : decode cX0_firstFrom 25 = .ok (.ireturn, 1) := by decide +kernel
theorem dX0_firstFrom_26 : decode cX0_firstFrom 26 = .ok (.iinc 3 1, 3) := by decide +kernel
theorem dX0_firstFrom_29 : decode cX0_firstFrom 29 = .ok (.goto (-23), 3) := by decide +kernel
theorem dX0_firstFrom_32 : decode cX0_firstFrom 32 = .ok (.aload_n 0, 1) := by decide +kernel
theorem dX0_firstFrom_33 : decode cX0_firstFrom 33 = .ok (.getfield 24, 3) := by decide +kernel
theorem dX0_firstFrom_36 : decode cX0_firstFrom 36 = .ok (.ireturn, 1) := by decide +kernel
theorem dX0_add_0 : decode cX0_add 0 = .ok (.aload_n 0, 1) := by decide +kernel
theorem dX0_add_1 : decode cX0_add 1 = .ok (.getfield 24, 3) := by decide +kernel
theorem dX0_add_4 : decode cX0_add 4 = .ok (.sipush 400, 3) := by decide +kernel
theorem dX0_add_7 : decode cX0_add 7 = .ok (.if_icmp .lt 4, 3) := by decide +kernel
theorem dX0_add_10 : decode cX0_add 10 = .ok (.return_, 1) := by decide +kernel
theorem dX0_add_11 : decode cX0_add 11 = .ok (.aload_n 0, 1) := by decide +kernel
theorem dX0_add_12 : decode cX0_add 12 = .ok (.getfield 9, 3) := by decide +kernel
theorem dX0_add_15 : decode cX0_add 15 = .ok (.aload_n 0, 1) := by decide +kernel
theorem dX0_add_16 : decode cX0_add 16 = .ok (.getfield 24, 3) := by decide +kernel
theorem dX0_add_19 : decode cX0_add 19 = .ok (.iload_n 1, 1) := by decide +kernel
theorem dX0_add_20 : decode cX0_add 20 = .ok (.iastore, 1) := by decide +kernel
theorem dX0_add_21 : decode cX0_add 21 = .ok (.aload_n 0, 1) := by decide +kernel
theorem dX0_add_22 : decode cX0_add 22 = .ok (.getfield 15, 3) := by decide +kernel
theorem dX0_add_25 : decode cX0_add 25 = .ok (.aload_n 0, 1) := by decide +kernel
theorem dX0_add_26 : decode cX0_add 26 = .ok (.getfield 24, 3) := by decide +kernel
theorem dX0_add_29 : decode cX0_add 29 = .ok (.iload_n 2, 1) := by decide +kernel
theorem dX0_add_30 : decode cX0_add 30 = .ok (.iastore, 1) := by decide +kernel
theorem dX0_add_31 : decode cX0_add 31 = .ok (.aload_n 0, 1) := by decide +kernel
theorem dX0_add_32 : decode cX0_add 32 = .ok (.getfield 18, 3) := by decide +kernel
theorem dX0_add_35 : decode cX0_add 35 = .ok (.aload_n 0, 1) := by decide +kernel
theorem dX0_add_36 : decode cX0_add 36 = .ok (.getfield 24, 3) := by decide +kernel
theorem dX0_add_39 : decode cX0_add 39 = .ok (.iload_n 3, 1) := by decide +kernel
theorem dX0_add_40 : decode cX0_add 40 = .ok (.iastore, 1) := by decide +kernel
theorem dX0_add_41 : decode cX0_add 41 = .ok (.aload_n 0, 1) := by decide +kernel
theorem dX0_add_42 : decode cX0_add 42 = .ok (.getfield 21, 3) := by decide +kernel
theorem dX0_add_45 : decode cX0_add 45 = .ok (.aload_n 0, 1) := by decide +kernel
theorem dX0_add_46 : decode cX0_add 46 = .ok (.getfield 24, 3) := by decide +kernel
theorem dX0_add_49 : decode cX0_add 49 = .ok (.iload 4, 2) := by decide +kernel
theorem dX0_add_51 : decode cX0_add 51 = .ok (.iastore, 1) := by decide +kernel
theorem dX0_add_52 : decode cX0_add 52 = .ok (.aload_n 0, 1) := by decide +kernel
theorem dX0_add_53 : decode cX0_add 53 = .ok (.dup, 1) := by decide +kernel
theorem dX0_add_54 : decode cX0_add 54 = .ok (.getfield 24, 3) := by decide +kernel
theorem dX0_add_57 : decode cX0_add 57 = .ok (.iconst 1, 1) := by decide +kernel
theorem dX0_add_58 : decode cX0_add 58 = .ok (.iadd, 1) := by decide +kernel
theorem dX0_add_59 : decode cX0_add 59 = .ok (.putfield 24, 3) := by decide +kernel
theorem dX0_add_62 : decode cX0_add 62 = .ok (.return_, 1) := by decide +kernel
theorem dX0_takeUpTo_0 : decode cX0_takeUpTo 0 = .ok (.aload_n 0, 1) := by decide +kernel
theorem dX0_takeUpTo_1 : decode cX0_takeUpTo 1 = .ok (.iconst 0, 1) := by decide +kernel
theorem dX0_takeUpTo_2 : decode cX0_takeUpTo 2 = .ok (.putfield 24, 3) := by decide +kernel
theorem dX0_takeUpTo_5 : decode cX0_takeUpTo 5 = .ok (.iconst 0, 1) := by decide +kernel
theorem dX0_takeUpTo_6 : decode cX0_takeUpTo 6 = .ok (.istore_n 3, 1) := by decide +kernel
theorem dX0_takeUpTo_7 : decode cX0_takeUpTo 7 = .ok (.iload_n 3, 1) := by decide +kernel
theorem dX0_takeUpTo_8 : decode cX0_takeUpTo 8 = .ok (.iload_n 2, 1) := by decide +kernel
theorem dX0_takeUpTo_9 : decode cX0_takeUpTo 9 = .ok (.if_icmp .ge 45, 3) := by decide +kernel
theorem dX0_takeUpTo_12 : decode cX0_takeUpTo 12 = .ok (.iload_n 3, 1) := by decide +kernel
theorem dX0_takeUpTo_13 : decode cX0_takeUpTo 13 = .ok (.aload_n 1, 1) := by decide +kernel
theorem dX0_takeUpTo_14 : decode cX0_takeUpTo 14 = .ok (.getfield 24, 3) := by decide +kernel
theorem dX0_takeUpTo_17 : decode cX0_takeUpTo 17 = .ok (.if_icmp .ge 37, 3) := by decide +kernel
theorem dX0_takeUpTo_20 : decode cX0_takeUpTo 20 = .ok (.aload_n 0, 1) := by decide +kernel
theorem dX0_takeUpTo_21 : decode cX0_takeUpTo 21 = .ok (.aload_n 1, 1) := by decide +kernel
theorem dX0_takeUpTo_22 : decode cX0_takeUpTo 22 = .ok (.getfield 9, 3) := by decide +kernel
theorem dX0_takeUpTo_25 : decode cX0_takeUpTo 25 = .ok (.iload_n 3, 1) := by decide +kernel
theorem dX0_takeUpTo_26 : decode cX0_takeUpTo 26 = .ok (.iaload, 1) := by decide +kernel
theorem dX0_takeUpTo_27 : decode cX0_takeUpTo 27 = .ok (.aload_n 1, 1) := by decide +kernel
theorem dX0_takeUpTo_28 : decode cX0_takeUpTo 28 = .ok (.getfield 15, 3) := by decide +kernel
theorem dX0_takeUpTo_31 : decode cX0_takeUpTo 31 = .ok (.iload_n 3, 1) := by decide +kernel
theorem dX0_takeUpTo_32 : decode cX0_takeUpTo 32 = .ok (.iaload, 1) := by decide +kernel
theorem dX0_takeUpTo_33 : decode cX0_takeUpTo 33 = .ok (.aload_n 1, 1) := by decide +kernel
theorem dX0_takeUpTo_34 : decode cX0_takeUpTo 34 = .ok (.getfield 18, 3) := by decide +kernel
theorem dX0_takeUpTo_37 : decode cX0_takeUpTo 37 = .ok (.iload_n 3, 1) := by decide +kernel
theorem dX0_takeUpTo_38 : decode cX0_takeUpTo 38 = .ok (.iaload, 1) := by decide +kernel
theorem dX0_takeUpTo_39 : decode cX0_takeUpTo 39 = .ok (.aload_n 1, 1) := by decide +kernel
theorem dX0_takeUpTo_40 : decode cX0_takeUpTo 40 = .ok (.getfield 21, 3) := by decide +kernel
theorem dX0_takeUpTo_43 : decode cX0_takeUpTo 43 = .ok (.iload_n 3, 1) := by decide +kernel
theorem dX0_takeUpTo_44 : decode cX0_takeUpTo 44 = .ok (.iaload, 1) := by decide +kernel
theorem dX0_takeUpTo_45 : decode cX0_takeUpTo 45 = .ok (.invokevirtual 42, 3) := by decide +kernel
theorem dX0_takeUpTo_48 : decode cX0_takeUpTo 48 = .ok (.iinc 3 1, 3) := by decide +kernel
theorem dX0_takeUpTo_51 : decode cX0_takeUpTo 51 = .ok (.goto (-44), 3) := by decide +kernel
theorem dX0_takeUpTo_54 : decode cX0_takeUpTo 54 = .ok (.return_, 1) := by decide +kernel
theorem dX0_takeMoved_0 : decode cX0_takeMoved 0 = .ok (.iload_n 2, 1) := by decide +kernel
theorem dX0_takeMoved_1 : decode cX0_takeMoved 1 = .ok (.iconst 0, 1) := by decide +kernel
theorem dX0_takeMoved_2 : decode cX0_takeMoved 2 = .ok (.invokestatic 36, 3) := by decide +kernel
theorem dX0_takeMoved_5 : decode cX0_takeMoved 5 = .ok (.istore 4, 2) := by decide +kernel
theorem dX0_takeMoved_7 : decode cX0_takeMoved 7 = .ok (.iload 4, 2) := by decide +kernel
theorem dX0_takeMoved_9 : decode cX0_takeMoved 9 = .ok (.aload_n 1, 1) := by decide +kernel
theorem dX0_takeMoved_10 : decode cX0_takeMoved 10 = .ok (.getfield 24, 3) := by decide +kernel
theorem dX0_takeMoved_13 : decode cX0_takeMoved 13 = .ok (.if_icmp .ge 43, 3) := by decide +kernel
theorem dX0_takeMoved_16 : decode cX0_takeMoved 16 = .ok (.aload_n 0, 1) := by decide +kernel
theorem dX0_takeMoved_17 : decode cX0_takeMoved 17 = .ok (.aload_n 1, 1) := by decide +kernel
theorem dX0_takeMoved_18 : decode cX0_takeMoved 18 = .ok (.getfield 9, 3) := by decide +kernel
theorem dX0_takeMoved_21 : decode cX0_takeMoved 21 = .ok (.iload 4, 2) := by decide +kernel
theorem dX0_takeMoved_23 : decode cX0_takeMoved 23 = .ok (.iaload, 1) := by decide +kernel
theorem dX0_takeMoved_24 : decode cX0_takeMoved 24 = .ok (.iload_n 3, 1) := by decide +kernel
theorem dX0_takeMoved_25 : decode cX0_takeMoved 25 = .ok (.iadd, 1) := by decide +kernel
theorem dX0_takeMoved_26 : decode cX0_takeMoved 26 = .ok (.aload_n 1, 1) := by decide +kernel
theorem dX0_takeMoved_27 : decode cX0_takeMoved 27 = .ok (.getfield 15, 3) := by decide +kernel
theorem dX0_takeMoved_30 : decode cX0_takeMoved 30 = .ok (.iload 4, 2) := by decide +kernel
theorem dX0_takeMoved_32 : decode cX0_takeMoved 32 = .ok (.iaload, 1) := by decide +kernel
theorem dX0_takeMoved_33 : decode cX0_takeMoved 33 = .ok (.aload_n 1, 1) := by decide +kernel
theorem dX0_takeMoved_34 : decode cX0_takeMoved 34 = .ok (.getfield 18, 3) := by decide +kernel
theorem dX0_takeMoved_37 : decode cX0_takeMoved 37 = .ok (.iload 4, 2) := by decide +kernel
theorem dX0_takeMoved_39 : decode cX0_takeMoved 39 = .ok (.iaload, 1) := by decide +kernel
theorem dX0_takeMoved_40 : decode cX0_takeMoved 40 = .ok (.aload_n 1, 1) := by decide +kernel
theorem dX0_takeMoved_41 : decode cX0_takeMoved 41 = .ok (.getfield 21, 3) := by decide +kernel
theorem dX0_takeMoved_44 : decode cX0_takeMoved 44 = .ok (.iload 4, 2) := by decide +kernel
theorem dX0_takeMoved_46 : decode cX0_takeMoved 46 = .ok (.iaload, 1) := by decide +kernel
theorem dX0_takeMoved_47 : decode cX0_takeMoved 47 = .ok (.invokevirtual 42, 3) := by decide +kernel
theorem dX0_takeMoved_50 : decode cX0_takeMoved 50 = .ok (.iinc 4 1, 3) := by decide +kernel
theorem dX0_takeMoved_53 : decode cX0_takeMoved 53 = .ok (.goto (-46), 3) := by decide +kernel
theorem dX0_takeMoved_56 : decode cX0_takeMoved 56 = .ok (.return_, 1) := by decide +kernel
theorem dX0_has_0 : decode cX0_has 0 = .ok (.iload_n 1, 1) := by decide +kernel
theorem dX0_has_1 : decode cX0_has 1 = .ok (.ifCond .lt 15, 3) := by decide +kernel
theorem dX0_has_4 : decode cX0_has 4 = .ok (.iload_n 1, 1) := by decide +kernel
theorem dX0_has_5 : decode cX0_has 5 = .ok (.aload_n 0, 1) := by decide +kernel
theorem dX0_has_6 : decode cX0_has 6 = .ok (.getfield 24, 3) := by decide +kernel
theorem dX0_has_9 : decode cX0_has 9 = .ok (.if_icmp .ge 7, 3) := by decide +kernel
theorem dX0_has_12 : decode cX0_has 12 = .ok (.iconst 1, 1) := by decide +kernel
theorem dX0_has_13 : decode cX0_has 13 = .ok (.goto 4, 3) := by decide +kernel
theorem dX0_has_16 : decode cX0_has 16 = .ok (.iconst 0, 1) := by decide +kernel
theorem dX0_has_17 : decode cX0_has 17 = .ok (.ireturn, 1) := by decide +kernel
theorem dX1_init_0 : decode cX1_init 0 = .ok (.aload_n 0, 1) := by decide +kernel
theorem dX1_init_1 : decode cX1_init 1 = .ok (.invokespecial 3, 3) := by decide +kernel
theorem dX1_init_4 : decode cX1_init 4 = .ok (.aload_n 0, 1) := by decide +kernel
theorem dX1_init_5 : decode cX1_init 5 = .ok (.sipush 200, 3) := by decide +kernel
theorem dX1_init_8 : decode cX1_init 8 = .ok (.newarray .int, 2) := by decide +kernel
theorem dX1_init_10 : decode cX1_init 10 = .ok (.putfield 9, 3) := by decide +kernel
theorem dX1_init_13 : decode cX1_init 13 = .ok (.aload_n 0, 1) := by decide +kernel
theorem dX1_init_14 : decode cX1_init 14 = .ok (.bipush 20, 2) := by decide +kernel
theorem dX1_init_16 : decode cX1_init 16 = .ok (.newarray .int, 2) := by decide +kernel
theorem dX1_init_18 : decode cX1_init 18 = .ok (.putfield 15, 3) := by decide +kernel
theorem dX1_init_21 : decode cX1_init 21 = .ok (.aload_n 0, 1) := by decide +kernel
theorem dX1_init_22 : decode cX1_init 22 = .ok (.invokevirtual 18, 3) := by decide +kernel
theorem dX1_init_25 : decode cX1_init 25 = .ok (.return_, 1) := by decide +kernel
theorem dX1_forget_0 : decode cX1_forget 0 = .ok (.aload_n 0, 1) := by decide +kernel
theorem dX1_forget_1 : decode cX1_forget 1 = .ok (.getfield 9, 3) := by decide +kernel
theorem dX1_forget_4 : decode cX1_forget 4 = .ok (.iconst (-1), 1) := by decide +kernel
theorem dX1_forget_5 : decode cX1_forget 5 = .ok (.invokestatic 21, 3) := by decide +kernel
theorem dX1_forget_8 : decode cX1_forget 8 = .ok (.aload_n 0, 1) := by decide +kernel
theorem dX1_forget_9 : decode cX1_forget 9 = .ok (.getfield 15, 3) := by decide +kernel
theorem dX1_forget_12 : decode cX1_forget 12 = .ok (.iconst (-1), 1) := by decide +kernel
theorem dX1_forget_13 : decode cX1_forget 13 = .ok (.invokestatic 21, 3) := by decide +kernel
theorem dX1_forget_16 : decode cX1_forget 16 = .ok (.return_, 1) := by decide +kernel
theorem dX1_setArrow_0 : decode cX1_setArrow 0 = .ok (.iload_n 1, 1) := by decide +kernel
theorem dX1_setArrow_1 : decode cX1_setArrow 1 = .ok (.invokestatic 27, 3) := by decide +kernel
theorem dX1_setArrow_4 : decode cX1_setArrow 4 = .ok (.ifCond .eq 22, 3) := by decide +kernel
theorem dX1_setArrow_7 : decode cX1_setArrow 7 = .ok (.iload_n 2, 1) := by decide +kernel
theorem dX1_setArrow_8 : decode cX1_setArrow 8 = .ok (.invokestatic 31, 3) := by decide +kernel
theorem dX1_setArrow_11 : decode cX1_setArrow 11 = .ok (.ifCond .eq 15, 3) := by decide +kernel
theorem dX1_setArrow_14 : decode cX1_setArrow 14 = .ok (.iload_n 3, 1) := by decide +kernel
theorem dX1_setArrow_15 : decode cX1_setArrow 15 = .ok (.iconst (-1), 1) := by decide +kernel
theorem dX1_setArrow_16 : decode cX1_setArrow 16 = .ok (.if_icmp .eq 12, 3) := by decide +kernel
theorem dX1_setArrow_19 : decode cX1_setArrow 19 = .ok (.iload_n 3, 1) := by decide +kernel
theorem dX1_setArrow_20 : decode cX1_setArrow 20 = .ok (.invokestatic 27, 3) := by decide +kernel
theorem dX1_setArrow_23 : decode cX1_setArrow 23 = .ok (.ifCond .ne 5, 3) := by decide +kernel
theorem dX1_setArrow_26 : decode cX1_setArrow 26 = .ok (.iconst 0, 1) := by decide +kernel
theorem dX1_setArrow_27 : decode cX1_setArrow 27 = .ok (.ireturn, 1) := by decide +kernel
theorem dX1_setArrow_28 : decode cX1_setArrow 28 = .ok (.aload_n 0, 1) := by decide +kernel
theorem dX1_setArrow_29 : decode cX1_setArrow 29 = .ok (.getfield 9, 3) := by decide +kernel
theorem dX1_setArrow_32 : decode cX1_setArrow 32 = .ok (.iload_n 1, 1) := by decide +kernel
theorem dX1_setArrow_33 : decode cX1_setArrow 33 = .ok (.bipush 10, 2) := by decide +kernel
theorem dX1_setArrow_35 : decode cX1_setArrow 35 = .ok (.imul, 1) := by decide +kernel
theorem dX1_setArrow_36 : decode cX1_setArrow 36 = .ok (.iload_n 2, 1) := by decide +kernel
theorem dX1_setArrow_37 : decode cX1_setArrow 37 = .ok (.iadd, 1) := by decide +kernel
theorem dX1_setArrow_38 : decode cX1_setArrow 38 = .ok (.iload_n 3, 1) := by decide +kernel
theorem dX1_setArrow_39 : decode cX1_setArrow 39 = .ok (.iastore, 1) := by decide +kernel
theorem dX1_setArrow_40 : decode cX1_setArrow 40 = .ok (.iconst 1, 1) := by decide +kernel
theorem dX1_setArrow_41 : decode cX1_setArrow 41 = .ok (.ireturn, 1) := by decide +kernel
theorem dX1_setKind_0 : decode cX1_setKind 0 = .ok (.iload_n 1, 1) := by decide +kernel
theorem dX1_setKind_1 : decode cX1_setKind 1 = .ok (.invokestatic 27, 3) := by decide +kernel
theorem dX1_setKind_4 : decode cX1_setKind 4 = .ok (.ifCond .eq 14, 3) := by decide +kernel
theorem dX1_setKind_7 : decode cX1_setKind 7 = .ok (.iload_n 2, 1) := by decide +kernel
theorem dX1_setKind_8 : decode cX1_setKind 8 = .ok (.iconst (-1), 1) := by decide +kernel
theorem dX1_setKind_9 : decode cX1_setKind 9 = .ok (.if_icmp .lt 9, 3) := by decide +kernel
theorem dX1_setKind_12 : decode cX1_setKind 12 = .ok (.iload_n 2, 1) := by decide +kernel
theorem dX1_setKind_13 : decode cX1_setKind 13 = .ok (.bipush 100, 2) := by decide +kernel
theorem dX1_setKind_15 : decode cX1_setKind 15 = .ok (.if_icmp .lt 5, 3) := by decide +kernel
theorem dX1_setKind_18 : decode cX1_setKind 18 = .ok (.iconst 0, 1) := by decide +kernel
theorem dX1_setKind_19 : decode cX1_setKind 19 = .ok (.ireturn, 1) := by decide +kernel
theorem dX1_setKind_20 : decode cX1_setKind 20 = .ok (.aload_n 0, 1) := by decide +kernel
theorem dX1_setKind_21 : decode cX1_setKind 21 = .ok (.getfield 15, 3) := by decide +kernel
theorem dX1_setKind_24 : decode cX1_setKind 24 = .ok (.iload_n 1, 1) := by decide +kernel
theorem dX1_setKind_25 : decode cX1_setKind 25 = .ok (.iload_n 2, 1) := by decide +kernel
theorem dX1_setKind_26 : decode cX1_setKind 26 = .ok (.iastore, 1) := by decide +kernel
theorem dX1_setKind_27 : decode cX1_setKind 27 = .ok (.iconst 1, 1) := by decide +kernel
theorem dX1_setKind_28 : decode cX1_setKind 28 = .ok (.ireturn, 1) := by decide +kernel
theorem dX1_next_0 : decode cX1_next 0 = .ok (.iload_n 1, 1) := by decide +kernel
theorem dX1_next_1 : decode cX1_next 1 = .ok (.invokestatic 27, 3) := by decide +kernel
theorem dX1_next_4 : decode cX1_next 4 = .ok (.ifCond .eq 24, 3) := by decide +kernel
theorem dX1_next_7 : decode cX1_next 7 = .ok (.iload_n 2, 1) := by decide +kernel
theorem dX1_next_8 : decode cX1_next 8 = .ok (.invokestatic 31, 3) := by decide +kernel
theorem dX1_next_11 : decode cX1_next 11 = .ok (.ifCond .eq 17, 3) := by decide +kernel
theorem dX1_next_14 : decode cX1_next 14 = .ok (.aload_n 0, 1) := by decide +kernel
theorem dX1_next_15 : decode cX1_next 15 = .ok (.getfield 9, 3) := by decide +kernel
theorem dX1_next_18 : decode cX1_next 18 = .ok (.iload_n 1, 1) := by decide +kernel
theorem dX1_next_19 : decode cX1_next 19 = .ok (.bipush 10, 2) := by decide +kernel
theorem dX1_next_21 : decode cX1_next 21 = .ok (.imul, 1) := by decide +kernel
theorem dX1_next_22 : decode cX1_next 22 = .ok (.iload_n 2, 1) := by decide +kernel
theorem dX1_next_23 : decode cX1_next 23 = .ok (.iadd, 1) := by decide +kernel
theorem dX1_next_24 : decode cX1_next 24 = .ok (.iaload, 1) := by decide +kernel
theorem dX1_next_25 : decode cX1_next 25 = .ok (.goto 4, 3) := by decide +kernel
theorem dX1_next_28 : decode cX1_next 28 = .ok (.iconst (-1), 1) := by decide +kernel
theorem dX1_next_29 : decode cX1_next 29 = .ok (.ireturn, 1) := by decide +kernel
theorem dX1_kindOf_0 : decode cX1_kindOf 0 = .ok (.iload_n 1, 1) := by decide +kernel
theorem dX1_kindOf_1 : decode cX1_kindOf 1 = .ok (.invokestatic 27, 3) := by decide +kernel
theorem dX1_kindOf_4 : decode cX1_kindOf 4 = .ok (.ifCond .eq 12, 3) := by decide +kernel
theorem dX1_kindOf_7 : decode cX1_kindOf 7 = .ok (.aload_n 0, 1) := by decide +kernel
theorem dX1_kindOf_8 : decode cX1_kindOf 8 = .ok (.getfield 15, 3) := by decide +kernel
theorem dX1_kindOf_11 : decode cX1_kindOf 11 = .ok (.iload_n 1, 1) := by decide +kernel
theorem dX1_kindOf_12 : decode cX1_kindOf 12 = .ok (.iaload, 1) := by decide +kernel
theorem dX1_kindOf_13 : decode cX1_kindOf 13 = .ok (.goto 4, 3) := by decide +kernel
theorem dX1_kindOf_16 : decode cX1_kindOf 16 = .ok (.iconst (-1), 1) := by decide +kernel
theorem dX1_kindOf_17 : decode cX1_kindOf 17 = .ok (.ireturn, 1) := by decide +kernel
theorem dX1_isState_0 : decode cX1_isState 0 = .ok (.iload_n 0, 1) := by decide +kernel
theorem dX1_isState_1 : decode cX1_isState 1 = .ok (.ifCond .lt 13, 3) := by decide +kernel
theorem dX1_isState_4 : decode cX1_isState 4 = .ok (.iload_n 0, 1) := by decide +kernel
theorem dX1_isState_5 : decode cX1_isState 5 = .ok (.bipush 20, 2) := by decide +kernel
theorem dX1_isState_7 : decode cX1_isState 7 = .ok (.if_icmp .ge 7, 3) := by decide +kernel
theorem dX1_isState_10 : decode cX1_isState 10 = .ok (.iconst 1, 1) := by decide +kernel
theorem dX1_isState_11 : decode cX1_isState 11 = .ok (.goto 4, 3) := by decide +kernel
theorem dX1_isState_14 : decode cX1_isState 14 = .ok (.iconst 0, 1) := by decide +kernel
theorem dX1_isState_15 : decode cX1_isState 15 = .ok (.ireturn, 1) := by decide +kernel
theorem dX1_isSymbol_0 : decode cX1_isSymbol 0 = .ok (.iload_n 0, 1) := by decide +kernel
theorem dX1_isSymbol_1 : decode cX1_isSymbol 1 = .ok (.ifCond .lt 13, 3) := by decide +kernel
theorem dX1_isSymbol_4 : decode cX1_isSymbol 4 = .ok (.iload_n 0, 1) := by decide +kernel
theorem dX1_isSymbol_5 : decode cX1_isSymbol 5 = .ok (.bipush 10, 2) := by decide +kernel
theorem dX1_isSymbol_7 : decode cX1_isSymbol 7 = .ok (.if_icmp .ge 7, 3) := by decide +kernel
theorem dX1_isSymbol_10 : decode cX1_isSymbol 10 = .ok (.iconst 1, 1) := by decide +kernel
theorem dX1_isSymbol_11 : decode cX1_isSymbol 11 = .ok (.goto 4, 3) := by decide +kernel
theorem dX1_isSymbol_14 : decode cX1_isSymbol 14 = .ok (.iconst 0, 1) := by decide +kernel
theorem dX1_isSymbol_15 : decode cX1_isSymbol 15 = .ok (.ireturn, 1) := by decide +kernel
theorem dX2_init_0 : decode cX2_init 0 = .ok (.aload_n 0, 1) := by decide +kernel
theorem dX2_init_1 : decode cX2_init 1 = .ok (.invokespecial 3, 3) := by decide +kernel
theorem dX2_init_4 : decode cX2_init 4 = .ok (.aload_n 0, 1) := by decide +kernel
theorem dX2_init_5 : decode cX2_init 5 = .ok (.sipush 400, 3) := by decide +kernel
theorem dX2_init_8 : decode cX2_init 8 = .ok (.newarray .int, 2) := by decide +kernel
theorem dX2_init_10 : decode cX2_init 10 = .ok (.putfield 9, 3) := by decide +kernel
theorem dX2_init_13 : decode cX2_init 13 = .ok (.return_, 1) := by decide +kernel
theorem dX2_forget_0 : decode cX2_forget 0 = .ok (.aload_n 0, 1) := by decide +kernel
theorem dX2_forget_1 : decode cX2_forget 1 = .ok (.iconst 0, 1) := by decide +kernel
theorem dX2_forget_2 : decode cX2_forget 2 = .ok (.putfield 15, 3) := by decide +kernel
theorem dX2_forget_5 : decode cX2_forget 5 = .ok (.return_, 1) := by decide +kernel
theorem dX2_size_0 : decode cX2_size 0 = .ok (.aload_n 0, 1) := by decide +kernel
theorem dX2_size_1 : decode cX2_size 1 = .ok (.getfield 15, 3) := by decide +kernel
theorem dX2_size_4 : decode cX2_size 4 = .ok (.ireturn, 1) := by decide +kernel
theorem dX2_isEmpty_0 : decode cX2_isEmpty 0 = .ok (.aload_n 0, 1) := by decide +kernel
theorem dX2_isEmpty_1 : decode cX2_isEmpty 1 = .ok (.getfield 15, 3) := by decide +kernel
theorem dX2_isEmpty_4 : decode cX2_isEmpty 4 = .ok (.ifCond .ne 7, 3) := by decide +kernel
theorem dX2_isEmpty_7 : decode cX2_isEmpty 7 = .ok (.iconst 1, 1) := by decide +kernel
theorem dX2_isEmpty_8 : decode cX2_isEmpty 8 = .ok (.goto 4, 3) := by decide +kernel
theorem dX2_isEmpty_11 : decode cX2_isEmpty 11 = .ok (.iconst 0, 1) := by decide +kernel
theorem dX2_isEmpty_12 : decode cX2_isEmpty 12 = .ok (.ireturn, 1) := by decide +kernel
theorem dX2_at_0 : decode cX2_at 0 = .ok (.iload_n 1, 1) := by decide +kernel
theorem dX2_at_1 : decode cX2_at 1 = .ok (.ifCond .lt 20, 3) := by decide +kernel
theorem dX2_at_4 : decode cX2_at 4 = .ok (.iload_n 1, 1) := by decide +kernel
theorem dX2_at_5 : decode cX2_at 5 = .ok (.aload_n 0, 1) := by decide +kernel
theorem dX2_at_6 : decode cX2_at 6 = .ok (.getfield 15, 3) := by decide +kernel
theorem dX2_at_9 : decode cX2_at 9 = .ok (.if_icmp .ge 12, 3) := by decide +kernel
theorem dX2_at_12 : decode cX2_at 12 = .ok (.aload_n 0, 1) := by decide +kernel
theorem dX2_at_13 : decode cX2_at 13 = .ok (.getfield 9, 3) := by decide +kernel
theorem dX2_at_16 : decode cX2_at 16 = .ok (.iload_n 1, 1) := by decide +kernel
theorem dX2_at_17 : decode cX2_at 17 = .ok (.iaload, 1) := by decide +kernel
theorem dX2_at_18 : decode cX2_at 18 = .ok (.goto 4, 3) := by decide +kernel
theorem dX2_at_21 : decode cX2_at 21 = .ok (.iconst (-1), 1) := by decide +kernel
theorem dX2_at_22 : decode cX2_at 22 = .ok (.ireturn, 1) := by decide +kernel
theorem dX2_canReplace_0 : decode cX2_canReplace 0 = .ok (.iload_n 3, 1) := by decide +kernel
theorem dX2_canReplace_1 : decode cX2_canReplace 1 = .ok (.ifCond .lt 53, 3) := by decide +kernel
theorem dX2_canReplace_4 : decode cX2_canReplace 4 = .ok (.iload_n 3, 1) := by decide +kernel
theorem dX2_canReplace_5 : decode cX2_canReplace 5 = .ok (.bipush 16, 2) := by decide +kernel
theorem dX2_canReplace_7 : decode cX2_canReplace 7 = .ok (.if_icmp .gt 47, 3) := by decide +kernel
theorem dX2_canReplace_10 : decode cX2_canReplace 10 = .ok (.iload_n 1, 1) := by decide +kernel
theorem dX2_canReplace_11 : decode cX2_canReplace 11 = .ok (.ifCond .lt 43, 3) := by decide +kernel
theorem dX2_canReplace_14 : decode cX2_canReplace 14 = .ok (.iload_n 1, 1) := by decide +kernel
theorem dX2_canReplace_15 : decode cX2_canReplace 15 = .ok (.aload_n 0, 1) := by decide +kernel
theorem dX2_canReplace_16 : decode cX2_canReplace 16 = .ok (.getfield 15, 3) := by decide +kernel
theorem dX2_canReplace_19 : decode cX2_canReplace 19 = .ok (.if_icmp .gt 35, 3) := by decide +kernel
theorem dX2_canReplace_22 : decode cX2_canReplace 22 = .ok (.iload_n 2, 1) := by decide +kernel
theorem dX2_canReplace_23 : decode cX2_canReplace 23 = .ok (.ifCond .lt 31, 3) := by decide +kernel
theorem dX2_canReplace_26 : decode cX2_canReplace 26 = .ok (.iload_n 2, 1) := by decide +kernel
theorem dX2_canReplace_27 : decode cX2_canReplace 27 = .ok (.aload_n 0, 1) := by decide +kernel
theorem dX2_canReplace_28 : decode cX2_canReplace 28 = .ok (.getfield 15, 3) := by decide +kernel
theorem dX2_canReplace_31 : decode cX2_canReplace 31 = .ok (.iload_n 1, 1) := by decide +kernel
theorem dX2_canReplace_32 : decode cX2_canReplace 32 = .ok (.isub, 1) := by decide +kernel
theorem dX2_canReplace_33 : decode cX2_canReplace 33 = .ok (.if_icmp .gt 21, 3) := by decide +kernel
theorem dX2_canReplace_36 : decode cX2_canReplace 36 = .ok (.aload_n 0, 1) := by decide +kernel
theorem dX2_canReplace_37 : decode cX2_canReplace 37 = .ok (.getfield 15, 3) := by decide +kernel
theorem dX2_canReplace_40 : decode cX2_canReplace 40 = .ok (.iload_n 2, 1) := by decide +kernel
theorem dX2_canReplace_41 : decode cX2_canReplace 41 = .ok (.isub, 1) := by decide +kernel
theorem dX2_canReplace_42 : decode cX2_canReplace 42 = .ok (.iload_n 3, 1) := by decide +kernel
theorem dX2_canReplace_43 : decode cX2_canReplace 43 = .ok (.iadd, 1) := by decide +kernel
theorem dX2_canReplace_44 : decode cX2_canReplace 44 = .ok (.sipush 400, 3) := by decide +kernel
theorem dX2_canReplace_47 : decode cX2_canReplace 47 = .ok (.if_icmp .gt 7, 3) := by decide +kernel
theorem dX2_canReplace_50 : decode cX2_canReplace 50 = .ok (.iconst 1, 1) := by decide +kernel
theorem dX2_canReplace_51 : decode cX2_canReplace 51 = .ok (.goto 4, 3) := by decide +kernel
theorem dX2_canReplace_54 : decode cX2_canReplace 54 = .ok (.iconst 0, 1) := by decide +kernel
theorem dX2_canReplace_55 : decode cX2_canReplace 55 = .ok (.ireturn, 1) := by decide +kernel
theorem dX2_replace_0 : decode cX2_replace 0 = .ok (.aload_n 0, 1) := by decide +kernel
theorem dX2_replace_1 : decode cX2_replace 1 = .ok (.iload_n 1, 1) := by decide +kernel
theorem dX2_replace_2 : decode cX2_replace 2 = .ok (.iload_n 2, 1) := by decide +kernel
theorem dX2_replace_3 : decode cX2_replace 3 = .ok (.iload 5, 2) := by decide +kernel
theorem dX2_replace_5 : decode cX2_replace 5 = .ok (.invokevirtual 19, 3) := by decide +kernel
theorem dX2_replace_8 : decode cX2_replace 8 = .ok (.ifCond .ne 4, 3) := by decide +kernel
theorem dX2_replace_11 : decode cX2_replace 11 = .ok (.return_, 1) := by decide +kernel
theorem dX2_replace_12 : decode cX2_replace 12 = .ok (.aload_n 0, 1) := by decide +kernel
theorem dX2_replace_13 : decode cX2_replace 13 = .ok (.getfield 9, 3) := by decide +kernel
theorem dX2_replace_16 : decode cX2_replace 16 = .ok (.iload_n 1, 1) := by decide +kernel
theorem dX2_replace_17 : decode cX2_replace 17 = .ok (.iload_n 2, 1) := by decide +kernel
theorem dX2_replace_18 : decode cX2_replace 18 = .ok (.iadd, 1) := by decide +kernel
theorem dX2_replace_19 : decode cX2_replace 19 = .ok (.aload_n 0, 1) := by decide +kernel
theorem dX2_replace_20 : decode cX2_replace 20 = .ok (.getfield 9, 3) := by decide +kernel
theorem dX2_replace_23 : decode cX2_replace 23 = .ok (.iload_n 1, 1) := by decide +kernel
theorem dX2_replace_24 : decode cX2_replace 24 = .ok (.iload 5, 2) := by decide +kernel
theorem dX2_replace_26 : decode cX2_replace 26 = .ok (.iadd, 1) := by decide +kernel
theorem dX2_replace_27 : decode cX2_replace 27 = .ok (.aload_n 0, 1) := by decide +kernel
theorem dX2_replace_28 : decode cX2_replace 28 = .ok (.getfield 15, 3) := by decide +kernel
theorem dX2_replace_31 : decode cX2_replace 31 = .ok (.iload_n 1, 1) := by decide +kernel
theorem dX2_replace_32 : decode cX2_replace 32 = .ok (.isub, 1) := by decide +kernel
theorem dX2_replace_33 : decode cX2_replace 33 = .ok (.iload_n 2, 1) := by decide +kernel
theorem dX2_replace_34 : decode cX2_replace 34 = .ok (.isub, 1) := by decide +kernel
theorem dX2_replace_35 : decode cX2_replace 35 = .ok (.invokestatic 23, 3) := by decide +kernel
theorem dX2_replace_38 : decode cX2_replace 38 = .ok (.iconst 0, 1) := by decide +kernel
theorem dX2_replace_39 : decode cX2_replace 39 = .ok (.istore 6, 2) := by decide +kernel
theorem dX2_replace_41 : decode cX2_replace 41 = .ok (.iload 6, 2) := by decide +kernel
theorem dX2_replace_43 : decode cX2_replace 43 = .ok (.iload 5, 2) := by decide +kernel
theorem dX2_replace_45 : decode cX2_replace 45 = .ok (.if_icmp .ge 26, 3) := by decide +kernel
theorem dX2_replace_48 : decode cX2_replace 48 = .ok (.aload_n 0, 1) := by decide +kernel
theorem dX2_replace_49 : decode cX2_replace 49 = .ok (.getfield 9, 3) := by decide +kernel
theorem dX2_replace_52 : decode cX2_replace 52 = .ok (.iload_n 1, 1) := by decide +kernel
theorem dX2_replace_53 : decode cX2_replace 53 = .ok (.iload 6, 2) := by decide +kernel
theorem dX2_replace_55 : decode cX2_replace 55 = .ok (.iadd, 1) := by decide +kernel
theorem dX2_replace_56 : decode cX2_replace 56 = .ok (.lload_n 3, 1) := by decide +kernel
theorem dX2_replace_57 : decode cX2_replace 57 = .ok (.iload 5, 2) := by decide +kernel
theorem dX2_replace_59 : decode cX2_replace 59 = .ok (.iload 6, 2) := by decide +kernel
theorem dX2_replace_61 : decode cX2_replace 61 = .ok (.invokestatic 29, 3) := by decide +kernel
theorem dX2_replace_64 : decode cX2_replace 64 = .ok (.iastore, 1) := by decide +kernel
theorem dX2_replace_65 : decode cX2_replace 65 = .ok (.iinc 6 1, 3) := by decide +kernel
theorem dX2_replace_68 : decode cX2_replace 68 = .ok (.goto (-27), 3) := by decide +kernel
theorem dX2_replace_71 : decode cX2_replace 71 = .ok (.aload_n 0, 1) := by decide +kernel
theorem dX2_replace_72 : decode cX2_replace 72 = .ok (.dup, 1) := by decide +kernel
theorem dX2_replace_73 : decode cX2_replace 73 = .ok (.getfield 15, 3) := by decide +kernel
theorem dX2_replace_76 : decode cX2_replace 76 = .ok (.iload 5, 2) := by decide +kernel
theorem dX2_replace_78 : decode cX2_replace 78 = .ok (.iload_n 2, 1) := by decide +kernel
theorem dX2_replace_79 : decode cX2_replace 79 = .ok (.isub, 1) := by decide +kernel
theorem dX2_replace_80 : decode cX2_replace 80 = .ok (.iadd, 1) := by decide +kernel
theorem dX2_replace_81 : decode cX2_replace 81 = .ok (.putfield 15, 3) := by decide +kernel
theorem dX2_replace_84 : decode cX2_replace 84 = .ok (.return_, 1) := by decide +kernel
theorem dJ7_fill_53178_0 : decode cJ7_fill_53178 0 = .ok (.iconst 0, 1) := by decide +kernel
theorem dJ7_fill_53178_1 : decode cJ7_fill_53178 1 = .ok (.istore_n 2, 1) := by decide +kernel
theorem dJ7_fill_53178_2 : decode cJ7_fill_53178 2 = .ok (.aload_n 0, 1) := by decide +kernel
theorem dJ7_fill_53178_3 : decode cJ7_fill_53178 3 = .ok (.arraylength, 1) := by decide +kernel
theorem dJ7_fill_53178_4 : decode cJ7_fill_53178 4 = .ok (.istore_n 3, 1) := by decide +kernel
theorem dJ7_fill_53178_5 : decode cJ7_fill_53178 5 = .ok (.iload_n 2, 1) := by decide +kernel
theorem dJ7_fill_53178_6 : decode cJ7_fill_53178 6 = .ok (.iload_n 3, 1) := by decide +kernel
theorem dJ7_fill_53178_7 : decode cJ7_fill_53178 7 = .ok (.if_icmp .ge 13, 3) := by decide +kernel
theorem dJ7_fill_53178_10 : decode cJ7_fill_53178 10 = .ok (.aload_n 0, 1) := by decide +kernel
theorem dJ7_fill_53178_11 : decode cJ7_fill_53178 11 = .ok (.iload_n 2, 1) := by decide +kernel
theorem dJ7_fill_53178_12 : decode cJ7_fill_53178 12 = .ok (.iload_n 1, 1) := by decide +kernel
theorem dJ7_fill_53178_13 : decode cJ7_fill_53178 13 = .ok (.iastore, 1) := by decide +kernel
theorem dJ7_fill_53178_14 : decode cJ7_fill_53178 14 = .ok (.iinc 2 1, 3) := by decide +kernel
theorem dJ7_fill_53178_17 : decode cJ7_fill_53178 17 = .ok (.goto (-12), 3) := by decide +kernel
theorem dJ7_fill_53178_20 : decode cJ7_fill_53178 20 = .ok (.return_, 1) := by decide +kernel
end
section
theorem dX3_init_0 : decode cX3_init 0 = .ok (.aload_n 0, 1) := by decide +kernel
theorem dX3_init_1 : decode cX3_init 1 = .ok (.invokespecial 1, 3) := by decide +kernel
theorem dX3_init_4 : decode cX3_init 4 = .ok (.aload_n 0, 1) := by decide +kernel
theorem dX3_init_5 : decode cX3_init 5 = .ok (.new 7, 3) := by decide +kernel
theorem dX3_init_8 : decode cX3_init 8 = .ok (.dup, 1) := by decide +kernel
theorem dX3_init_9 : decode cX3_init 9 = .ok (.invokespecial 9, 3) := by decide +kernel
theorem dX3_init_12 : decode cX3_init 12 = .ok (.putfield 10, 3) := by decide +kernel
theorem dX3_init_15 : decode cX3_init 15 = .ok (.aload_n 0, 1) := by decide +kernel
theorem dX3_init_16 : decode cX3_init 16 = .ok (.new 16, 3) := by decide +kernel
theorem dX3_init_19 : decode cX3_init 19 = .ok (.dup, 1) := by decide +kernel
theorem dX3_init_20 : decode cX3_init 20 = .ok (.invokespecial 18, 3) := by decide +kernel
theorem dX3_init_23 : decode cX3_init 23 = .ok (.putfield 19, 3) := by decide +kernel
theorem dX3_init_26 : decode cX3_init 26 = .ok (.aload_n 0, 1) := by decide +kernel
theorem dX3_init_27 : decode cX3_init 27 = .ok (.new 23, 3) := by decide +kernel
theorem dX3_init_30 : decode cX3_init 30 = .ok (.dup, 1) := by decide +kernel
theorem dX3_init_31 : decode cX3_init 31 = .ok (.invokespecial 25, 3) := by decide +kernel
theorem dX3_init_34 : decode cX3_init 34 = .ok (.putfield 26, 3) := by decide +kernel
theorem dX3_init_37 : decode cX3_init 37 = .ok (.aload_n 0, 1) := by decide +kernel
theorem dX3_init_38 : decode cX3_init 38 = .ok (.new 23, 3) := by decide +kernel
theorem dX3_init_41 : decode cX3_init 41 = .ok (.dup, 1) := by decide +kernel
theorem dX3_init_42 : decode cX3_init 42 = .ok (.invokespecial 25, 3) := by decide +kernel
theorem dX3_init_45 : decode cX3_init 45 = .ok (.putfield 30, 3) := by decide +kernel
theorem dX3_init_48 : decode cX3_init 48 = .ok (.return_, 1) := by decide +kernel
theorem dX3_arrow_0 : decode cX3_arrow 0 = .ok (.aload_n 0, 1) := by decide +kernel
theorem dX3_arrow_1 : decode cX3_arrow 1 = .ok (.getfield 19, 3) := by decide +kernel
theorem dX3_arrow_4 : decode cX3_arrow 4 = .ok (.invokevirtual 33, 3) := by decide +kernel
theorem dX3_arrow_7 : decode cX3_arrow 7 = .ok (.ifCond .eq 20, 3) := by decide +kernel
theorem dX3_arrow_10 : decode cX3_arrow 10 = .ok (.aload_n 0, 1) := by decide +kernel
theorem dX3_arrow_11 : decode cX3_arrow 11 = .ok (.getfield 10, 3) := by decide +kernel
theorem dX3_arrow_14 : decode cX3_arrow 14 = .ok (.iload_n 1, 1) := by decide +kernel
theorem dX3_arrow_15 : decode cX3_arrow 15 = .ok (.iload_n 2, 1) := by decide +kernel
theorem dX3_arrow_16 : decode cX3_arrow 16 = .ok (.iload_n 3, 1) := by decide +kernel
theorem dX3_arrow_17 : decode cX3_arrow 17 = .ok (.invokevirtual 37, 3) := by decide +kernel
theorem dX3_arrow_20 : decode cX3_arrow 20 = .ok (.ifCond .eq 7, 3) := by decide +kernel
theorem dX3_arrow_23 : decode cX3_arrow 23 = .ok (.iconst 1, 1) := by decide +kernel
theorem dX3_arrow_24 : decode cX3_arrow 24 = .ok (.goto 4, 3) := by decide +kernel
theorem dX3_arrow_27 : decode cX3_arrow 27 = .ok (.iconst 0, 1) := by decide +kernel
theorem dX3_arrow_28 : decode cX3_arrow 28 = .ok (.ireturn, 1) := by decide +kernel
theorem dX3_kind_0 : decode cX3_kind 0 = .ok (.aload_n 0, 1) := by decide +kernel
theorem dX3_kind_1 : decode cX3_kind 1 = .ok (.getfield 19, 3) := by decide +kernel
theorem dX3_kind_4 : decode cX3_kind 4 = .ok (.invokevirtual 33, 3) := by decide +kernel
theorem dX3_kind_7 : decode cX3_kind 7 = .ok (.ifCond .eq 19, 3) := by decide +kernel
theorem dX3_kind_10 : decode cX3_kind 10 = .ok (.aload_n 0, 1) := by decide +kernel
theorem dX3_kind_11 : decode cX3_kind 11 = .ok (.getfield 10, 3) := by decide +kernel
theorem dX3_kind_14 : decode cX3_kind 14 = .ok (.iload_n 1, 1) := by decide +kernel
theorem dX3_kind_15 : decode cX3_kind 15 = .ok (.iload_n 2, 1) := by decide +kernel
theorem dX3_kind_16 : decode cX3_kind 16 = .ok (.invokevirtual 41, 3) := by decide +kernel
theorem dX3_kind_19 : decode cX3_kind 19 = .ok (.ifCond .eq 7, 3) := by decide +kernel
theorem dX3_kind_22 : decode cX3_kind 22 = .ok (.iconst 1, 1) := by decide +kernel
theorem dX3_kind_23 : decode cX3_kind 23 = .ok (.goto 4, 3) := by decide +kernel
theorem dX3_kind_26 : decode cX3_kind 26 = .ok (.iconst 0, 1) := by decide +kernel
theorem dX3_kind_27 : decode cX3_kind 27 = .ok (.ireturn, 1) := by decide +kernel
theorem dX3_edit_0 : decode cX3_edit 0 = .ok (.aload_n 0, 1) := by decide +kernel
theorem dX3_edit_1 : decode cX3_edit 1 = .ok (.getfield 19, 3) := by decide +kernel
theorem dX3_edit_4 : decode cX3_edit 4 = .ok (.iload_n 1, 1) := by decide +kernel
theorem dX3_edit_5 : decode cX3_edit 5 = .ok (.iload_n 2, 1) := by decide +kernel
theorem dX3_edit_6 : decode cX3_edit 6 = .ok (.iload 5, 2) := by decide +kernel
theorem dX3_edit_8 : decode cX3_edit 8 = .ok (.invokevirtual 45, 3) := by decide +kernel
theorem dX3_edit_11 : decode cX3_edit 11 = .ok (.ifCond .eq 12, 3) := by decide +kernel
theorem dX3_edit_14 : decode cX3_edit 14 = .ok (.lload_n 3, 1) := by decide +kernel
theorem dX3_edit_15 : decode cX3_edit 15 = .ok (.iload 5, 2) := by decide +kernel
theorem dX3_edit_17 : decode cX3_edit 17 = .ok (.invokestatic 48, 3) := by decide +kernel
theorem dX3_edit_20 : decode cX3_edit 20 = .ok (.ifCond .ne 5, 3) := by decide +kernel
theorem dX3_edit_23 : decode cX3_edit 23 = .ok (.iconst (-1), 1) := by decide +kernel
theorem dX3_edit_24 : decode cX3_edit 24 = .ok (.ireturn, 1) := by decide +kernel
theorem dX3_edit_25 : decode cX3_edit 25 = .ok (.aload_n 0, 1) := by decide +kernel
theorem dX3_edit_26 : decode cX3_edit 26 = .ok (.getfield 26, 3) := by decide +kernel
theorem dX3_edit_29 : decode cX3_edit 29 = .ok (.iload_n 1, 1) := by decide +kernel
theorem dX3_edit_30 : decode cX3_edit 30 = .ok (.invokevirtual 52, 3) := by decide +kernel
theorem dX3_edit_33 : decode cX3_edit 33 = .ok (.istore 6, 2) := by decide +kernel
theorem dX3_edit_35 : decode cX3_edit 35 = .ok (.aload_n 0, 1) := by decide +kernel
theorem dX3_edit_36 : decode cX3_edit 36 = .ok (.getfield 19, 3) := by decide +kernel
theorem dX3_edit_39 : decode cX3_edit 39 = .ok (.invokevirtual 33, 3) := by decide +kernel
theorem dX3_edit_42 : decode cX3_edit 42 = .ok (.ifCond .ne 15, 3) := by decide +kernel
theorem dX3_edit_45 : decode cX3_edit 45 = .ok (.iload 6, 2) := by decide +kernel
theorem dX3_edit_47 : decode cX3_edit 47 = .ok (.aload_n 0, 1) := by decide +kernel
theorem dX3_edit_48 : decode cX3_edit 48 = .ok (.getfield 26, 3) := by decide +kernel
theorem dX3_edit_51 : decode cX3_edit 51 = .ok (.invokevirtual 56, 3) := by decide +kernel
theorem dX3_edit_54 : decode cX3_edit 54 = .ok (.if_icmp .ge 7, 3) := by decide +kernel
theorem dX3_edit_57 : decode cX3_edit 57 = .ok (.iconst 1, 1) := by decide +kernel
theorem dX3_edit_58 : decode cX3_edit 58 = .ok (.goto 4, 3) := by decide +kernel
theorem dX3_edit_61 : decode cX3_edit 61 = .ok (.iconst 0, 1) := by decide +kernel
theorem dX3_edit_62 : decode cX3_edit 62 = .ok (.istore 7, 2) := by decide +kernel
theorem dX3_edit_64 : decode cX3_edit 64 = .ok (.aload_n 0, 1) := by decide +kernel
theorem dX3_edit_65 : decode cX3_edit 65 = .ok (.getfield 19, 3) := by decide +kernel
theorem dX3_edit_68 : decode cX3_edit 68 = .ok (.iload_n 1, 1) := by decide +kernel
theorem dX3_edit_69 : decode cX3_edit 69 = .ok (.iload_n 2, 1) := by decide +kernel
theorem dX3_edit_70 : decode cX3_edit 70 = .ok (.lload_n 3, 1) := by decide +kernel
theorem dX3_edit_71 : decode cX3_edit 71 = .ok (.iload 5, 2) := by decide +kernel
theorem dX3_edit_73 : decode cX3_edit 73 = .ok (.invokevirtual 60, 3) := by decide +kernel
theorem dX3_edit_76 : decode cX3_edit 76 = .ok (.aload_n 0, 1) := by decide +kernel
theorem dX3_edit_77 : decode cX3_edit 77 = .ok (.iconst 0, 1) := by decide +kernel
theorem dX3_edit_78 : decode cX3_edit 78 = .ok (.putfield 64, 3) := by decide +kernel
theorem dX3_edit_81 : decode cX3_edit 81 = .ok (.aload_n 0, 1) := by decide +kernel
theorem dX3_edit_82 : decode cX3_edit 82 = .ok (.iconst 0, 1) := by decide +kernel
theorem dX3_edit_83 : decode cX3_edit 83 = .ok (.putfield 68, 3) := by decide +kernel
theorem dX3_edit_86 : decode cX3_edit 86 = .ok (.aload_n 0, 1) := by decide +kernel
theorem dX3_edit_87 : decode cX3_edit 87 = .ok (.dup, 1) := by decide +kernel
theorem dX3_edit_88 : decode cX3_edit 88 = .ok (.getfield 71, 3) := by decide +kernel
theorem dX3_edit_91 : decode cX3_edit 91 = .ok (.iconst 1, 1) := by decide +kernel
theorem dX3_edit_92 : decode cX3_edit 92 = .ok (.iadd, 1) := by decide +kernel
theorem dX3_edit_93 : decode cX3_edit 93 = .ok (.putfield 71, 3) := by decide +kernel
theorem dX3_edit_96 : decode cX3_edit 96 = .ok (.iload 7, 2) := by decide +kernel
theorem dX3_edit_98 : decode cX3_edit 98 = .ok (.ifCond .eq 17, 3) := by decide +kernel
theorem dX3_edit_101 : decode cX3_edit 101 = .ok (.aload_n 0, 1) := by decide +kernel
theorem dX3_edit_102 : decode cX3_edit 102 = .ok (.iload 6, 2) := by decide +kernel
theorem dX3_edit_104 : decode cX3_edit 104 = .ok (.iload_n 1, 1) := by decide +kernel
theorem dX3_edit_105 : decode cX3_edit 105 = .ok (.iload 5, 2) := by decide +kernel
theorem dX3_edit_107 : decode cX3_edit 107 = .ok (.iadd, 1) := by decide +kernel
theorem dX3_edit_108 : decode cX3_edit 108 = .ok (.iload 5, 2) := by decide +kernel
theorem dX3_edit_110 : decode cX3_edit 110 = .ok (.iload_n 2, 1) := by decide +kernel
theorem dX3_edit_111 : decode cX3_edit 111 = .ok (.isub, 1) := by decide +kernel
theorem dX3_edit_112 : decode cX3_edit 112 = .ok (.invokevirtual 74, 3) := by decide +kernel
theorem dX3_edit_115 : decode cX3_edit 115 = .ok (.aload_n 0, 1) := by decide +kernel
theorem dX3_edit_116 : decode cX3_edit 116 = .ok (.getfield 64, 3) := by decide +kernel
theorem dX3_edit_119 : decode cX3_edit 119 = .ok (.ireturn, 1) := by decide +kernel
theorem dX3_token_0 : decode cX3_token 0 = .ok (.iload_n 1, 1) := by decide +kernel
theorem dX3_token_1 : decode cX3_token 1 = .ok (.ifCond .lt 14, 3) := by decide +kernel
theorem dX3_token_4 : decode cX3_token 4 = .ok (.iload_n 1, 1) := by decide +kernel
theorem dX3_token_5 : decode cX3_token 5 = .ok (.aload_n 0, 1) := by decide +kernel
theorem dX3_token_6 : decode cX3_token 6 = .ok (.getfield 26, 3) := by decide +kernel
theorem dX3_token_9 : decode cX3_token 9 = .ok (.invokevirtual 78, 3) := by decide +kernel
theorem dX3_token_12 : decode cX3_token 12 = .ok (.if_icmp .lt 5, 3) := by decide +kernel
theorem dX3_token_15 : decode cX3_token 15 = .ok (.iconst (-1), 1) := by decide +kernel
theorem dX3_token_16 : decode cX3_token 16 = .ok (.ireturn, 1) := by decide +kernel
theorem dX3_token_17 : decode cX3_token 17 = .ok (.iload_n 2, 1) := by decide +kernel
theorem dX3_token_18 : decode cX3_token 18 = .ok (.tableswitch 66 0 3 #[30, 39, 48, 57], 30) := by decide +kernel
theorem dX3_token_48 : decode cX3_token 48 = .ok (.aload_n 0, 1) := by decide +kernel
theorem dX3_token_49 : decode cX3_token 49 = .ok (.getfield 26, 3) := by decide +kernel
theorem dX3_token_52 : decode cX3_token 52 = .ok (.iload_n 1, 1) := by decide +kernel
theorem dX3_token_53 : decode cX3_token 53 = .ok (.invokevirtual 81, 3) := by decide +kernel
theorem dX3_token_56 : decode cX3_token 56 = .ok (.ireturn, 1) := by decide +kernel
theorem dX3_token_57 : decode cX3_token 57 = .ok (.aload_n 0, 1) := by decide +kernel
theorem dX3_token_58 : decode cX3_token 58 = .ok (.getfield 26, 3) := by decide +kernel
theorem dX3_token_61 : decode cX3_token 61 = .ok (.iload_n 1, 1) := by decide +kernel
theorem dX3_token_62 : decode cX3_token 62 = .ok (.invokevirtual 84, 3) := by decide +kernel
theorem dX3_token_65 : decode cX3_token 65 = .ok (.ireturn, 1) := by decide +kernel
theorem dX3_token_66 : decode cX3_token 66 = .ok (.aload_n 0, 1) := by decide +kernel
theorem dX3_token_67 : decode cX3_token 67 = .ok (.getfield 26, 3) := by decide +kernel
theorem dX3_token_70 : decode cX3_token 70 = .ok (.iload_n 1, 1) := by decide +kernel
theorem dX3_token_71 : decode cX3_token 71 = .ok (.invokevirtual 87, 3) := by decide +kernel
theorem dX3_token_74 : decode cX3_token 74 = .ok (.ireturn, 1) := by decide +kernel
theorem dX3_token_75 : decode cX3_token 75 = .ok (.aload_n 0, 1) := by decide +kernel
theorem dX3_token_76 : decode cX3_token 76 = .ok (.getfield 26, 3) := by decide +kernel
theorem dX3_token_79 : decode cX3_token 79 = .ok (.iload_n 1, 1) := by decide +kernel
theorem dX3_token_80 : decode cX3_token 80 = .ok (.invokevirtual 90, 3) := by decide +kernel
theorem dX3_token_83 : decode cX3_token 83 = .ok (.ireturn, 1) := by decide +kernel
theorem dX3_token_84 : decode cX3_token 84 = .ok (.iconst (-1), 1) := by decide +kernel
theorem dX3_token_85 : decode cX3_token 85 = .ok (.ireturn, 1) := by decide +kernel
theorem dX3_tokenAt_0 : decode cX3_tokenAt 0 = .ok (.aload_n 0, 1) := by decide +kernel
theorem dX3_tokenAt_1 : decode cX3_tokenAt 1 = .ok (.getfield 26, 3) := by decide +kernel
theorem dX3_tokenAt_4 : decode cX3_tokenAt 4 = .ok (.iload_n 1, 1) := by decide +kernel
theorem dX3_tokenAt_5 : decode cX3_tokenAt 5 = .ok (.invokevirtual 93, 3) := by decide +kernel
theorem dX3_tokenAt_8 : decode cX3_tokenAt 8 = .ok (.ireturn, 1) := by decide +kernel
theorem dX3_symbol_0 : decode cX3_symbol 0 = .ok (.aload_n 0, 1) := by decide +kernel
theorem dX3_symbol_1 : decode cX3_symbol 1 = .ok (.getfield 19, 3) := by decide +kernel
theorem dX3_symbol_4 : decode cX3_symbol 4 = .ok (.iload_n 1, 1) := by decide +kernel
theorem dX3_symbol_5 : decode cX3_symbol 5 = .ok (.invokevirtual 96, 3) := by decide +kernel
theorem dX3_symbol_8 : decode cX3_symbol 8 = .ok (.ireturn, 1) := by decide +kernel
theorem dX3_count_0 : decode cX3_count 0 = .ok (.iload_n 1, 1) := by decide +kernel
theorem dX3_count_1 : decode cX3_count 1 = .ok (.tableswitch 132 0 6 #[43, 51, 59, 88, 117, 122, 127], 43) := by decide +kernel
theorem dX3_count_44 : decode cX3_count 44 = .ok (.aload_n 0, 1) := by decide +kernel
theorem dX3_count_45 : decode cX3_count 45 = .ok (.getfield 26, 3) := by decide +kernel
theorem dX3_count_48 : decode cX3_count 48 = .ok (.invokevirtual 78, 3) := by decide +kernel
theorem dX3_count_51 : decode cX3_count 51 = .ok (.ireturn, 1) := by decide +kernel
theorem dX3_count_52 : decode cX3_count 52 = .ok (.aload_n 0, 1) := by decide +kernel
theorem dX3_count_53 : decode cX3_count 53 = .ok (.getfield 19, 3) := by decide +kernel
theorem dX3_count_56 : decode cX3_count 56 = .ok (.invokevirtual 99, 3) := by decide +kernel
theorem dX3_count_59 : decode cX3_count 59 = .ok (.ireturn, 1) := by decide +kernel
theorem dX3_count_60 : decode cX3_count 60 = .ok (.aload_n 0, 1) := by decide +kernel
theorem dX3_count_61 : decode cX3_count 61 = .ok (.getfield 26, 3) := by decide +kernel
theorem dX3_count_64 : decode cX3_count 64 = .ok (.invokevirtual 100, 3) := by decide +kernel
theorem dX3_count_67 : decode cX3_count 67 = .ok (.ifCond .eq 20, 3) := by decide +kernel
theorem dX3_count_70 : decode cX3_count 70 = .ok (.aload_n 0, 1) := by decide +kernel
theorem dX3_count_71 : decode cX3_count 71 = .ok (.getfield 26, 3) := by decide +kernel
theorem dX3_count_74 : decode cX3_count 74 = .ok (.aload_n 0, 1) := by decide +kernel
theorem dX3_count_75 : decode cX3_count 75 = .ok (.getfield 26, 3) := by decide +kernel
theorem dX3_count_78 : decode cX3_count 78 = .ok (.invokevirtual 78, 3) := by decide +kernel
theorem dX3_count_81 : decode cX3_count 81 = .ok (.invokevirtual 81, 3) := by decide +kernel
theorem dX3_count_84 : decode cX3_count 84 = .ok (.goto 4, 3) := by decide +kernel
theorem dX3_count_87 : decode cX3_count 87 = .ok (.iconst (-1), 1) := by decide +kernel
theorem dX3_count_88 : decode cX3_count 88 = .ok (.ireturn, 1) := by decide +kernel
theorem dX3_count_89 : decode cX3_count 89 = .ok (.aload_n 0, 1) := by decide +kernel
theorem dX3_count_90 : decode cX3_count 90 = .ok (.getfield 26, 3) := by decide +kernel
theorem dX3_count_93 : decode cX3_count 93 = .ok (.invokevirtual 100, 3) := by decide +kernel
theorem dX3_count_96 : decode cX3_count 96 = .ok (.ifCond .eq 20, 3) := by decide +kernel
theorem dX3_count_99 : decode cX3_count 99 = .ok (.aload_n 0, 1) := by decide +kernel
theorem dX3_count_100 : decode cX3_count 100 = .ok (.getfield 26, 3) := by decide +kernel
theorem dX3_count_103 : decode cX3_count 103 = .ok (.aload_n 0, 1) := by decide +kernel
theorem dX3_count_104 : decode cX3_count 104 = .ok (.getfield 26, 3) := by decide +kernel
theorem dX3_count_107 : decode cX3_count 107 = .ok (.invokevirtual 78, 3) := by decide +kernel
theorem dX3_count_110 : decode cX3_count 110 = .ok (.invokevirtual 90, 3) := by decide +kernel
theorem dX3_count_113 : decode cX3_count 113 = .ok (.goto 4, 3) := by decide +kernel
theorem dX3_count_116 : decode cX3_count 116 = .ok (.iconst 0, 1) := by decide +kernel
theorem dX3_count_117 : decode cX3_count 117 = .ok (.ireturn, 1) := by decide +kernel
theorem dX3_count_118 : decode cX3_count 118 = .ok (.aload_n 0, 1) := by decide +kernel
theorem dX3_count_119 : decode cX3_count 119 = .ok (.getfield 64, 3) := by decide +kernel
theorem dX3_count_122 : decode cX3_count 122 = .ok (.ireturn, 1) := by decide +kernel
theorem dX3_count_123 : decode cX3_count 123 = .ok (.aload_n 0, 1) := by decide +kernel
theorem dX3_count_124 : decode cX3_count 124 = .ok (.getfield 68, 3) := by decide +kernel
theorem dX3_count_127 : decode cX3_count 127 = .ok (.ireturn, 1) := by decide +kernel
theorem dX3_count_128 : decode cX3_count 128 = .ok (.aload_n 0, 1) := by decide +kernel
theorem dX3_count_129 : decode cX3_count 129 = .ok (.getfield 71, 3) := by decide +kernel
theorem dX3_count_132 : decode cX3_count 132 = .ok (.ireturn, 1) := by decide +kernel
theorem dX3_count_133 : decode cX3_count 133 = .ok (.iconst (-1), 1) := by decide +kernel
theorem dX3_count_134 : decode cX3_count 134 = .ok (.ireturn, 1) := by decide +kernel
theorem dX3_clear_0 : decode cX3_clear 0 = .ok (.aload_n 0, 1) := by decide +kernel
theorem dX3_clear_1 : decode cX3_clear 1 = .ok (.getfield 26, 3) := by decide +kernel
theorem dX3_clear_4 : decode cX3_clear 4 = .ok (.invokevirtual 78, 3) := by decide +kernel
theorem dX3_clear_7 : decode cX3_clear 7 = .ok (.istore_n 1, 1) := by decide +kernel
theorem dX3_clear_8 : decode cX3_clear 8 = .ok (.aload_n 0, 1) := by decide +kernel
theorem dX3_clear_9 : decode cX3_clear 9 = .ok (.getfield 10, 3) := by decide +kernel
theorem dX3_clear_12 : decode cX3_clear 12 = .ok (.invokevirtual 103, 3) := by decide +kernel
theorem dX3_clear_15 : decode cX3_clear 15 = .ok (.aload_n 0, 1) := by decide +kernel
theorem dX3_clear_16 : decode cX3_clear 16 = .ok (.getfield 19, 3) := by decide +kernel
theorem dX3_clear_19 : decode cX3_clear 19 = .ok (.invokevirtual 106, 3) := by decide +kernel
theorem dX3_clear_22 : decode cX3_clear 22 = .ok (.aload_n 0, 1) := by decide +kernel
theorem dX3_clear_23 : decode cX3_clear 23 = .ok (.getfield 26, 3) := by decide +kernel
theorem dX3_clear_26 : decode cX3_clear 26 = .ok (.invokevirtual 107, 3) := by decide +kernel
theorem dX3_clear_29 : decode cX3_clear 29 = .ok (.aload_n 0, 1) := by decide +kernel
theorem dX3_clear_30 : decode cX3_clear 30 = .ok (.iconst 0, 1) := by decide +kernel
theorem dX3_clear_31 : decode cX3_clear 31 = .ok (.putfield 64, 3) := by decide +kernel
theorem dX3_clear_34 : decode cX3_clear 34 = .ok (.aload_n 0, 1) := by decide +kernel
theorem dX3_clear_35 : decode cX3_clear 35 = .ok (.iconst 0, 1) := by decide +kernel
theorem dX3_clear_36 : decode cX3_clear 36 = .ok (.putfield 68, 3) := by decide +kernel
theorem dX3_clear_39 : decode cX3_clear 39 = .ok (.aload_n 0, 1) := by decide +kernel
theorem dX3_clear_40 : decode cX3_clear 40 = .ok (.iconst 0, 1) := by decide +kernel
theorem dX3_clear_41 : decode cX3_clear 41 = .ok (.putfield 71, 3) := by decide +kernel
theorem dX3_clear_44 : decode cX3_clear 44 = .ok (.iload_n 1, 1) := by decide +kernel
theorem dX3_clear_45 : decode cX3_clear 45 = .ok (.ireturn, 1) := by decide +kernel
theorem dX3_areSymbols_0 : decode cX3_areSymbols 0 = .ok (.iconst 0, 1) := by decide +kernel
theorem dX3_areSymbols_1 : decode cX3_areSymbols 1 = .ok (.istore_n 3, 1) := by decide +kernel
theorem dX3_areSymbols_2 : decode cX3_areSymbols 2 = .ok (.iload_n 3, 1) := by decide +kernel
theorem dX3_areSymbols_3 : decode cX3_areSymbols 3 = .ok (.iload_n 2, 1) := by decide +kernel
theorem dX3_areSymbols_4 : decode cX3_areSymbols 4 = .ok (.if_icmp .ge 22, 3) := by decide +kernel
theorem dX3_areSymbols_7 : decode cX3_areSymbols 7 = .ok (.lload_n 0, 1) := by decide +kernel
theorem dX3_areSymbols_8 : decode cX3_areSymbols 8 = .ok (.iload_n 2, 1) := by decide +kernel
theorem dX3_areSymbols_9 : decode cX3_areSymbols 9 = .ok (.iload_n 3, 1) := by decide +kernel
theorem dX3_areSymbols_10 : decode cX3_areSymbols 10 = .ok (.invokestatic 108, 3) := by decide +kernel
theorem dX3_areSymbols_13 : decode cX3_areSymbols 13 = .ok (.bipush 10, 2) := by decide +kernel
theorem dX3_areSymbols_15 : decode cX3_areSymbols 15 = .ok (.if_icmp .lt 5, 3) := by decide +kernel
theorem dX3_areSymbols_18 : decode cX3_areSymbols 18 = .ok (.iconst 0, 1) := by decide +kernel
theorem dX3_areSymbols_19 : decode cX3_areSymbols 19 = .ok (.ireturn, 1) := by decide +kernel
theorem dX3_areSymbols_20 : decode cX3_areSymbols 20 = .ok (.iinc 3 1, 3) := by decide +kernel
theorem dX3_areSymbols_23 : decode cX3_areSymbols 23 = .ok (.goto (-21), 3) := by decide +kernel
theorem dX3_areSymbols_26 : decode cX3_areSymbols 26 = .ok (.iconst 1, 1) := by decide +kernel
theorem dX3_areSymbols_27 : decode cX3_areSymbols 27 = .ok (.ireturn, 1) := by decide +kernel
theorem dX3_unpack_0 : decode cX3_unpack 0 = .ok (.lload_n 0, 1) := by decide +kernel
theorem dX3_unpack_1 : decode cX3_unpack 1 = .ok (.iconst 4, 1) := by decide +kernel
theorem dX3_unpack_2 : decode cX3_unpack 2 = .ok (.iload_n 2, 1) := by decide +kernel
theorem dX3_unpack_3 : decode cX3_unpack 3 = .ok (.iconst 1, 1) := by decide +kernel
theorem dX3_unpack_4 : decode cX3_unpack 4 = .ok (.isub, 1) := by decide +kernel
theorem dX3_unpack_5 : decode cX3_unpack 5 = .ok (.iload_n 3, 1) := by decide +kernel
theorem dX3_unpack_6 : decode cX3_unpack 6 = .ok (.isub, 1) := by decide +kernel
theorem dX3_unpack_7 : decode cX3_unpack 7 = .ok (.imul, 1) := by decide +kernel
theorem dX3_unpack_8 : decode cX3_unpack 8 = .ok (.lushr, 1) := by decide +kernel
theorem dX3_unpack_9 : decode cX3_unpack 9 = .ok (.l2i, 1) := by decide +kernel
theorem dX3_unpack_10 : decode cX3_unpack 10 = .ok (.bipush 15, 2) := by decide +kernel
theorem dX3_unpack_12 : decode cX3_unpack 12 = .ok (.iand, 1) := by decide +kernel
theorem dX3_unpack_13 : decode cX3_unpack 13 = .ok (.ireturn, 1) := by decide +kernel
theorem dX3_scanAnew_0 : decode cX3_scanAnew 0 = .ok (.aload_n 0, 1) := by decide +kernel
theorem dX3_scanAnew_1 : decode cX3_scanAnew 1 = .ok (.getfield 30, 3) := by decide +kernel
theorem dX3_scanAnew_4 : decode cX3_scanAnew 4 = .ok (.aload_n 0, 1) := by decide +kernel
theorem dX3_scanAnew_5 : decode cX3_scanAnew 5 = .ok (.getfield 26, 3) := by decide +kernel
theorem dX3_scanAnew_8 : decode cX3_scanAnew 8 = .ok (.iload_n 1, 1) := by decide +kernel
theorem dX3_scanAnew_9 : decode cX3_scanAnew 9 = .ok (.invokevirtual 112, 3) := by decide +kernel
theorem dX3_scanAnew_12 : decode cX3_scanAnew 12 = .ok (.iload_n 1, 1) := by decide +kernel
theorem dX3_scanAnew_13 : decode cX3_scanAnew 13 = .ok (.istore 4, 2) := by decide +kernel
theorem dX3_scanAnew_15 : decode cX3_scanAnew 15 = .ok (.aload_n 0, 1) := by decide +kernel
theorem dX3_scanAnew_16 : decode cX3_scanAnew 16 = .ok (.getfield 30, 3) := by decide +kernel
theorem dX3_scanAnew_19 : decode cX3_scanAnew 19 = .ok (.invokevirtual 116, 3) := by decide +kernel
theorem dX3_scanAnew_22 : decode cX3_scanAnew 22 = .ok (.istore 5, 2) := by decide +kernel
theorem dX3_scanAnew_24 : decode cX3_scanAnew 24 = .ok (.iconst 0, 1) := by decide +kernel
theorem dX3_scanAnew_25 : decode cX3_scanAnew 25 = .ok (.istore 6, 2) := by decide +kernel
theorem dX3_scanAnew_27 : decode cX3_scanAnew 27 = .ok (.iload 6, 2) := by decide +kernel
theorem dX3_scanAnew_29 : decode cX3_scanAnew 29 = .ok (.sipush 400, 3) := by decide +kernel
theorem dX3_scanAnew_32 : decode cX3_scanAnew 32 = .ok (.if_icmp .ge 103, 3) := by decide +kernel
theorem dX3_scanAnew_35 : decode cX3_scanAnew 35 = .ok (.iload 5, 2) := by decide +kernel
theorem dX3_scanAnew_37 : decode cX3_scanAnew 37 = .ok (.aload_n 0, 1) := by decide +kernel
theorem dX3_scanAnew_38 : decode cX3_scanAnew 38 = .ok (.getfield 19, 3) := by decide +kernel
theorem dX3_scanAnew_41 : decode cX3_scanAnew 41 = .ok (.invokevirtual 99, 3) := by decide +kernel
theorem dX3_scanAnew_44 : decode cX3_scanAnew 44 = .ok (.if_icmp .ge 91, 3) := by decide +kernel
theorem dX3_scanAnew_47 : decode cX3_scanAnew 47 = .ok (.iload 5, 2) := by decide +kernel
theorem dX3_scanAnew_49 : decode cX3_scanAnew 49 = .ok (.iload_n 2, 1) := by decide +kernel
theorem dX3_scanAnew_50 : decode cX3_scanAnew 50 = .ok (.if_icmp .lt 51, 3) := by decide +kernel
theorem dX3_scanAnew_53 : decode cX3_scanAnew 53 = .ok (.aload_n 0, 1) := by decide +kernel
theorem dX3_scanAnew_54 : decode cX3_scanAnew 54 = .ok (.getfield 26, 3) := by decide +kernel
theorem dX3_scanAnew_57 : decode cX3_scanAnew 57 = .ok (.iload 4, 2) := by decide +kernel
theorem dX3_scanAnew_59 : decode cX3_scanAnew 59 = .ok (.iload 5, 2) := by decide +kernel
theorem dX3_scanAnew_61 : decode cX3_scanAnew 61 = .ok (.iload_n 3, 1) := by decide +kernel
theorem dX3_scanAnew_62 : decode cX3_scanAnew 62 = .ok (.isub, 1) := by decide +kernel
theorem dX3_scanAnew_63 : decode cX3_scanAnew 63 = .ok (.invokevirtual 119, 3) := by decide +kernel
theorem dX3_scanAnew_66 : decode cX3_scanAnew 66 = .ok (.istore 4, 2) := by decide +kernel
theorem dX3_scanAnew_68 : decode cX3_scanAnew 68 = .ok (.aload_n 0, 1) := by decide +kernel
theorem dX3_scanAnew_69 : decode cX3_scanAnew 69 = .ok (.getfield 26, 3) := by decide +kernel
theorem dX3_scanAnew_72 : decode cX3_scanAnew 72 = .ok (.iload 4, 2) := by decide +kernel
theorem dX3_scanAnew_74 : decode cX3_scanAnew 74 = .ok (.invokevirtual 81, 3) := by decide +kernel
theorem dX3_scanAnew_77 : decode cX3_scanAnew 77 = .ok (.iload 5, 2) := by decide +kernel
theorem dX3_scanAnew_79 : decode cX3_scanAnew 79 = .ok (.iload_n 3, 1) := by decide +kernel
theorem dX3_scanAnew_80 : decode cX3_scanAnew 80 = .ok (.isub, 1) := by decide +kernel
theorem dX3_scanAnew_81 : decode cX3_scanAnew 81 = .ok (.if_icmp .ne 20, 3) := by decide +kernel
theorem dX3_scanAnew_84 : decode cX3_scanAnew 84 = .ok (.aload_n 0, 1) := by decide +kernel
theorem dX3_scanAnew_85 : decode cX3_scanAnew 85 = .ok (.getfield 30, 3) := by decide +kernel
theorem dX3_scanAnew_88 : decode cX3_scanAnew 88 = .ok (.aload_n 0, 1) := by decide +kernel
theorem dX3_scanAnew_89 : decode cX3_scanAnew 89 = .ok (.getfield 26, 3) := by decide +kernel
theorem dX3_scanAnew_92 : decode cX3_scanAnew 92 = .ok (.iload 4, 2) := by decide +kernel
theorem dX3_scanAnew_94 : decode cX3_scanAnew 94 = .ok (.iload_n 3, 1) := by decide +kernel
theorem dX3_scanAnew_95 : decode cX3_scanAnew 95 = .ok (.invokevirtual 123, 3) := by decide +kernel
theorem dX3_scanAnew_98 : decode cX3_scanAnew 98 = .ok (.goto 37, 3) := by decide +kernel
theorem dX3_scanAnew_101 : decode cX3_scanAnew 101 = .ok (.aload_n 0, 1) := by decide +kernel
theorem dX3_scanAnew_102 : decode cX3_scanAnew 102 = .ok (.iload 5, 2) := by decide +kernel
theorem dX3_scanAnew_104 : decode cX3_scanAnew 104 = .ok (.invokevirtual 127, 3) := by decide +kernel
theorem dX3_scanAnew_107 : decode cX3_scanAnew 107 = .ok (.aload_n 0, 1) := by decide +kernel
theorem dX3_scanAnew_108 : decode cX3_scanAnew 108 = .ok (.getfield 30, 3) := by decide +kernel
theorem dX3_scanAnew_111 : decode cX3_scanAnew 111 = .ok (.invokevirtual 100, 3) := by decide +kernel
theorem dX3_scanAnew_114 : decode cX3_scanAnew 114 = .ok (.ifCond .eq 6, 3) := by decide +kernel
theorem dX3_scanAnew_117 : decode cX3_scanAnew 117 = .ok (.goto 18, 3) := by decide +kernel
theorem dX3_scanAnew_120 : decode cX3_scanAnew 120 = .ok (.aload_n 0, 1) := by decide +kernel
theorem dX3_scanAnew_121 : decode cX3_scanAnew 121 = .ok (.getfield 30, 3) := by decide +kernel
theorem dX3_scanAnew_124 : decode cX3_scanAnew 124 = .ok (.invokevirtual 116, 3) := by decide +kernel
theorem dX3_scanAnew_127 : decode cX3_scanAnew 127 = .ok (.istore 5, 2) := by decide +kernel
theorem dX3_scanAnew_129 : decode cX3_scanAnew 129 = .ok (.iinc 6 1, 3) := by decide +kernel
theorem dX3_scanAnew_132 : decode cX3_scanAnew 132 = .ok (.goto (-105), 3) := by decide +kernel
theorem dX3_scanAnew_135 : decode cX3_scanAnew 135 = .ok (.aload_n 0, 1) := by decide +kernel
theorem dX3_scanAnew_136 : decode cX3_scanAnew 136 = .ok (.getfield 26, 3) := by decide +kernel
theorem dX3_scanAnew_139 : decode cX3_scanAnew 139 = .ok (.astore 6, 2) := by decide +kernel
theorem dX3_scanAnew_141 : decode cX3_scanAnew 141 = .ok (.aload_n 0, 1) := by decide +kernel
theorem dX3_scanAnew_142 : decode cX3_scanAnew 142 = .ok (.aload_n 0, 1) := by decide +kernel
theorem dX3_scanAnew_143 : decode cX3_scanAnew 143 = .ok (.getfield 30, 3) := by decide +kernel
theorem dX3_scanAnew_146 : decode cX3_scanAnew 146 = .ok (.putfield 26, 3) := by decide +kernel
theorem dX3_scanAnew_149 : decode cX3_scanAnew 149 = .ok (.aload_n 0, 1) := by decide +kernel
theorem dX3_scanAnew_150 : decode cX3_scanAnew 150 = .ok (.aload 6, 2) := by decide +kernel
theorem dX3_scanAnew_152 : decode cX3_scanAnew 152 = .ok (.putfield 30, 3) := by decide +kernel
theorem dX3_scanAnew_155 : decode cX3_scanAnew 155 = .ok (.return_, 1) := by decide +kernel
theorem dX3_scanOne_0 : decode cX3_scanOne 0 = .ok (.iconst 0, 1) := by decide +kernel
theorem dX3_scanOne_1 : decode cX3_scanOne 1 = .ok (.istore_n 2, 1) := by decide +kernel
theorem dX3_scanOne_2 : decode cX3_scanOne 2 = .ok (.iconst 0, 1) := by decide +kernel
theorem dX3_scanOne_3 : decode cX3_scanOne 3 = .ok (.istore_n 3, 1) := by decide +kernel
theorem dX3_scanOne_4 : decode cX3_scanOne 4 = .ok (.iconst 0, 1) := by decide +kernel
theorem dX3_scanOne_5 : decode cX3_scanOne 5 = .ok (.istore 4, 2) := by decide +kernel
theorem dX3_scanOne_7 : decode cX3_scanOne 7 = .ok (.iconst (-1), 1) := by decide +kernel
theorem dX3_scanOne_8 : decode cX3_scanOne 8 = .ok (.istore 5, 2) := by decide +kernel
theorem dX3_scanOne_10 : decode cX3_scanOne 10 = .ok (.iload_n 2, 1) := by decide +kernel
theorem dX3_scanOne_11 : decode cX3_scanOne 11 = .ok (.iconst (-1), 1) := by decide +kernel
theorem dX3_scanOne_12 : decode cX3_scanOne 12 = .ok (.if_icmp .eq 60, 3) := by decide +kernel
theorem dX3_scanOne_15 : decode cX3_scanOne 15 = .ok (.iload_n 3, 1) := by decide +kernel
theorem dX3_scanOne_16 : decode cX3_scanOne 16 = .ok (.sipush 400, 3) := by decide +kernel
theorem dX3_scanOne_19 : decode cX3_scanOne 19 = .ok (.if_icmp .gt 53, 3) := by decide +kernel
theorem dX3_scanOne_22 : decode cX3_scanOne 22 = .ok (.aload_n 0, 1) := by decide +kernel
theorem dX3_scanOne_23 : decode cX3_scanOne 23 = .ok (.getfield 10, 3) := by decide +kernel
theorem dX3_scanOne_26 : decode cX3_scanOne 26 = .ok (.iload_n 2, 1) := by decide +kernel
theorem dX3_scanOne_27 : decode cX3_scanOne 27 = .ok (.aload_n 0, 1) := by decide +kernel
theorem dX3_scanOne_28 : decode cX3_scanOne 28 = .ok (.getfield 19, 3) := by decide +kernel
theorem dX3_scanOne_31 : decode cX3_scanOne 31 = .ok (.iload_n 1, 1) := by decide +kernel
theorem dX3_scanOne_32 : decode cX3_scanOne 32 = .ok (.iload_n 3, 1) := by decide +kernel
theorem dX3_scanOne_33 : decode cX3_scanOne 33 = .ok (.iadd, 1) := by decide +kernel
theorem dX3_scanOne_34 : decode cX3_scanOne 34 = .ok (.invokevirtual 96, 3) := by decide +kernel
theorem dX3_scanOne_37 : decode cX3_scanOne 37 = .ok (.invokevirtual 131, 3) := by decide +kernel
theorem dX3_scanOne_40 : decode cX3_scanOne 40 = .ok (.istore_n 2, 1) := by decide +kernel
theorem dX3_scanOne_41 : decode cX3_scanOne 41 = .ok (.iinc 3 1, 3) := by decide +kernel
theorem dX3_scanOne_44 : decode cX3_scanOne 44 = .ok (.aload_n 0, 1) := by decide +kernel
theorem dX3_scanOne_45 : decode cX3_scanOne 45 = .ok (.getfield 10, 3) := by decide +kernel
theorem dX3_scanOne_48 : decode cX3_scanOne 48 = .ok (.iload_n 2, 1) := by decide +kernel
theorem dX3_scanOne_49 : decode cX3_scanOne 49 = .ok (.invokevirtual 134, 3) := by decide +kernel
theorem dX3_scanOne_52 : decode cX3_scanOne 52 = .ok (.iconst (-1), 1) := by decide +kernel
theorem dX3_scanOne_53 : decode cX3_scanOne 53 = .ok (.if_icmp .eq (-43), 3) := by decide +kernel
theorem dX3_scanOne_56 : decode cX3_scanOne 56 = .ok (.iload_n 3, 1) := by decide +kernel
theorem dX3_scanOne_57 : decode cX3_scanOne 57 = .ok (.istore 4, 2) := by decide +kernel
theorem dX3_scanOne_59 : decode cX3_scanOne 59 = .ok (.aload_n 0, 1) := by decide +kernel
theorem dX3_scanOne_60 : decode cX3_scanOne 60 = .ok (.getfield 10, 3) := by decide +kernel
theorem dX3_scanOne_63 : decode cX3_scanOne 63 = .ok (.iload_n 2, 1) := by decide +kernel
theorem dX3_scanOne_64 : decode cX3_scanOne 64 = .ok (.invokevirtual 134, 3) := by decide +kernel
theorem dX3_scanOne_67 : decode cX3_scanOne 67 = .ok (.istore 5, 2) := by decide +kernel
theorem dX3_scanOne_69 : decode cX3_scanOne 69 = .ok (.goto (-59), 3) := by decide +kernel
theorem dX3_scanOne_72 : decode cX3_scanOne 72 = .ok (.aload_n 0, 1) := by decide +kernel
theorem dX3_scanOne_73 : decode cX3_scanOne 73 = .ok (.getfield 30, 3) := by decide +kernel
theorem dX3_scanOne_76 : decode cX3_scanOne 76 = .ok (.iload_n 1, 1) := by decide +kernel
theorem dX3_scanOne_77 : decode cX3_scanOne 77 = .ok (.iload 4, 2) := by decide +kernel
theorem dX3_scanOne_79 : decode cX3_scanOne 79 = .ok (.iload 5, 2) := by decide +kernel
theorem dX3_scanOne_81 : decode cX3_scanOne 81 = .ok (.iload_n 3, 1) := by decide +kernel
theorem dX3_scanOne_82 : decode cX3_scanOne 82 = .ok (.invokevirtual 137, 3) := by decide +kernel
theorem dX3_scanOne_85 : decode cX3_scanOne 85 = .ok (.aload_n 0, 1) := by decide +kernel
theorem dX3_scanOne_86 : decode cX3_scanOne 86 = .ok (.dup, 1) := by decide +kernel
theorem dX3_scanOne_87 : decode cX3_scanOne 87 = .ok (.getfield 64, 3) := by decide +kernel
theorem dX3_scanOne_90 : decode cX3_scanOne 90 = .ok (.iload_n 3, 1) := by decide +kernel
theorem dX3_scanOne_91 : decode cX3_scanOne 91 = .ok (.iadd, 1) := by decide +kernel
theorem dX3_scanOne_92 : decode cX3_scanOne 92 = .ok (.putfield 64, 3) := by decide +kernel
theorem dX3_scanOne_95 : decode cX3_scanOne 95 = .ok (.iload 4, 2) := by decide +kernel
theorem dX3_scanOne_97 : decode cX3_scanOne 97 = .ok (.ifCond .le 13, 3) := by decide +kernel
theorem dX3_scanOne_100 : decode cX3_scanOne 100 = .ok (.aload_n 0, 1) := by decide +kernel
theorem dX3_scanOne_101 : decode cX3_scanOne 101 = .ok (.dup, 1) := by decide +kernel
theorem dX3_scanOne_102 : decode cX3_scanOne 102 = .ok (.getfield 68, 3) := by decide +kernel
theorem dX3_scanOne_105 : decode cX3_scanOne 105 = .ok (.iconst 1, 1) := by decide +kernel
theorem dX3_scanOne_106 : decode cX3_scanOne 106 = .ok (.iadd, 1) := by decide +kernel
theorem dX3_scanOne_107 : decode cX3_scanOne 107 = .ok (.putfield 68, 3) := by decide +kernel
theorem dX3_scanOne_110 : decode cX3_scanOne 110 = .ok (.return_, 1) := by decide +kernel
end
section
theorem dX4_init_0 : decode cX4_init 0 = .ok (.aload_n 0, 1) := by decide +kernel
theorem dX4_init_1 : decode cX4_init 1 = .ok (.invokespecial 1, 3) := by decide +kernel
theorem dX4_init_4 : decode cX4_init 4 = .ok (.aload_n 0, 1) := by decide +kernel
theorem dX4_init_5 : decode cX4_init 5 = .ok (.sipush 200, 3) := by decide +kernel
theorem dX4_init_8 : decode cX4_init 8 = .ok (.newarray .int, 2) := by decide +kernel
theorem dX4_init_10 : decode cX4_init 10 = .ok (.putfield 7, 3) := by decide +kernel
theorem dX4_init_13 : decode cX4_init 13 = .ok (.aload_n 0, 1) := by decide +kernel
theorem dX4_init_14 : decode cX4_init 14 = .ok (.bipush 20, 2) := by decide +kernel
theorem dX4_init_16 : decode cX4_init 16 = .ok (.newarray .int, 2) := by decide +kernel
theorem dX4_init_18 : decode cX4_init 18 = .ok (.putfield 13, 3) := by decide +kernel
theorem dX4_init_21 : decode cX4_init 21 = .ok (.aload_n 0, 1) := by decide +kernel
theorem dX4_init_22 : decode cX4_init 22 = .ok (.sipush 400, 3) := by decide +kernel
theorem dX4_init_25 : decode cX4_init 25 = .ok (.newarray .int, 2) := by decide +kernel
theorem dX4_init_27 : decode cX4_init 27 = .ok (.putfield 16, 3) := by decide +kernel
theorem dX4_init_30 : decode cX4_init 30 = .ok (.aload_n 0, 1) := by decide +kernel
theorem dX4_init_31 : decode cX4_init 31 = .ok (.sipush 400, 3) := by decide +kernel
theorem dX4_init_34 : decode cX4_init 34 = .ok (.newarray .int, 2) := by decide +kernel
theorem dX4_init_36 : decode cX4_init 36 = .ok (.putfield 19, 3) := by decide +kernel
theorem dX4_init_39 : decode cX4_init 39 = .ok (.aload_n 0, 1) := by decide +kernel
theorem dX4_init_40 : decode cX4_init 40 = .ok (.sipush 400, 3) := by decide +kernel
theorem dX4_init_43 : decode cX4_init 43 = .ok (.newarray .int, 2) := by decide +kernel
theorem dX4_init_45 : decode cX4_init 45 = .ok (.putfield 22, 3) := by decide +kernel
theorem dX4_init_48 : decode cX4_init 48 = .ok (.aload_n 0, 1) := by decide +kernel
theorem dX4_init_49 : decode cX4_init 49 = .ok (.sipush 400, 3) := by decide +kernel
theorem dX4_init_52 : decode cX4_init 52 = .ok (.newarray .int, 2) := by decide +kernel
theorem dX4_init_54 : decode cX4_init 54 = .ok (.putfield 25, 3) := by decide +kernel
theorem dX4_init_57 : decode cX4_init 57 = .ok (.aload_n 0, 1) := by decide +kernel
theorem dX4_init_58 : decode cX4_init 58 = .ok (.sipush 400, 3) := by decide +kernel
theorem dX4_init_61 : decode cX4_init 61 = .ok (.newarray .int, 2) := by decide +kernel
theorem dX4_init_63 : decode cX4_init 63 = .ok (.putfield 28, 3) := by decide +kernel
theorem dX4_init_66 : decode cX4_init 66 = .ok (.aload_n 0, 1) := by decide +kernel
theorem dX4_init_67 : decode cX4_init 67 = .ok (.iconst (-1), 1) := by decide +kernel
theorem dX4_init_68 : decode cX4_init 68 = .ok (.putfield 31, 3) := by decide +kernel
theorem dX4_init_71 : decode cX4_init 71 = .ok (.aload_n 0, 1) := by decide +kernel
theorem dX4_init_72 : decode cX4_init 72 = .ok (.sipush 400, 3) := by decide +kernel
theorem dX4_init_75 : decode cX4_init 75 = .ok (.newarray .int, 2) := by decide +kernel
theorem dX4_init_77 : decode cX4_init 77 = .ok (.putfield 35, 3) := by decide +kernel
theorem dX4_init_80 : decode cX4_init 80 = .ok (.aload_n 0, 1) := by decide +kernel
theorem dX4_init_81 : decode cX4_init 81 = .ok (.invokevirtual 38, 3) := by decide +kernel
theorem dX4_init_84 : decode cX4_init 84 = .ok (.return_, 1) := by decide +kernel
theorem dX4_forget_0 : decode cX4_forget 0 = .ok (.iconst 0, 1) := by decide +kernel
theorem dX4_forget_1 : decode cX4_forget 1 = .ok (.istore_n 1, 1) := by decide +kernel
theorem dX4_forget_2 : decode cX4_forget 2 = .ok (.iload_n 1, 1) := by decide +kernel
theorem dX4_forget_3 : decode cX4_forget 3 = .ok (.sipush 200, 3) := by decide +kernel
theorem dX4_forget_6 : decode cX4_forget 6 = .ok (.if_icmp .ge 16, 3) := by decide +kernel
theorem dX4_forget_9 : decode cX4_forget 9 = .ok (.aload_n 0, 1) := by decide +kernel
theorem dX4_forget_10 : decode cX4_forget 10 = .ok (.getfield 7, 3) := by decide +kernel
theorem dX4_forget_13 : decode cX4_forget 13 = .ok (.iload_n 1, 1) := by decide +kernel
theorem dX4_forget_14 : decode cX4_forget 14 = .ok (.iconst (-1), 1) := by decide +kernel
theorem dX4_forget_15 : decode cX4_forget 15 = .ok (.iastore, 1) := by decide +kernel
theorem dX4_forget_16 : decode cX4_forget 16 = .ok (.iinc 1 1, 3) := by decide +kernel
theorem dX4_forget_19 : decode cX4_forget 19 = .ok (.goto (-17), 3) := by decide +kernel
theorem dX4_forget_22 : decode cX4_forget 22 = .ok (.iconst 0, 1) := by decide +kernel
theorem dX4_forget_23 : decode cX4_forget 23 = .ok (.istore_n 1, 1) := by decide +kernel
theorem dX4_forget_24 : decode cX4_forget 24 = .ok (.iload_n 1, 1) := by decide +kernel
theorem dX4_forget_25 : decode cX4_forget 25 = .ok (.bipush 20, 2) := by decide +kernel
theorem dX4_forget_27 : decode cX4_forget 27 = .ok (.if_icmp .ge 16, 3) := by decide +kernel
theorem dX4_forget_30 : decode cX4_forget 30 = .ok (.aload_n 0, 1) := by decide +kernel
theorem dX4_forget_31 : decode cX4_forget 31 = .ok (.getfield 13, 3) := by decide +kernel
theorem dX4_forget_34 : decode cX4_forget 34 = .ok (.iload_n 1, 1) := by decide +kernel
theorem dX4_forget_35 : decode cX4_forget 35 = .ok (.iconst (-1), 1) := by decide +kernel
theorem dX4_forget_36 : decode cX4_forget 36 = .ok (.iastore, 1) := by decide +kernel
theorem dX4_forget_37 : decode cX4_forget 37 = .ok (.iinc 1 1, 3) := by decide +kernel
theorem dX4_forget_40 : decode cX4_forget 40 = .ok (.goto (-16), 3) := by decide +kernel
theorem dX4_forget_43 : decode cX4_forget 43 = .ok (.aload_n 0, 1) := by decide +kernel
theorem dX4_forget_44 : decode cX4_forget 44 = .ok (.iconst 0, 1) := by decide +kernel
theorem dX4_forget_45 : decode cX4_forget 45 = .ok (.putfield 41, 3) := by decide +kernel
theorem dX4_forget_48 : decode cX4_forget 48 = .ok (.aload_n 0, 1) := by decide +kernel
theorem dX4_forget_49 : decode cX4_forget 49 = .ok (.iconst 0, 1) := by decide +kernel
theorem dX4_forget_50 : decode cX4_forget 50 = .ok (.putfield 44, 3) := by decide +kernel
theorem dX4_forget_53 : decode cX4_forget 53 = .ok (.aload_n 0, 1) := by decide +kernel
theorem dX4_forget_54 : decode cX4_forget 54 = .ok (.iconst (-1), 1) := by decide +kernel
theorem dX4_forget_55 : decode cX4_forget 55 = .ok (.putfield 31, 3) := by decide +kernel
theorem dX4_forget_58 : decode cX4_forget 58 = .ok (.aload_n 0, 1) := by decide +kernel
theorem dX4_forget_59 : decode cX4_forget 59 = .ok (.iconst 0, 1) := by decide +kernel
theorem dX4_forget_60 : decode cX4_forget 60 = .ok (.putfield 47, 3) := by decide +kernel
theorem dX4_forget_63 : decode cX4_forget 63 = .ok (.aload_n 0, 1) := by decide +kernel
theorem dX4_forget_64 : decode cX4_forget 64 = .ok (.iconst 0, 1) := by decide +kernel
theorem dX4_forget_65 : decode cX4_forget 65 = .ok (.putfield 50, 3) := by decide +kernel
theorem dX4_forget_68 : decode cX4_forget 68 = .ok (.aload_n 0, 1) := by decide +kernel
theorem dX4_forget_69 : decode cX4_forget 69 = .ok (.iconst 0, 1) := by decide +kernel
theorem dX4_forget_70 : decode cX4_forget 70 = .ok (.putfield 53, 3) := by decide +kernel
theorem dX4_forget_73 : decode cX4_forget 73 = .ok (.aload_n 0, 1) := by decide +kernel
theorem dX4_forget_74 : decode cX4_forget 74 = .ok (.iconst 0, 1) := by decide +kernel
theorem dX4_forget_75 : decode cX4_forget 75 = .ok (.putfield 56, 3) := by decide +kernel
theorem dX4_forget_78 : decode cX4_forget 78 = .ok (.return_, 1) := by decide +kernel
theorem dX4_arrow_0 : decode cX4_arrow 0 = .ok (.aload_n 0, 1) := by decide +kernel
theorem dX4_arrow_1 : decode cX4_arrow 1 = .ok (.getfield 41, 3) := by decide +kernel
theorem dX4_arrow_4 : decode cX4_arrow 4 = .ok (.ifCond .gt 34, 3) := by decide +kernel
theorem dX4_arrow_7 : decode cX4_arrow 7 = .ok (.iload_n 1, 1) := by decide +kernel
theorem dX4_arrow_8 : decode cX4_arrow 8 = .ok (.ifCond .lt 30, 3) := by decide +kernel
theorem dX4_arrow_11 : decode cX4_arrow 11 = .ok (.iload_n 1, 1) := by decide +kernel
theorem dX4_arrow_12 : decode cX4_arrow 12 = .ok (.bipush 20, 2) := by decide +kernel
theorem dX4_arrow_14 : decode cX4_arrow 14 = .ok (.if_icmp .ge 24, 3) := by decide +kernel
theorem dX4_arrow_17 : decode cX4_arrow 17 = .ok (.iload_n 2, 1) := by decide +kernel
theorem dX4_arrow_18 : decode cX4_arrow 18 = .ok (.ifCond .lt 20, 3) := by decide +kernel
theorem dX4_arrow_21 : decode cX4_arrow 21 = .ok (.iload_n 2, 1) := by decide +kernel
theorem dX4_arrow_22 : decode cX4_arrow 22 = .ok (.bipush 10, 2) := by decide +kernel
theorem dX4_arrow_24 : decode cX4_arrow 24 = .ok (.if_icmp .ge 14, 3) := by decide +kernel
theorem dX4_arrow_27 : decode cX4_arrow 27 = .ok (.iload_n 3, 1) := by decide +kernel
theorem dX4_arrow_28 : decode cX4_arrow 28 = .ok (.iconst (-1), 1) := by decide +kernel
theorem dX4_arrow_29 : decode cX4_arrow 29 = .ok (.if_icmp .lt 9, 3) := by decide +kernel
theorem dX4_arrow_32 : decode cX4_arrow 32 = .ok (.iload_n 3, 1) := by decide +kernel
theorem dX4_arrow_33 : decode cX4_arrow 33 = .ok (.bipush 20, 2) := by decide +kernel
theorem dX4_arrow_35 : decode cX4_arrow 35 = .ok (.if_icmp .lt 5, 3) := by decide +kernel
theorem dX4_arrow_38 : decode cX4_arrow 38 = .ok (.iconst 0, 1) := by decide +kernel
theorem dX4_arrow_39 : decode cX4_arrow 39 = .ok (.ireturn, 1) := by decide +kernel
theorem dX4_arrow_40 : decode cX4_arrow 40 = .ok (.aload_n 0, 1) := by decide +kernel
theorem dX4_arrow_41 : decode cX4_arrow 41 = .ok (.getfield 7, 3) := by decide +kernel
theorem dX4_arrow_44 : decode cX4_arrow 44 = .ok (.bipush 10, 2) := by decide +kernel
theorem dX4_arrow_46 : decode cX4_arrow 46 = .ok (.iload_n 1, 1) := by decide +kernel
theorem dX4_arrow_47 : decode cX4_arrow 47 = .ok (.imul, 1) := by decide +kernel
theorem dX4_arrow_48 : decode cX4_arrow 48 = .ok (.iload_n 2, 1) := by decide +kernel
theorem dX4_arrow_49 : decode cX4_arrow 49 = .ok (.iadd, 1) := by decide +kernel
theorem dX4_arrow_50 : decode cX4_arrow 50 = .ok (.iload_n 3, 1) := by decide +kernel
theorem dX4_arrow_51 : decode cX4_arrow 51 = .ok (.iastore, 1) := by decide +kernel
theorem dX4_arrow_52 : decode cX4_arrow 52 = .ok (.iconst 1, 1) := by decide +kernel
theorem dX4_arrow_53 : decode cX4_arrow 53 = .ok (.ireturn, 1) := by decide +kernel
theorem dX4_kind_0 : decode cX4_kind 0 = .ok (.aload_n 0, 1) := by decide +kernel
theorem dX4_kind_1 : decode cX4_kind 1 = .ok (.getfield 41, 3) := by decide +kernel
theorem dX4_kind_4 : decode cX4_kind 4 = .ok (.ifCond .gt 24, 3) := by decide +kernel
theorem dX4_kind_7 : decode cX4_kind 7 = .ok (.iload_n 1, 1) := by decide +kernel
theorem dX4_kind_8 : decode cX4_kind 8 = .ok (.ifCond .lt 20, 3) := by decide +kernel
theorem dX4_kind_11 : decode cX4_kind 11 = .ok (.iload_n 1, 1) := by decide +kernel
theorem dX4_kind_12 : decode cX4_kind 12 = .ok (.bipush 20, 2) := by decide +kernel
theorem dX4_kind_14 : decode cX4_kind 14 = .ok (.if_icmp .ge 14, 3) := by decide +kernel
theorem dX4_kind_17 : decode cX4_kind 17 = .ok (.iload_n 2, 1) := by decide +kernel
theorem dX4_kind_18 : decode cX4_kind 18 = .ok (.iconst (-1), 1) := by decide +kernel
theorem dX4_kind_19 : decode cX4_kind 19 = .ok (.if_icmp .lt 9, 3) := by decide +kernel
theorem dX4_kind_22 : decode cX4_kind 22 = .ok (.iload_n 2, 1) := by decide +kernel
theorem dX4_kind_23 : decode cX4_kind 23 = .ok (.bipush 99, 2) := by decide +kernel
theorem dX4_kind_25 : decode cX4_kind 25 = .ok (.if_icmp .le 5, 3) := by decide +kernel
theorem dX4_kind_28 : decode cX4_kind 28 = .ok (.iconst 0, 1) := by decide +kernel
theorem dX4_kind_29 : decode cX4_kind 29 = .ok (.ireturn, 1) := by decide +kernel
theorem dX4_kind_30 : decode cX4_kind 30 = .ok (.aload_n 0, 1) := by decide +kernel
theorem dX4_kind_31 : decode cX4_kind 31 = .ok (.getfield 13, 3) := by decide +kernel
theorem dX4_kind_34 : decode cX4_kind 34 = .ok (.iload_n 1, 1) := by decide +kernel
theorem dX4_kind_35 : decode cX4_kind 35 = .ok (.iload_n 2, 1) := by decide +kernel
theorem dX4_kind_36 : decode cX4_kind 36 = .ok (.iastore, 1) := by decide +kernel
theorem dX4_kind_37 : decode cX4_kind 37 = .ok (.iconst 1, 1) := by decide +kernel
theorem dX4_kind_38 : decode cX4_kind 38 = .ok (.ireturn, 1) := by decide +kernel
theorem dX4_scan_0 : decode cX4_scan 0 = .ok (.aload_n 0, 1) := by decide +kernel
theorem dX4_scan_1 : decode cX4_scan 1 = .ok (.iconst 0, 1) := by decide +kernel
theorem dX4_scan_2 : decode cX4_scan 2 = .ok (.putfield 59, 3) := by decide +kernel
theorem dX4_scan_5 : decode cX4_scan 5 = .ok (.aload_n 0, 1) := by decide +kernel
theorem dX4_scan_6 : decode cX4_scan 6 = .ok (.iconst (-1), 1) := by decide +kernel
theorem dX4_scan_7 : decode cX4_scan 7 = .ok (.putfield 62, 3) := by decide +kernel
theorem dX4_scan_10 : decode cX4_scan 10 = .ok (.aload_n 0, 1) := by decide +kernel
theorem dX4_scan_11 : decode cX4_scan 11 = .ok (.iconst 0, 1) := by decide +kernel
theorem dX4_scan_12 : decode cX4_scan 12 = .ok (.putfield 65, 3) := by decide +kernel
theorem dX4_scan_15 : decode cX4_scan 15 = .ok (.iconst 0, 1) := by decide +kernel
theorem dX4_scan_16 : decode cX4_scan 16 = .ok (.istore_n 2, 1) := by decide +kernel
theorem dX4_scan_17 : decode cX4_scan 17 = .ok (.iload_n 1, 1) := by decide +kernel
theorem dX4_scan_18 : decode cX4_scan 18 = .ok (.istore_n 3, 1) := by decide +kernel
theorem dX4_scan_19 : decode cX4_scan 19 = .ok (.iload_n 2, 1) := by decide +kernel
theorem dX4_scan_20 : decode cX4_scan 20 = .ok (.ifCond .lt 78, 3) := by decide +kernel
theorem dX4_scan_23 : decode cX4_scan 23 = .ok (.aload_n 0, 1) := by decide +kernel
theorem dX4_scan_24 : decode cX4_scan 24 = .ok (.dup, 1) := by decide +kernel
theorem dX4_scan_25 : decode cX4_scan 25 = .ok (.getfield 65, 3) := by decide +kernel
theorem dX4_scan_28 : decode cX4_scan 28 = .ok (.iconst 1, 1) := by decide +kernel
theorem dX4_scan_29 : decode cX4_scan 29 = .ok (.iadd, 1) := by decide +kernel
theorem dX4_scan_30 : decode cX4_scan 30 = .ok (.putfield 65, 3) := by decide +kernel
theorem dX4_scan_33 : decode cX4_scan 33 = .ok (.iload_n 3, 1) := by decide +kernel
theorem dX4_scan_34 : decode cX4_scan 34 = .ok (.aload_n 0, 1) := by decide +kernel
theorem dX4_scan_35 : decode cX4_scan 35 = .ok (.getfield 41, 3) := by decide +kernel
theorem dX4_scan_38 : decode cX4_scan 38 = .ok (.if_icmp .ge 22, 3) := by decide +kernel
theorem dX4_scan_41 : decode cX4_scan 41 = .ok (.aload_n 0, 1) := by decide +kernel
theorem dX4_scan_42 : decode cX4_scan 42 = .ok (.getfield 7, 3) := by decide +kernel
theorem dX4_scan_45 : decode cX4_scan 45 = .ok (.bipush 10, 2) := by decide +kernel
theorem dX4_scan_47 : decode cX4_scan 47 = .ok (.iload_n 2, 1) := by decide +kernel
theorem dX4_scan_48 : decode cX4_scan 48 = .ok (.imul, 1) := by decide +kernel
theorem dX4_scan_49 : decode cX4_scan 49 = .ok (.aload_n 0, 1) := by decide +kernel
theorem dX4_scan_50 : decode cX4_scan 50 = .ok (.getfield 16, 3) := by decide +kernel
theorem dX4_scan_53 : decode cX4_scan 53 = .ok (.iload_n 3, 1) := by decide +kernel
theorem dX4_scan_54 : decode cX4_scan 54 = .ok (.iaload, 1) := by decide +kernel
theorem dX4_scan_55 : decode cX4_scan 55 = .ok (.iadd, 1) := by decide +kernel
theorem dX4_scan_56 : decode cX4_scan 56 = .ok (.iaload, 1) := by decide +kernel
theorem dX4_scan_57 : decode cX4_scan 57 = .ok (.goto 4, 3) := by decide +kernel
theorem dX4_scan_60 : decode cX4_scan 60 = .ok (.iconst (-1), 1) := by decide +kernel
theorem dX4_scan_61 : decode cX4_scan 61 = .ok (.istore_n 2, 1) := by decide +kernel
theorem dX4_scan_62 : decode cX4_scan 62 = .ok (.iinc 3 1, 3) := by decide +kernel
theorem dX4_scan_65 : decode cX4_scan 65 = .ok (.iload_n 2, 1) := by decide +kernel
theorem dX4_scan_66 : decode cX4_scan 66 = .ok (.ifCond .lt (-47), 3) := by decide +kernel
theorem dX4_scan_69 : decode cX4_scan 69 = .ok (.aload_n 0, 1) := by decide +kernel
theorem dX4_scan_70 : decode cX4_scan 70 = .ok (.getfield 13, 3) := by decide +kernel
theorem dX4_scan_73 : decode cX4_scan 73 = .ok (.iload_n 2, 1) := by decide +kernel
theorem dX4_scan_74 : decode cX4_scan 74 = .ok (.iaload, 1) := by decide +kernel
theorem dX4_scan_75 : decode cX4_scan 75 = .ok (.ifCond .lt (-56), 3) := by decide +kernel
theorem dX4_scan_78 : decode cX4_scan 78 = .ok (.aload_n 0, 1) := by decide +kernel
theorem dX4_scan_79 : decode cX4_scan 79 = .ok (.iload_n 3, 1) := by decide +kernel
theorem dX4_scan_80 : decode cX4_scan 80 = .ok (.iload_n 1, 1) := by decide +kernel
theorem dX4_scan_81 : decode cX4_scan 81 = .ok (.isub, 1) := by decide +kernel
theorem dX4_scan_82 : decode cX4_scan 82 = .ok (.putfield 59, 3) := by decide +kernel
theorem dX4_scan_85 : decode cX4_scan 85 = .ok (.aload_n 0, 1) := by decide +kernel
theorem dX4_scan_86 : decode cX4_scan 86 = .ok (.aload_n 0, 1) := by decide +kernel
theorem dX4_scan_87 : decode cX4_scan 87 = .ok (.getfield 13, 3) := by decide +kernel
theorem dX4_scan_90 : decode cX4_scan 90 = .ok (.iload_n 2, 1) := by decide +kernel
theorem dX4_scan_91 : decode cX4_scan 91 = .ok (.iaload, 1) := by decide +kernel
theorem dX4_scan_92 : decode cX4_scan 92 = .ok (.putfield 62, 3) := by decide +kernel
theorem dX4_scan_95 : decode cX4_scan 95 = .ok (.goto (-76), 3) := by decide +kernel
theorem dX4_scan_98 : decode cX4_scan 98 = .ok (.aload_n 0, 1) := by decide +kernel
theorem dX4_scan_99 : decode cX4_scan 99 = .ok (.getfield 59, 3) := by decide +kernel
theorem dX4_scan_102 : decode cX4_scan 102 = .ok (.ifCond .le 7, 3) := by decide +kernel
theorem dX4_scan_105 : decode cX4_scan 105 = .ok (.iconst 1, 1) := by decide +kernel
theorem dX4_scan_106 : decode cX4_scan 106 = .ok (.goto 4, 3) := by decide +kernel
theorem dX4_scan_109 : decode cX4_scan 109 = .ok (.iconst 0, 1) := by decide +kernel
theorem dX4_scan_110 : decode cX4_scan 110 = .ok (.ireturn, 1) := by decide +kernel
theorem dX4_scanAll_0 : decode cX4_scanAll 0 = .ok (.aload_n 0, 1) := by decide +kernel
theorem dX4_scanAll_1 : decode cX4_scanAll 1 = .ok (.iconst 0, 1) := by decide +kernel
theorem dX4_scanAll_2 : decode cX4_scanAll 2 = .ok (.putfield 44, 3) := by decide +kernel
theorem dX4_scanAll_5 : decode cX4_scanAll 5 = .ok (.aload_n 0, 1) := by decide +kernel
theorem dX4_scanAll_6 : decode cX4_scanAll 6 = .ok (.iconst (-1), 1) := by decide +kernel
theorem dX4_scanAll_7 : decode cX4_scanAll 7 = .ok (.putfield 31, 3) := by decide +kernel
theorem dX4_scanAll_10 : decode cX4_scanAll 10 = .ok (.aload_n 0, 1) := by decide +kernel
theorem dX4_scanAll_11 : decode cX4_scanAll 11 = .ok (.iconst 0, 1) := by decide +kernel
theorem dX4_scanAll_12 : decode cX4_scanAll 12 = .ok (.putfield 47, 3) := by decide +kernel
theorem dX4_scanAll_15 : decode cX4_scanAll 15 = .ok (.iconst 0, 1) := by decide +kernel
theorem dX4_scanAll_16 : decode cX4_scanAll 16 = .ok (.istore_n 1, 1) := by decide +kernel
theorem dX4_scanAll_17 : decode cX4_scanAll 17 = .ok (.iload_n 1, 1) := by decide +kernel
theorem dX4_scanAll_18 : decode cX4_scanAll 18 = .ok (.aload_n 0, 1) := by decide +kernel
theorem dX4_scanAll_19 : decode cX4_scanAll 19 = .ok (.getfield 41, 3) := by decide +kernel
theorem dX4_scanAll_22 : decode cX4_scanAll 22 = .ok (.if_icmp .ge 103, 3) := by decide +kernel
theorem dX4_scanAll_25 : decode cX4_scanAll 25 = .ok (.aload_n 0, 1) := by decide +kernel
theorem dX4_scanAll_26 : decode cX4_scanAll 26 = .ok (.getfield 31, 3) := by decide +kernel
theorem dX4_scanAll_29 : decode cX4_scanAll 29 = .ok (.ifCond .ge 96, 3) := by decide +kernel
theorem dX4_scanAll_32 : decode cX4_scanAll 32 = .ok (.aload_n 0, 1) := by decide +kernel
theorem dX4_scanAll_33 : decode cX4_scanAll 33 = .ok (.iload_n 1, 1) := by decide +kernel
theorem dX4_scanAll_34 : decode cX4_scanAll 34 = .ok (.invokevirtual 68, 3) := by decide +kernel
theorem dX4_scanAll_37 : decode cX4_scanAll 37 = .ok (.ifCond .eq 72, 3) := by decide +kernel
theorem dX4_scanAll_40 : decode cX4_scanAll 40 = .ok (.aload_n 0, 1) := by decide +kernel
theorem dX4_scanAll_41 : decode cX4_scanAll 41 = .ok (.getfield 19, 3) := by decide +kernel
theorem dX4_scanAll_44 : decode cX4_scanAll 44 = .ok (.aload_n 0, 1) := by decide +kernel
theorem dX4_scanAll_45 : decode cX4_scanAll 45 = .ok (.getfield 44, 3) := by decide +kernel
theorem dX4_scanAll_48 : decode cX4_scanAll 48 = .ok (.iload_n 1, 1) := by decide +kernel
theorem dX4_scanAll_49 : decode cX4_scanAll 49 = .ok (.iastore, 1) := by decide +kernel
theorem dX4_scanAll_50 : decode cX4_scanAll 50 = .ok (.aload_n 0, 1) := by decide +kernel
theorem dX4_scanAll_51 : decode cX4_scanAll 51 = .ok (.getfield 22, 3) := by decide +kernel
theorem dX4_scanAll_54 : decode cX4_scanAll 54 = .ok (.aload_n 0, 1) := by decide +kernel
theorem dX4_scanAll_55 : decode cX4_scanAll 55 = .ok (.getfield 44, 3) := by decide +kernel
theorem dX4_scanAll_58 : decode cX4_scanAll 58 = .ok (.aload_n 0, 1) := by decide +kernel
theorem dX4_scanAll_59 : decode cX4_scanAll 59 = .ok (.getfield 59, 3) := by decide +kernel
theorem dX4_scanAll_62 : decode cX4_scanAll 62 = .ok (.iastore, 1) := by decide +kernel
theorem dX4_scanAll_63 : decode cX4_scanAll 63 = .ok (.aload_n 0, 1) := by decide +kernel
theorem dX4_scanAll_64 : decode cX4_scanAll 64 = .ok (.getfield 25, 3) := by decide +kernel
theorem dX4_scanAll_67 : decode cX4_scanAll 67 = .ok (.aload_n 0, 1) := by decide +kernel
theorem dX4_scanAll_68 : decode cX4_scanAll 68 = .ok (.getfield 44, 3) := by decide +kernel
theorem dX4_scanAll_71 : decode cX4_scanAll 71 = .ok (.aload_n 0, 1) := by decide +kernel
theorem dX4_scanAll_72 : decode cX4_scanAll 72 = .ok (.getfield 62, 3) := by decide +kernel
theorem dX4_scanAll_75 : decode cX4_scanAll 75 = .ok (.iastore, 1) := by decide +kernel
theorem dX4_scanAll_76 : decode cX4_scanAll 76 = .ok (.aload_n 0, 1) := by decide +kernel
theorem dX4_scanAll_77 : decode cX4_scanAll 77 = .ok (.getfield 28, 3) := by decide +kernel
theorem dX4_scanAll_80 : decode cX4_scanAll 80 = .ok (.aload_n 0, 1) := by decide +kernel
theorem dX4_scanAll_81 : decode cX4_scanAll 81 = .ok (.getfield 44, 3) := by decide +kernel
theorem dX4_scanAll_84 : decode cX4_scanAll 84 = .ok (.aload_n 0, 1) := by decide +kernel
theorem dX4_scanAll_85 : decode cX4_scanAll 85 = .ok (.getfield 65, 3) := by decide +kernel
theorem dX4_scanAll_88 : decode cX4_scanAll 88 = .ok (.iastore, 1) := by decide +kernel
theorem dX4_scanAll_89 : decode cX4_scanAll 89 = .ok (.aload_n 0, 1) := by decide +kernel
theorem dX4_scanAll_90 : decode cX4_scanAll 90 = .ok (.dup, 1) := by decide +kernel
theorem dX4_scanAll_91 : decode cX4_scanAll 91 = .ok (.getfield 44, 3) := by decide +kernel
theorem dX4_scanAll_94 : decode cX4_scanAll 94 = .ok (.iconst 1, 1) := by decide +kernel
theorem dX4_scanAll_95 : decode cX4_scanAll 95 = .ok (.iadd, 1) := by decide +kernel
theorem dX4_scanAll_96 : decode cX4_scanAll 96 = .ok (.putfield 44, 3) := by decide +kernel
theorem dX4_scanAll_99 : decode cX4_scanAll 99 = .ok (.iload_n 1, 1) := by decide +kernel
theorem dX4_scanAll_100 : decode cX4_scanAll 100 = .ok (.aload_n 0, 1) := by decide +kernel
theorem dX4_scanAll_101 : decode cX4_scanAll 101 = .ok (.getfield 59, 3) := by decide +kernel
theorem dX4_scanAll_104 : decode cX4_scanAll 104 = .ok (.iadd, 1) := by decide +kernel
theorem dX4_scanAll_105 : decode cX4_scanAll 105 = .ok (.istore_n 1, 1) := by decide +kernel
theorem dX4_scanAll_106 : decode cX4_scanAll 106 = .ok (.goto (-89), 3) := by decide +kernel
theorem dX4_scanAll_109 : decode cX4_scanAll 109 = .ok (.aload_n 0, 1) := by decide +kernel
theorem dX4_scanAll_110 : decode cX4_scanAll 110 = .ok (.iload_n 1, 1) := by decide +kernel
theorem dX4_scanAll_111 : decode cX4_scanAll 111 = .ok (.putfield 31, 3) := by decide +kernel
theorem dX4_scanAll_114 : decode cX4_scanAll 114 = .ok (.aload_n 0, 1) := by decide +kernel
theorem dX4_scanAll_115 : decode cX4_scanAll 115 = .ok (.aload_n 0, 1) := by decide +kernel
theorem dX4_scanAll_116 : decode cX4_scanAll 116 = .ok (.getfield 65, 3) := by decide +kernel
theorem dX4_scanAll_119 : decode cX4_scanAll 119 = .ok (.putfield 47, 3) := by decide +kernel
theorem dX4_scanAll_122 : decode cX4_scanAll 122 = .ok (.goto (-105), 3) := by decide +kernel
theorem dX4_scanAll_125 : decode cX4_scanAll 125 = .ok (.return_, 1) := by decide +kernel
theorem dX4_began_0 : decode cX4_began 0 = .ok (.iload_n 1, 1) := by decide +kernel
theorem dX4_began_1 : decode cX4_began 1 = .ok (.aload_n 0, 1) := by decide +kernel
theorem dX4_began_2 : decode cX4_began 2 = .ok (.getfield 72, 3) := by decide +kernel
theorem dX4_began_5 : decode cX4_began 5 = .ok (.if_icmp .eq 11, 3) := by decide +kernel
theorem dX4_began_8 : decode cX4_began 8 = .ok (.iload_n 1, 1) := by decide +kernel
theorem dX4_began_9 : decode cX4_began 9 = .ok (.aload_n 0, 1) := by decide +kernel
theorem dX4_began_10 : decode cX4_began 10 = .ok (.getfield 75, 3) := by decide +kernel
theorem dX4_began_13 : decode cX4_began 13 = .ok (.if_icmp .ne 7, 3) := by decide +kernel
theorem dX4_began_16 : decode cX4_began 16 = .ok (.iconst 1, 1) := by decide +kernel
theorem dX4_began_17 : decode cX4_began 17 = .ok (.goto 4, 3) := by decide +kernel
theorem dX4_began_20 : decode cX4_began 20 = .ok (.iconst 0, 1) := by decide +kernel
theorem dX4_began_21 : decode cX4_began 21 = .ok (.istore_n 2, 1) := by decide +kernel
theorem dX4_began_22 : decode cX4_began 22 = .ok (.iconst 0, 1) := by decide +kernel
theorem dX4_began_23 : decode cX4_began 23 = .ok (.istore_n 3, 1) := by decide +kernel
theorem dX4_began_24 : decode cX4_began 24 = .ok (.iload_n 3, 1) := by decide +kernel
theorem dX4_began_25 : decode cX4_began 25 = .ok (.aload_n 0, 1) := by decide +kernel
theorem dX4_began_26 : decode cX4_began 26 = .ok (.getfield 78, 3) := by decide +kernel
theorem dX4_began_29 : decode cX4_began 29 = .ok (.if_icmp .ge 29, 3) := by decide +kernel
theorem dX4_began_32 : decode cX4_began 32 = .ok (.iload_n 2, 1) := by decide +kernel
theorem dX4_began_33 : decode cX4_began 33 = .ok (.ifCond .ne 13, 3) := by decide +kernel
theorem dX4_began_36 : decode cX4_began 36 = .ok (.aload_n 0, 1) := by decide +kernel
theorem dX4_began_37 : decode cX4_began 37 = .ok (.getfield 35, 3) := by decide +kernel
theorem dX4_began_40 : decode cX4_began 40 = .ok (.iload_n 3, 1) := by decide +kernel
theorem dX4_began_41 : decode cX4_began 41 = .ok (.iaload, 1) := by decide +kernel
theorem dX4_began_42 : decode cX4_began 42 = .ok (.iload_n 1, 1) := by decide +kernel
theorem dX4_began_43 : decode cX4_began 43 = .ok (.if_icmp .ne 7, 3) := by decide +kernel
theorem dX4_began_46 : decode cX4_began 46 = .ok (.iconst 1, 1) := by decide +kernel
theorem dX4_began_47 : decode cX4_began 47 = .ok (.goto 4, 3) := by decide +kernel
theorem dX4_began_50 : decode cX4_began 50 = .ok (.iconst 0, 1) := by decide +kernel
theorem dX4_began_51 : decode cX4_began 51 = .ok (.istore_n 2, 1) := by decide +kernel
theorem dX4_began_52 : decode cX4_began 52 = .ok (.iinc 3 1, 3) := by decide +kernel
theorem dX4_began_55 : decode cX4_began 55 = .ok (.goto (-31), 3) := by decide +kernel
theorem dX4_began_58 : decode cX4_began 58 = .ok (.iload_n 2, 1) := by decide +kernel
theorem dX4_began_59 : decode cX4_began 59 = .ok (.ireturn, 1) := by decide +kernel
theorem dX4_edit_0 : decode cX4_edit 0 = .ok (.iload 5, 2) := by decide +kernel
theorem dX4_edit_2 : decode cX4_edit 2 = .ok (.ifCond .lt 55, 3) := by decide +kernel
theorem dX4_edit_5 : decode cX4_edit 5 = .ok (.iload 5, 2) := by decide +kernel
theorem dX4_edit_7 : decode cX4_edit 7 = .ok (.bipush 16, 2) := by decide +kernel
theorem dX4_edit_9 : decode cX4_edit 9 = .ok (.if_icmp .gt 48, 3) := by decide +kernel
theorem dX4_edit_12 : decode cX4_edit 12 = .ok (.iload_n 1, 1) := by decide +kernel
theorem dX4_edit_13 : decode cX4_edit 13 = .ok (.ifCond .lt 44, 3) := by decide +kernel
theorem dX4_edit_16 : decode cX4_edit 16 = .ok (.iload_n 2, 1) := by decide +kernel
theorem dX4_edit_17 : decode cX4_edit 17 = .ok (.ifCond .lt 40, 3) := by decide +kernel
theorem dX4_edit_20 : decode cX4_edit 20 = .ok (.iload_n 1, 1) := by decide +kernel
theorem dX4_edit_21 : decode cX4_edit 21 = .ok (.aload_n 0, 1) := by decide +kernel
theorem dX4_edit_22 : decode cX4_edit 22 = .ok (.getfield 41, 3) := by decide +kernel
theorem dX4_edit_25 : decode cX4_edit 25 = .ok (.if_icmp .gt 32, 3) := by decide +kernel
theorem dX4_edit_28 : decode cX4_edit 28 = .ok (.iload_n 2, 1) := by decide +kernel
theorem dX4_edit_29 : decode cX4_edit 29 = .ok (.aload_n 0, 1) := by decide +kernel
theorem dX4_edit_30 : decode cX4_edit 30 = .ok (.getfield 41, 3) := by decide +kernel
theorem dX4_edit_33 : decode cX4_edit 33 = .ok (.iload_n 1, 1) := by decide +kernel
theorem dX4_edit_34 : decode cX4_edit 34 = .ok (.isub, 1) := by decide +kernel
theorem dX4_edit_35 : decode cX4_edit 35 = .ok (.if_icmp .gt 22, 3) := by decide +kernel
theorem dX4_edit_38 : decode cX4_edit 38 = .ok (.aload_n 0, 1) := by decide +kernel
theorem dX4_edit_39 : decode cX4_edit 39 = .ok (.getfield 41, 3) := by decide +kernel
theorem dX4_edit_42 : decode cX4_edit 42 = .ok (.iload_n 2, 1) := by decide +kernel
theorem dX4_edit_43 : decode cX4_edit 43 = .ok (.isub, 1) := by decide +kernel
theorem dX4_edit_44 : decode cX4_edit 44 = .ok (.iload 5, 2) := by decide +kernel
theorem dX4_edit_46 : decode cX4_edit 46 = .ok (.iadd, 1) := by decide +kernel
theorem dX4_edit_47 : decode cX4_edit 47 = .ok (.sipush 400, 3) := by decide +kernel
theorem dX4_edit_50 : decode cX4_edit 50 = .ok (.if_icmp .gt 7, 3) := by decide +kernel
theorem dX4_edit_53 : decode cX4_edit 53 = .ok (.iconst 1, 1) := by decide +kernel
theorem dX4_edit_54 : decode cX4_edit 54 = .ok (.goto 4, 3) := by decide +kernel
theorem dX4_edit_57 : decode cX4_edit 57 = .ok (.iconst 0, 1) := by decide +kernel
theorem dX4_edit_58 : decode cX4_edit 58 = .ok (.istore 6, 2) := by decide +kernel
theorem dX4_edit_60 : decode cX4_edit 60 = .ok (.iconst 0, 1) := by decide +kernel
theorem dX4_edit_61 : decode cX4_edit 61 = .ok (.istore 7, 2) := by decide +kernel
theorem dX4_edit_63 : decode cX4_edit 63 = .ok (.iload 7, 2) := by decide +kernel
theorem dX4_edit_65 : decode cX4_edit 65 = .ok (.iload 5, 2) := by decide +kernel
theorem dX4_edit_67 : decode cX4_edit 67 = .ok (.if_icmp .ge 38, 3) := by decide +kernel
theorem dX4_edit_70 : decode cX4_edit 70 = .ok (.iload 6, 2) := by decide +kernel
theorem dX4_edit_72 : decode cX4_edit 72 = .ok (.ifCond .eq 33, 3) := by decide +kernel
theorem dX4_edit_75 : decode cX4_edit 75 = .ok (.lload_n 3, 1) := by decide +kernel
theorem dX4_edit_76 : decode cX4_edit 76 = .ok (.iconst 4, 1) := by decide +kernel
theorem dX4_edit_77 : decode cX4_edit 77 = .ok (.iload 7, 2) := by decide +kernel
theorem dX4_edit_79 : decode cX4_edit 79 = .ok (.imul, 1) := by decide +kernel
theorem dX4_edit_80 : decode cX4_edit 80 = .ok (.lshr, 1) := by decide +kernel
theorem dX4_edit_81 : decode cX4_edit 81 = .ok (.ldc2_w 81, 3) := by decide +kernel
theorem dX4_edit_84 : decode cX4_edit 84 = .ok (.land, 1) := by decide +kernel
theorem dX4_edit_85 : decode cX4_edit 85 = .ok (.ldc2_w 83, 3) := by decide +kernel
theorem dX4_edit_88 : decode cX4_edit 88 = .ok (.lcmp, 1) := by decide +kernel
theorem dX4_edit_89 : decode cX4_edit 89 = .ok (.ifCond .ge 7, 3) := by decide +kernel
theorem dX4_edit_92 : decode cX4_edit 92 = .ok (.iconst 1, 1) := by decide +kernel
theorem dX4_edit_93 : decode cX4_edit 93 = .ok (.goto 4, 3) := by decide +kernel
theorem dX4_edit_96 : decode cX4_edit 96 = .ok (.iconst 0, 1) := by decide +kernel
theorem dX4_edit_97 : decode cX4_edit 97 = .ok (.istore 6, 2) := by decide +kernel
theorem dX4_edit_99 : decode cX4_edit 99 = .ok (.iinc 7 1, 3) := by decide +kernel
theorem dX4_edit_102 : decode cX4_edit 102 = .ok (.goto (-39), 3) := by decide +kernel
theorem dX4_edit_105 : decode cX4_edit 105 = .ok (.iload 6, 2) := by decide +kernel
theorem dX4_edit_107 : decode cX4_edit 107 = .ok (.ifCond .ne 5, 3) := by decide +kernel
theorem dX4_edit_110 : decode cX4_edit 110 = .ok (.iconst (-1), 1) := by decide +kernel
theorem dX4_edit_111 : decode cX4_edit 111 = .ok (.ireturn, 1) := by decide +kernel
theorem dX4_edit_112 : decode cX4_edit 112 = .ok (.aload_n 0, 1) := by decide +kernel
theorem dX4_edit_113 : decode cX4_edit 113 = .ok (.getfield 41, 3) := by decide +kernel
theorem dX4_edit_116 : decode cX4_edit 116 = .ok (.ifCond .ne 7, 3) := by decide +kernel
theorem dX4_edit_119 : decode cX4_edit 119 = .ok (.iconst 0, 1) := by decide +kernel
theorem dX4_edit_120 : decode cX4_edit 120 = .ok (.goto 4, 3) := by decide +kernel
theorem dX4_edit_123 : decode cX4_edit 123 = .ok (.iconst (-1), 1) := by decide +kernel
theorem dX4_edit_124 : decode cX4_edit 124 = .ok (.istore 7, 2) := by decide +kernel
theorem dX4_edit_126 : decode cX4_edit 126 = .ok (.aload_n 0, 1) := by decide +kernel
theorem dX4_edit_127 : decode cX4_edit 127 = .ok (.getfield 31, 3) := by decide +kernel
theorem dX4_edit_130 : decode cX4_edit 130 = .ok (.ifCond .lt 22, 3) := by decide +kernel
theorem dX4_edit_133 : decode cX4_edit 133 = .ok (.aload_n 0, 1) := by decide +kernel
theorem dX4_edit_134 : decode cX4_edit 134 = .ok (.getfield 31, 3) := by decide +kernel
theorem dX4_edit_137 : decode cX4_edit 137 = .ok (.aload_n 0, 1) := by decide +kernel
theorem dX4_edit_138 : decode cX4_edit 138 = .ok (.getfield 47, 3) := by decide +kernel
theorem dX4_edit_141 : decode cX4_edit 141 = .ok (.iadd, 1) := by decide +kernel
theorem dX4_edit_142 : decode cX4_edit 142 = .ok (.iload_n 1, 1) := by decide +kernel
theorem dX4_edit_143 : decode cX4_edit 143 = .ok (.if_icmp .le 9, 3) := by decide +kernel
theorem dX4_edit_146 : decode cX4_edit 146 = .ok (.aload_n 0, 1) := by decide +kernel
theorem dX4_edit_147 : decode cX4_edit 147 = .ok (.getfield 31, 3) := by decide +kernel
theorem dX4_edit_150 : decode cX4_edit 150 = .ok (.istore 7, 2) := by decide +kernel
theorem dX4_edit_152 : decode cX4_edit 152 = .ok (.aload_n 0, 1) := by decide +kernel
theorem dX4_edit_153 : decode cX4_edit 153 = .ok (.getfield 44, 3) := by decide +kernel
theorem dX4_edit_156 : decode cX4_edit 156 = .ok (.iconst 1, 1) := by decide +kernel
theorem dX4_edit_157 : decode cX4_edit 157 = .ok (.isub, 1) := by decide +kernel
theorem dX4_edit_158 : decode cX4_edit 158 = .ok (.istore 8, 2) := by decide +kernel
theorem dX4_edit_160 : decode cX4_edit 160 = .ok (.iload 8, 2) := by decide +kernel
theorem dX4_edit_162 : decode cX4_edit 162 = .ok (.ifCond .lt 42, 3) := by decide +kernel
theorem dX4_edit_165 : decode cX4_edit 165 = .ok (.aload_n 0, 1) := by decide +kernel
theorem dX4_edit_166 : decode cX4_edit 166 = .ok (.getfield 19, 3) := by decide +kernel
theorem dX4_edit_169 : decode cX4_edit 169 = .ok (.iload 8, 2) := by decide +kernel
theorem dX4_edit_171 : decode cX4_edit 171 = .ok (.iaload, 1) := by decide +kernel
theorem dX4_edit_172 : decode cX4_edit 172 = .ok (.aload_n 0, 1) := by decide +kernel
theorem dX4_edit_173 : decode cX4_edit 173 = .ok (.getfield 28, 3) := by decide +kernel
theorem dX4_edit_176 : decode cX4_edit 176 = .ok (.iload 8, 2) := by decide +kernel
theorem dX4_edit_178 : decode cX4_edit 178 = .ok (.iaload, 1) := by decide +kernel
theorem dX4_edit_179 : decode cX4_edit 179 = .ok (.iadd, 1) := by decide +kernel
theorem dX4_edit_180 : decode cX4_edit 180 = .ok (.iload_n 1, 1) := by decide +kernel
theorem dX4_edit_181 : decode cX4_edit 181 = .ok (.if_icmp .le 13, 3) := by decide +kernel
theorem dX4_edit_184 : decode cX4_edit 184 = .ok (.aload_n 0, 1) := by decide +kernel
theorem dX4_edit_185 : decode cX4_edit 185 = .ok (.getfield 19, 3) := by decide +kernel
theorem dX4_edit_188 : decode cX4_edit 188 = .ok (.iload 8, 2) := by decide +kernel
theorem dX4_edit_190 : decode cX4_edit 190 = .ok (.iaload, 1) := by decide +kernel
theorem dX4_edit_191 : decode cX4_edit 191 = .ok (.goto 5, 3) := by decide +kernel
theorem dX4_edit_194 : decode cX4_edit 194 = .ok (.iload 7, 2) := by decide +kernel
theorem dX4_edit_196 : decode cX4_edit 196 = .ok (.istore 7, 2) := by decide +kernel
theorem dX4_edit_198 : decode cX4_edit 198 = .ok (.iinc 8 (-1), 3) := by decide +kernel
theorem dX4_edit_201 : decode cX4_edit 201 = .ok (.goto (-41), 3) := by decide +kernel
theorem dX4_edit_204 : decode cX4_edit 204 = .ok (.aload_n 0, 1) := by decide +kernel
theorem dX4_edit_205 : decode cX4_edit 205 = .ok (.aload_n 0, 1) := by decide +kernel
theorem dX4_edit_206 : decode cX4_edit 206 = .ok (.getfield 44, 3) := by decide +kernel
theorem dX4_edit_209 : decode cX4_edit 209 = .ok (.putfield 78, 3) := by decide +kernel
theorem dX4_edit_212 : decode cX4_edit 212 = .ok (.iconst 0, 1) := by decide +kernel
theorem dX4_edit_213 : decode cX4_edit 213 = .ok (.istore 8, 2) := by decide +kernel
theorem dX4_edit_215 : decode cX4_edit 215 = .ok (.iload 8, 2) := by decide +kernel
theorem dX4_edit_217 : decode cX4_edit 217 = .ok (.aload_n 0, 1) := by decide +kernel
theorem dX4_edit_218 : decode cX4_edit 218 = .ok (.getfield 44, 3) := by decide +kernel
theorem dX4_edit_221 : decode cX4_edit 221 = .ok (.if_icmp .ge 23, 3) := by decide +kernel
theorem dX4_edit_224 : decode cX4_edit 224 = .ok (.aload_n 0, 1) := by decide +kernel
theorem dX4_edit_225 : decode cX4_edit 225 = .ok (.getfield 35, 3) := by decide +kernel
theorem dX4_edit_228 : decode cX4_edit 228 = .ok (.iload 8, 2) := by decide +kernel
theorem dX4_edit_230 : decode cX4_edit 230 = .ok (.aload_n 0, 1) := by decide +kernel
theorem dX4_edit_231 : decode cX4_edit 231 = .ok (.getfield 19, 3) := by decide +kernel
theorem dX4_edit_234 : decode cX4_edit 234 = .ok (.iload 8, 2) := by decide +kernel
theorem dX4_edit_236 : decode cX4_edit 236 = .ok (.iaload, 1) := by decide +kernel
theorem dX4_edit_237 : decode cX4_edit 237 = .ok (.iastore, 1) := by decide +kernel
theorem dX4_edit_238 : decode cX4_edit 238 = .ok (.iinc 8 1, 3) := by decide +kernel
theorem dX4_edit_241 : decode cX4_edit 241 = .ok (.goto (-26), 3) := by decide +kernel
theorem dX4_edit_244 : decode cX4_edit 244 = .ok (.aload_n 0, 1) := by decide +kernel
theorem dX4_edit_245 : decode cX4_edit 245 = .ok (.aload_n 0, 1) := by decide +kernel
theorem dX4_edit_246 : decode cX4_edit 246 = .ok (.getfield 31, 3) := by decide +kernel
theorem dX4_edit_249 : decode cX4_edit 249 = .ok (.putfield 72, 3) := by decide +kernel
theorem dX4_edit_252 : decode cX4_edit 252 = .ok (.aload_n 0, 1) := by decide +kernel
theorem dX4_edit_253 : decode cX4_edit 253 = .ok (.aload_n 0, 1) := by decide +kernel
theorem dX4_edit_254 : decode cX4_edit 254 = .ok (.getfield 41, 3) := by decide +kernel
theorem dX4_edit_257 : decode cX4_edit 257 = .ok (.putfield 75, 3) := by decide +kernel
theorem dX4_edit_260 : decode cX4_edit 260 = .ok (.aload_n 0, 1) := by decide +kernel
theorem dX4_edit_261 : decode cX4_edit 261 = .ok (.iload_n 1, 1) := by decide +kernel
theorem dX4_edit_262 : decode cX4_edit 262 = .ok (.iload_n 2, 1) := by decide +kernel
theorem dX4_edit_263 : decode cX4_edit 263 = .ok (.lload_n 3, 1) := by decide +kernel
theorem dX4_edit_264 : decode cX4_edit 264 = .ok (.iload 5, 2) := by decide +kernel
theorem dX4_edit_266 : decode cX4_edit 266 = .ok (.invokevirtual 85, 3) := by decide +kernel
theorem dX4_edit_269 : decode cX4_edit 269 = .ok (.aload_n 0, 1) := by decide +kernel
theorem dX4_edit_270 : decode cX4_edit 270 = .ok (.dup, 1) := by decide +kernel
theorem dX4_edit_271 : decode cX4_edit 271 = .ok (.getfield 56, 3) := by decide +kernel
theorem dX4_edit_274 : decode cX4_edit 274 = .ok (.iconst 1, 1) := by decide +kernel
theorem dX4_edit_275 : decode cX4_edit 275 = .ok (.iadd, 1) := by decide +kernel
theorem dX4_edit_276 : decode cX4_edit 276 = .ok (.putfield 56, 3) := by decide +kernel
theorem dX4_edit_279 : decode cX4_edit 279 = .ok (.aload_n 0, 1) := by decide +kernel
theorem dX4_edit_280 : decode cX4_edit 280 = .ok (.iconst 0, 1) := by decide +kernel
theorem dX4_edit_281 : decode cX4_edit 281 = .ok (.putfield 50, 3) := by decide +kernel
theorem dX4_edit_284 : decode cX4_edit 284 = .ok (.aload_n 0, 1) := by decide +kernel
theorem dX4_edit_285 : decode cX4_edit 285 = .ok (.iconst 0, 1) := by decide +kernel
theorem dX4_edit_286 : decode cX4_edit 286 = .ok (.putfield 53, 3) := by decide +kernel
theorem dX4_edit_289 : decode cX4_edit 289 = .ok (.iload 7, 2) := by decide +kernel
theorem dX4_edit_291 : decode cX4_edit 291 = .ok (.ifCond .lt 13, 3) := by decide +kernel
theorem dX4_edit_294 : decode cX4_edit 294 = .ok (.aload_n 0, 1) := by decide +kernel
theorem dX4_edit_295 : decode cX4_edit 295 = .ok (.iload 7, 2) := by decide +kernel
theorem dX4_edit_297 : decode cX4_edit 297 = .ok (.iload_n 1, 1) := by decide +kernel
theorem dX4_edit_298 : decode cX4_edit 298 = .ok (.iload_n 2, 1) := by decide +kernel
theorem dX4_edit_299 : decode cX4_edit 299 = .ok (.iload 5, 2) := by decide +kernel
theorem dX4_edit_301 : decode cX4_edit 301 = .ok (.invokevirtual 89, 3) := by decide +kernel
theorem dX4_edit_304 : decode cX4_edit 304 = .ok (.aload_n 0, 1) := by decide +kernel
theorem dX4_edit_305 : decode cX4_edit 305 = .ok (.invokevirtual 93, 3) := by decide +kernel
theorem dX4_edit_308 : decode cX4_edit 308 = .ok (.aload_n 0, 1) := by decide +kernel
theorem dX4_edit_309 : decode cX4_edit 309 = .ok (.getfield 50, 3) := by decide +kernel
theorem dX4_edit_312 : decode cX4_edit 312 = .ok (.ireturn, 1) := by decide +kernel
theorem dX4_change_0 : decode cX4_change 0 = .ok (.aload_n 0, 1) := by decide +kernel
theorem dX4_change_1 : decode cX4_change 1 = .ok (.getfield 41, 3) := by decide +kernel
theorem dX4_change_4 : decode cX4_change 4 = .ok (.iload_n 2, 1) := by decide +kernel
theorem dX4_change_5 : decode cX4_change 5 = .ok (.isub, 1) := by decide +kernel
theorem dX4_change_6 : decode cX4_change 6 = .ok (.iload 5, 2) := by decide +kernel
theorem dX4_change_8 : decode cX4_change 8 = .ok (.iadd, 1) := by decide +kernel
theorem dX4_change_9 : decode cX4_change 9 = .ok (.istore 6, 2) := by decide +kernel
theorem dX4_change_11 : decode cX4_change 11 = .ok (.iload 5, 2) := by decide +kernel
theorem dX4_change_13 : decode cX4_change 13 = .ok (.iload_n 2, 1) := by decide +kernel
theorem dX4_change_14 : decode cX4_change 14 = .ok (.if_icmp .le 46, 3) := by decide +kernel
theorem dX4_change_17 : decode cX4_change 17 = .ok (.iload 6, 2) := by decide +kernel
theorem dX4_change_19 : decode cX4_change 19 = .ok (.iconst 1, 1) := by decide +kernel
theorem dX4_change_20 : decode cX4_change 20 = .ok (.isub, 1) := by decide +kernel
theorem dX4_change_21 : decode cX4_change 21 = .ok (.istore 7, 2) := by decide +kernel
theorem dX4_change_23 : decode cX4_change 23 = .ok (.iload 7, 2) := by decide +kernel
theorem dX4_change_25 : decode cX4_change 25 = .ok (.iload_n 1, 1) := by decide +kernel
theorem dX4_change_26 : decode cX4_change 26 = .ok (.iload 5, 2) := by decide +kernel
theorem dX4_change_28 : decode cX4_change 28 = .ok (.iadd, 1) := by decide +kernel
theorem dX4_change_29 : decode cX4_change 29 = .ok (.if_icmp .lt 28, 3) := by decide +kernel
theorem dX4_change_32 : decode cX4_change 32 = .ok (.aload_n 0, 1) := by decide +kernel
theorem dX4_change_33 : decode cX4_change 33 = .ok (.getfield 16, 3) := by decide +kernel
theorem dX4_change_36 : decode cX4_change 36 = .ok (.iload 7, 2) := by decide +kernel
theorem dX4_change_38 : decode cX4_change 38 = .ok (.aload_n 0, 1) := by decide +kernel
theorem dX4_change_39 : decode cX4_change 39 = .ok (.getfield 16, 3) := by decide +kernel
theorem dX4_change_42 : decode cX4_change 42 = .ok (.iload 7, 2) := by decide +kernel
theorem dX4_change_44 : decode cX4_change 44 = .ok (.iload 5, 2) := by decide +kernel
theorem dX4_change_46 : decode cX4_change 46 = .ok (.isub, 1) := by decide +kernel
theorem dX4_change_47 : decode cX4_change 47 = .ok (.iload_n 2, 1) := by decide +kernel
theorem dX4_change_48 : decode cX4_change 48 = .ok (.iadd, 1) := by decide +kernel
theorem dX4_change_49 : decode cX4_change 49 = .ok (.iaload, 1) := by decide +kernel
theorem dX4_change_50 : decode cX4_change 50 = .ok (.iastore, 1) := by decide +kernel
theorem dX4_change_51 : decode cX4_change 51 = .ok (.iinc 7 (-1), 3) := by decide +kernel
theorem dX4_change_54 : decode cX4_change 54 = .ok (.goto (-31), 3) := by decide +kernel
theorem dX4_change_57 : decode cX4_change 57 = .ok (.goto 41, 3) := by decide +kernel
theorem dX4_change_60 : decode cX4_change 60 = .ok (.iload_n 1, 1) := by decide +kernel
theorem dX4_change_61 : decode cX4_change 61 = .ok (.iload 5, 2) := by decide +kernel
theorem dX4_change_63 : decode cX4_change 63 = .ok (.iadd, 1) := by decide +kernel
theorem dX4_change_64 : decode cX4_change 64 = .ok (.istore 7, 2) := by decide +kernel
theorem dX4_change_66 : decode cX4_change 66 = .ok (.iload 7, 2) := by decide +kernel
theorem dX4_change_68 : decode cX4_change 68 = .ok (.iload 6, 2) := by decide +kernel
theorem dX4_change_70 : decode cX4_change 70 = .ok (.if_icmp .ge 28, 3) := by decide +kernel
theorem dX4_change_73 : decode cX4_change 73 = .ok (.aload_n 0, 1) := by decide +kernel
theorem dX4_change_74 : decode cX4_change 74 = .ok (.getfield 16, 3) := by decide +kernel
theorem dX4_change_77 : decode cX4_change 77 = .ok (.iload 7, 2) := by decide +kernel
theorem dX4_change_79 : decode cX4_change 79 = .ok (.aload_n 0, 1) := by decide +kernel
theorem dX4_change_80 : decode cX4_change 80 = .ok (.getfield 16, 3) := by decide +kernel
theorem dX4_change_83 : decode cX4_change 83 = .ok (.iload 7, 2) := by decide +kernel
theorem dX4_change_85 : decode cX4_change 85 = .ok (.iload 5, 2) := by decide +kernel
theorem dX4_change_87 : decode cX4_change 87 = .ok (.isub, 1) := by decide +kernel
theorem dX4_change_88 : decode cX4_change 88 = .ok (.iload_n 2, 1) := by decide +kernel
theorem dX4_change_89 : decode cX4_change 89 = .ok (.iadd, 1) := by decide +kernel
theorem dX4_change_90 : decode cX4_change 90 = .ok (.iaload, 1) := by decide +kernel
theorem dX4_change_91 : decode cX4_change 91 = .ok (.iastore, 1) := by decide +kernel
theorem dX4_change_92 : decode cX4_change 92 = .ok (.iinc 7 1, 3) := by decide +kernel
theorem dX4_change_95 : decode cX4_change 95 = .ok (.goto (-29), 3) := by decide +kernel
theorem dX4_change_98 : decode cX4_change 98 = .ok (.iconst 0, 1) := by decide +kernel
theorem dX4_change_99 : decode cX4_change 99 = .ok (.istore 7, 2) := by decide +kernel
theorem dX4_change_101 : decode cX4_change 101 = .ok (.iload 7, 2) := by decide +kernel
theorem dX4_change_103 : decode cX4_change 103 = .ok (.iload 5, 2) := by decide +kernel
theorem dX4_change_105 : decode cX4_change 105 = .ok (.if_icmp .ge 34, 3) := by decide +kernel
theorem dX4_change_108 : decode cX4_change 108 = .ok (.aload_n 0, 1) := by decide +kernel
theorem dX4_change_109 : decode cX4_change 109 = .ok (.getfield 16, 3) := by decide +kernel
theorem dX4_change_112 : decode cX4_change 112 = .ok (.iload_n 1, 1) := by decide +kernel
theorem dX4_change_113 : decode cX4_change 113 = .ok (.iload 7, 2) := by decide +kernel
theorem dX4_change_115 : decode cX4_change 115 = .ok (.iadd, 1) := by decide +kernel
theorem dX4_change_116 : decode cX4_change 116 = .ok (.lload_n 3, 1) := by decide +kernel
theorem dX4_change_117 : decode cX4_change 117 = .ok (.iconst 4, 1) := by decide +kernel
theorem dX4_change_118 : decode cX4_change 118 = .ok (.iload 5, 2) := by decide +kernel
theorem dX4_change_120 : decode cX4_change 120 = .ok (.iconst 1, 1) := by decide +kernel
theorem dX4_change_121 : decode cX4_change 121 = .ok (.isub, 1) := by decide +kernel
theorem dX4_change_122 : decode cX4_change 122 = .ok (.iload 7, 2) := by decide +kernel
theorem dX4_change_124 : decode cX4_change 124 = .ok (.isub, 1) := by decide +kernel
theorem dX4_change_125 : decode cX4_change 125 = .ok (.imul, 1) := by decide +kernel
theorem dX4_change_126 : decode cX4_change 126 = .ok (.lshr, 1) := by decide +kernel
theorem dX4_change_127 : decode cX4_change 127 = .ok (.ldc2_w 81, 3) := by decide +kernel
theorem dX4_change_130 : decode cX4_change 130 = .ok (.land, 1) := by decide +kernel
theorem dX4_change_131 : decode cX4_change 131 = .ok (.l2i, 1) := by decide +kernel
theorem dX4_change_132 : decode cX4_change 132 = .ok (.iastore, 1) := by decide +kernel
theorem dX4_change_133 : decode cX4_change 133 = .ok (.iinc 7 1, 3) := by decide +kernel
theorem dX4_change_136 : decode cX4_change 136 = .ok (.goto (-35), 3) := by decide +kernel
theorem dX4_change_139 : decode cX4_change 139 = .ok (.aload_n 0, 1) := by decide +kernel
theorem dX4_change_140 : decode cX4_change 140 = .ok (.iload 6, 2) := by decide +kernel
theorem dX4_change_142 : decode cX4_change 142 = .ok (.putfield 41, 3) := by decide +kernel
theorem dX4_change_145 : decode cX4_change 145 = .ok (.return_, 1) := by decide +kernel
theorem dX4_goOver_0 : decode cX4_goOver 0 = .ok (.iload_n 1, 1) := by decide +kernel
theorem dX4_goOver_1 : decode cX4_goOver 1 = .ok (.istore 5, 2) := by decide +kernel
theorem dX4_goOver_3 : decode cX4_goOver 3 = .ok (.iconst 1, 1) := by decide +kernel
theorem dX4_goOver_4 : decode cX4_goOver 4 = .ok (.istore 6, 2) := by decide +kernel
theorem dX4_goOver_6 : decode cX4_goOver 6 = .ok (.iload 6, 2) := by decide +kernel
theorem dX4_goOver_8 : decode cX4_goOver 8 = .ok (.ifCond .eq 90, 3) := by decide +kernel
theorem dX4_goOver_11 : decode cX4_goOver 11 = .ok (.iload 5, 2) := by decide +kernel
theorem dX4_goOver_13 : decode cX4_goOver 13 = .ok (.aload_n 0, 1) := by decide +kernel
theorem dX4_goOver_14 : decode cX4_goOver 14 = .ok (.getfield 41, 3) := by decide +kernel
theorem dX4_goOver_17 : decode cX4_goOver 17 = .ok (.if_icmp .ge 81, 3) := by decide +kernel
theorem dX4_goOver_20 : decode cX4_goOver 20 = .ok (.iload 5, 2) := by decide +kernel
theorem dX4_goOver_22 : decode cX4_goOver 22 = .ok (.iload_n 2, 1) := by decide +kernel
theorem dX4_goOver_23 : decode cX4_goOver 23 = .ok (.iload 4, 2) := by decide +kernel
theorem dX4_goOver_25 : decode cX4_goOver 25 = .ok (.iadd, 1) := by decide +kernel
theorem dX4_goOver_26 : decode cX4_goOver 26 = .ok (.if_icmp .lt 17, 3) := by decide +kernel
theorem dX4_goOver_29 : decode cX4_goOver 29 = .ok (.aload_n 0, 1) := by decide +kernel
theorem dX4_goOver_30 : decode cX4_goOver 30 = .ok (.iload 5, 2) := by decide +kernel
theorem dX4_goOver_32 : decode cX4_goOver 32 = .ok (.iload 4, 2) := by decide +kernel
theorem dX4_goOver_34 : decode cX4_goOver 34 = .ok (.isub, 1) := by decide +kernel
theorem dX4_goOver_35 : decode cX4_goOver 35 = .ok (.iload_n 3, 1) := by decide +kernel
theorem dX4_goOver_36 : decode cX4_goOver 36 = .ok (.iadd, 1) := by decide +kernel
theorem dX4_goOver_37 : decode cX4_goOver 37 = .ok (.invokevirtual 96, 3) := by decide +kernel
theorem dX4_goOver_40 : decode cX4_goOver 40 = .ok (.ifCond .ne 58, 3) := by decide +kernel
theorem dX4_goOver_43 : decode cX4_goOver 43 = .ok (.aload_n 0, 1) := by decide +kernel
theorem dX4_goOver_44 : decode cX4_goOver 44 = .ok (.iload 5, 2) := by decide +kernel
theorem dX4_goOver_46 : decode cX4_goOver 46 = .ok (.invokevirtual 68, 3) := by decide +kernel
theorem dX4_goOver_49 : decode cX4_goOver 49 = .ok (.istore 6, 2) := by decide +kernel
theorem dX4_goOver_51 : decode cX4_goOver 51 = .ok (.aload_n 0, 1) := by decide +kernel
theorem dX4_goOver_52 : decode cX4_goOver 52 = .ok (.aload_n 0, 1) := by decide +kernel
theorem dX4_goOver_53 : decode cX4_goOver 53 = .ok (.getfield 50, 3) := by decide +kernel
theorem dX4_goOver_56 : decode cX4_goOver 56 = .ok (.aload_n 0, 1) := by decide +kernel
theorem dX4_goOver_57 : decode cX4_goOver 57 = .ok (.getfield 65, 3) := by decide +kernel
theorem dX4_goOver_60 : decode cX4_goOver 60 = .ok (.iadd, 1) := by decide +kernel
theorem dX4_goOver_61 : decode cX4_goOver 61 = .ok (.putfield 50, 3) := by decide +kernel
theorem dX4_goOver_64 : decode cX4_goOver 64 = .ok (.aload_n 0, 1) := by decide +kernel
theorem dX4_goOver_65 : decode cX4_goOver 65 = .ok (.iload 6, 2) := by decide +kernel
theorem dX4_goOver_67 : decode cX4_goOver 67 = .ok (.ifCond .eq 12, 3) := by decide +kernel
theorem dX4_goOver_70 : decode cX4_goOver 70 = .ok (.aload_n 0, 1) := by decide +kernel
theorem dX4_goOver_71 : decode cX4_goOver 71 = .ok (.getfield 53, 3) := by decide +kernel
theorem dX4_goOver_74 : decode cX4_goOver 74 = .ok (.iconst 1, 1) := by decide +kernel
theorem dX4_goOver_75 : decode cX4_goOver 75 = .ok (.iadd, 1) := by decide +kernel
theorem dX4_goOver_76 : decode cX4_goOver 76 = .ok (.goto 7, 3) := by decide +kernel
theorem dX4_goOver_79 : decode cX4_goOver 79 = .ok (.aload_n 0, 1) := by decide +kernel
theorem dX4_goOver_80 : decode cX4_goOver 80 = .ok (.getfield 53, 3) := by decide +kernel
theorem dX4_goOver_83 : decode cX4_goOver 83 = .ok (.putfield 53, 3) := by decide +kernel
theorem dX4_goOver_86 : decode cX4_goOver 86 = .ok (.iload 5, 2) := by decide +kernel
theorem dX4_goOver_88 : decode cX4_goOver 88 = .ok (.aload_n 0, 1) := by decide +kernel
theorem dX4_goOver_89 : decode cX4_goOver 89 = .ok (.getfield 59, 3) := by decide +kernel
theorem dX4_goOver_92 : decode cX4_goOver 92 = .ok (.iadd, 1) := by decide +kernel
theorem dX4_goOver_93 : decode cX4_goOver 93 = .ok (.istore 5, 2) := by decide +kernel
theorem dX4_goOver_95 : decode cX4_goOver 95 = .ok (.goto (-89), 3) := by decide +kernel
theorem dX4_goOver_98 : decode cX4_goOver 98 = .ok (.return_, 1) := by decide +kernel
theorem dX4_token_0 : decode cX4_token 0 = .ok (.iload_n 1, 1) := by decide +kernel
theorem dX4_token_1 : decode cX4_token 1 = .ok (.ifCond .lt 11, 3) := by decide +kernel
theorem dX4_token_4 : decode cX4_token 4 = .ok (.iload_n 1, 1) := by decide +kernel
theorem dX4_token_5 : decode cX4_token 5 = .ok (.aload_n 0, 1) := by decide +kernel
theorem dX4_token_6 : decode cX4_token 6 = .ok (.getfield 44, 3) := by decide +kernel
theorem dX4_token_9 : decode cX4_token 9 = .ok (.if_icmp .lt 5, 3) := by decide +kernel
theorem dX4_token_12 : decode cX4_token 12 = .ok (.iconst (-1), 1) := by decide +kernel
theorem dX4_token_13 : decode cX4_token 13 = .ok (.ireturn, 1) := by decide +kernel
theorem dX4_token_14 : decode cX4_token 14 = .ok (.iload_n 2, 1) := by decide +kernel
theorem dX4_token_15 : decode cX4_token 15 = .ok (.ifCond .ne 12, 3) := by decide +kernel
theorem dX4_token_18 : decode cX4_token 18 = .ok (.aload_n 0, 1) := by decide +kernel
theorem dX4_token_19 : decode cX4_token 19 = .ok (.getfield 19, 3) := by decide +kernel
theorem dX4_token_22 : decode cX4_token 22 = .ok (.iload_n 1, 1) := by decide +kernel
theorem dX4_token_23 : decode cX4_token 23 = .ok (.iaload, 1) := by decide +kernel
theorem dX4_token_24 : decode cX4_token 24 = .ok (.goto 46, 3) := by decide +kernel
theorem dX4_token_27 : decode cX4_token 27 = .ok (.iload_n 2, 1) := by decide +kernel
theorem dX4_token_28 : decode cX4_token 28 = .ok (.iconst 1, 1) := by decide +kernel
theorem dX4_token_29 : decode cX4_token 29 = .ok (.if_icmp .ne 12, 3) := by decide +kernel
theorem dX4_token_32 : decode cX4_token 32 = .ok (.aload_n 0, 1) := by decide +kernel
theorem dX4_token_33 : decode cX4_token 33 = .ok (.getfield 22, 3) := by decide +kernel
theorem dX4_token_36 : decode cX4_token 36 = .ok (.iload_n 1, 1) := by decide +kernel
theorem dX4_token_37 : decode cX4_token 37 = .ok (.iaload, 1) := by decide +kernel
theorem dX4_token_38 : decode cX4_token 38 = .ok (.goto 32, 3) := by decide +kernel
theorem dX4_token_41 : decode cX4_token 41 = .ok (.iload_n 2, 1) := by decide +kernel
theorem dX4_token_42 : decode cX4_token 42 = .ok (.iconst 2, 1) := by decide +kernel
theorem dX4_token_43 : decode cX4_token 43 = .ok (.if_icmp .ne 12, 3) := by decide +kernel
theorem dX4_token_46 : decode cX4_token 46 = .ok (.aload_n 0, 1) := by decide +kernel
theorem dX4_token_47 : decode cX4_token 47 = .ok (.getfield 25, 3) := by decide +kernel
theorem dX4_token_50 : decode cX4_token 50 = .ok (.iload_n 1, 1) := by decide +kernel
theorem dX4_token_51 : decode cX4_token 51 = .ok (.iaload, 1) := by decide +kernel
theorem dX4_token_52 : decode cX4_token 52 = .ok (.goto 18, 3) := by decide +kernel
theorem dX4_token_55 : decode cX4_token 55 = .ok (.iload_n 2, 1) := by decide +kernel
theorem dX4_token_56 : decode cX4_token 56 = .ok (.iconst 3, 1) := by decide +kernel
theorem dX4_token_57 : decode cX4_token 57 = .ok (.if_icmp .ne 12, 3) := by decide +kernel
theorem dX4_token_60 : decode cX4_token 60 = .ok (.aload_n 0, 1) := by decide +kernel
theorem dX4_token_61 : decode cX4_token 61 = .ok (.getfield 28, 3) := by decide +kernel
theorem dX4_token_64 : decode cX4_token 64 = .ok (.iload_n 1, 1) := by decide +kernel
theorem dX4_token_65 : decode cX4_token 65 = .ok (.iaload, 1) := by decide +kernel
theorem dX4_token_66 : decode cX4_token 66 = .ok (.goto 4, 3) := by decide +kernel
theorem dX4_token_69 : decode cX4_token 69 = .ok (.iconst (-1), 1) := by decide +kernel
theorem dX4_token_70 : decode cX4_token 70 = .ok (.ireturn, 1) := by decide +kernel
theorem dX4_tokenAt_0 : decode cX4_tokenAt 0 = .ok (.iconst (-1), 1) := by decide +kernel
theorem dX4_tokenAt_1 : decode cX4_tokenAt 1 = .ok (.istore_n 2, 1) := by decide +kernel
theorem dX4_tokenAt_2 : decode cX4_tokenAt 2 = .ok (.iconst 0, 1) := by decide +kernel
theorem dX4_tokenAt_3 : decode cX4_tokenAt 3 = .ok (.istore_n 3, 1) := by decide +kernel
theorem dX4_tokenAt_4 : decode cX4_tokenAt 4 = .ok (.iload_n 3, 1) := by decide +kernel
theorem dX4_tokenAt_5 : decode cX4_tokenAt 5 = .ok (.aload_n 0, 1) := by decide +kernel
theorem dX4_tokenAt_6 : decode cX4_tokenAt 6 = .ok (.getfield 44, 3) := by decide +kernel
theorem dX4_tokenAt_9 : decode cX4_tokenAt 9 = .ok (.if_icmp .ge 42, 3) := by decide +kernel
theorem dX4_tokenAt_12 : decode cX4_tokenAt 12 = .ok (.iload_n 1, 1) := by decide +kernel
theorem dX4_tokenAt_13 : decode cX4_tokenAt 13 = .ok (.aload_n 0, 1) := by decide +kernel
theorem dX4_tokenAt_14 : decode cX4_tokenAt 14 = .ok (.getfield 19, 3) := by decide +kernel
theorem dX4_tokenAt_17 : decode cX4_tokenAt 17 = .ok (.iload_n 3, 1) := by decide +kernel
theorem dX4_tokenAt_18 : decode cX4_tokenAt 18 = .ok (.iaload, 1) := by decide +kernel
theorem dX4_tokenAt_19 : decode cX4_tokenAt 19 = .ok (.if_icmp .lt 24, 3) := by decide +kernel
theorem dX4_tokenAt_22 : decode cX4_tokenAt 22 = .ok (.iload_n 1, 1) := by decide +kernel
theorem dX4_tokenAt_23 : decode cX4_tokenAt 23 = .ok (.aload_n 0, 1) := by decide +kernel
theorem dX4_tokenAt_24 : decode cX4_tokenAt 24 = .ok (.getfield 19, 3) := by decide +kernel
theorem dX4_tokenAt_27 : decode cX4_tokenAt 27 = .ok (.iload_n 3, 1) := by decide +kernel
theorem dX4_tokenAt_28 : decode cX4_tokenAt 28 = .ok (.iaload, 1) := by decide +kernel
theorem dX4_tokenAt_29 : decode cX4_tokenAt 29 = .ok (.aload_n 0, 1) := by decide +kernel
theorem dX4_tokenAt_30 : decode cX4_tokenAt 30 = .ok (.getfield 22, 3) := by decide +kernel
theorem dX4_tokenAt_33 : decode cX4_tokenAt 33 = .ok (.iload_n 3, 1) := by decide +kernel
theorem dX4_tokenAt_34 : decode cX4_tokenAt 34 = .ok (.iaload, 1) := by decide +kernel
theorem dX4_tokenAt_35 : decode cX4_tokenAt 35 = .ok (.iadd, 1) := by decide +kernel
theorem dX4_tokenAt_36 : decode cX4_tokenAt 36 = .ok (.if_icmp .ge 7, 3) := by decide +kernel
theorem dX4_tokenAt_39 : decode cX4_tokenAt 39 = .ok (.iload_n 3, 1) := by decide +kernel
theorem dX4_tokenAt_40 : decode cX4_tokenAt 40 = .ok (.goto 4, 3) := by decide +kernel
theorem dX4_tokenAt_43 : decode cX4_tokenAt 43 = .ok (.iload_n 2, 1) := by decide +kernel
theorem dX4_tokenAt_44 : decode cX4_tokenAt 44 = .ok (.istore_n 2, 1) := by decide +kernel
theorem dX4_tokenAt_45 : decode cX4_tokenAt 45 = .ok (.iinc 3 1, 3) := by decide +kernel
theorem dX4_tokenAt_48 : decode cX4_tokenAt 48 = .ok (.goto (-44), 3) := by decide +kernel
theorem dX4_tokenAt_51 : decode cX4_tokenAt 51 = .ok (.iload_n 2, 1) := by decide +kernel
theorem dX4_tokenAt_52 : decode cX4_tokenAt 52 = .ok (.ireturn, 1) := by decide +kernel
theorem dX4_symbol_0 : decode cX4_symbol 0 = .ok (.iload_n 1, 1) := by decide +kernel
theorem dX4_symbol_1 : decode cX4_symbol 1 = .ok (.ifCond .lt 20, 3) := by decide +kernel
theorem dX4_symbol_4 : decode cX4_symbol 4 = .ok (.iload_n 1, 1) := by decide +kernel
theorem dX4_symbol_5 : decode cX4_symbol 5 = .ok (.aload_n 0, 1) := by decide +kernel
theorem dX4_symbol_6 : decode cX4_symbol 6 = .ok (.getfield 41, 3) := by decide +kernel
theorem dX4_symbol_9 : decode cX4_symbol 9 = .ok (.if_icmp .ge 12, 3) := by decide +kernel
theorem dX4_symbol_12 : decode cX4_symbol 12 = .ok (.aload_n 0, 1) := by decide +kernel
theorem dX4_symbol_13 : decode cX4_symbol 13 = .ok (.getfield 16, 3) := by decide +kernel
theorem dX4_symbol_16 : decode cX4_symbol 16 = .ok (.iload_n 1, 1) := by decide +kernel
theorem dX4_symbol_17 : decode cX4_symbol 17 = .ok (.iaload, 1) := by decide +kernel
theorem dX4_symbol_18 : decode cX4_symbol 18 = .ok (.goto 4, 3) := by decide +kernel
theorem dX4_symbol_21 : decode cX4_symbol 21 = .ok (.iconst (-1), 1) := by decide +kernel
theorem dX4_symbol_22 : decode cX4_symbol 22 = .ok (.ireturn, 1) := by decide +kernel
theorem dX4_count_0 : decode cX4_count 0 = .ok (.iload_n 1, 1) := by decide +kernel
theorem dX4_count_1 : decode cX4_count 1 = .ok (.ifCond .ne 10, 3) := by decide +kernel
theorem dX4_count_4 : decode cX4_count 4 = .ok (.aload_n 0, 1) := by decide +kernel
theorem dX4_count_5 : decode cX4_count 5 = .ok (.getfield 44, 3) := by decide +kernel
theorem dX4_count_8 : decode cX4_count 8 = .ok (.goto 77, 3) := by decide +kernel
theorem dX4_count_11 : decode cX4_count 11 = .ok (.iload_n 1, 1) := by decide +kernel
theorem dX4_count_12 : decode cX4_count 12 = .ok (.iconst 1, 1) := by decide +kernel
theorem dX4_count_13 : decode cX4_count 13 = .ok (.if_icmp .ne 10, 3) := by decide +kernel
theorem dX4_count_16 : decode cX4_count 16 = .ok (.aload_n 0, 1) := by decide +kernel
theorem dX4_count_17 : decode cX4_count 17 = .ok (.getfield 41, 3) := by decide +kernel
theorem dX4_count_20 : decode cX4_count 20 = .ok (.goto 65, 3) := by decide +kernel
theorem dX4_count_23 : decode cX4_count 23 = .ok (.iload_n 1, 1) := by decide +kernel
theorem dX4_count_24 : decode cX4_count 24 = .ok (.iconst 2, 1) := by decide +kernel
theorem dX4_count_25 : decode cX4_count 25 = .ok (.if_icmp .ne 10, 3) := by decide +kernel
theorem dX4_count_28 : decode cX4_count 28 = .ok (.aload_n 0, 1) := by decide +kernel
theorem dX4_count_29 : decode cX4_count 29 = .ok (.getfield 31, 3) := by decide +kernel
theorem dX4_count_32 : decode cX4_count 32 = .ok (.goto 53, 3) := by decide +kernel
theorem dX4_count_35 : decode cX4_count 35 = .ok (.iload_n 1, 1) := by decide +kernel
theorem dX4_count_36 : decode cX4_count 36 = .ok (.iconst 3, 1) := by decide +kernel
theorem dX4_count_37 : decode cX4_count 37 = .ok (.if_icmp .ne 10, 3) := by decide +kernel
theorem dX4_count_40 : decode cX4_count 40 = .ok (.aload_n 0, 1) := by decide +kernel
theorem dX4_count_41 : decode cX4_count 41 = .ok (.getfield 47, 3) := by decide +kernel
theorem dX4_count_44 : decode cX4_count 44 = .ok (.goto 41, 3) := by decide +kernel
theorem dX4_count_47 : decode cX4_count 47 = .ok (.iload_n 1, 1) := by decide +kernel
theorem dX4_count_48 : decode cX4_count 48 = .ok (.iconst 4, 1) := by decide +kernel
theorem dX4_count_49 : decode cX4_count 49 = .ok (.if_icmp .ne 10, 3) := by decide +kernel
theorem dX4_count_52 : decode cX4_count 52 = .ok (.aload_n 0, 1) := by decide +kernel
theorem dX4_count_53 : decode cX4_count 53 = .ok (.getfield 50, 3) := by decide +kernel
theorem dX4_count_56 : decode cX4_count 56 = .ok (.goto 29, 3) := by decide +kernel
theorem dX4_count_59 : decode cX4_count 59 = .ok (.iload_n 1, 1) := by decide +kernel
theorem dX4_count_60 : decode cX4_count 60 = .ok (.iconst 5, 1) := by decide +kernel
theorem dX4_count_61 : decode cX4_count 61 = .ok (.if_icmp .ne 10, 3) := by decide +kernel
theorem dX4_count_64 : decode cX4_count 64 = .ok (.aload_n 0, 1) := by decide +kernel
theorem dX4_count_65 : decode cX4_count 65 = .ok (.getfield 53, 3) := by decide +kernel
theorem dX4_count_68 : decode cX4_count 68 = .ok (.goto 17, 3) := by decide +kernel
theorem dX4_count_71 : decode cX4_count 71 = .ok (.iload_n 1, 1) := by decide +kernel
theorem dX4_count_72 : decode cX4_count 72 = .ok (.bipush 6, 2) := by decide +kernel
theorem dX4_count_74 : decode cX4_count 74 = .ok (.if_icmp .ne 10, 3) := by decide +kernel
theorem dX4_count_77 : decode cX4_count 77 = .ok (.aload_n 0, 1) := by decide +kernel
theorem dX4_count_78 : decode cX4_count 78 = .ok (.getfield 56, 3) := by decide +kernel
theorem dX4_count_81 : decode cX4_count 81 = .ok (.goto 4, 3) := by decide +kernel
theorem dX4_count_84 : decode cX4_count 84 = .ok (.iconst (-1), 1) := by decide +kernel
theorem dX4_count_85 : decode cX4_count 85 = .ok (.ireturn, 1) := by decide +kernel
theorem dX4_clear_0 : decode cX4_clear 0 = .ok (.aload_n 0, 1) := by decide +kernel
theorem dX4_clear_1 : decode cX4_clear 1 = .ok (.getfield 44, 3) := by decide +kernel
theorem dX4_clear_4 : decode cX4_clear 4 = .ok (.istore_n 1, 1) := by decide +kernel
theorem dX4_clear_5 : decode cX4_clear 5 = .ok (.aload_n 0, 1) := by decide +kernel
theorem dX4_clear_6 : decode cX4_clear 6 = .ok (.invokevirtual 38, 3) := by decide +kernel
theorem dX4_clear_9 : decode cX4_clear 9 = .ok (.iload_n 1, 1) := by decide +kernel
theorem dX4_clear_10 : decode cX4_clear 10 = .ok (.ireturn, 1) := by decide +kernel
end
section
theorem dL_law_0 : decode cL_law 0 = .ok (.new 7, 3) := by decide +kernel
theorem dL_law_3 : decode cL_law 3 = .ok (.dup, 1) := by decide +kernel
theorem dL_law_4 : decode cL_law 4 = .ok (.invokespecial 9, 3) := by decide +kernel
theorem dL_law_7 : decode cL_law 7 = .ok (.astore_n 1, 1) := by decide +kernel
theorem dL_law_8 : decode cL_law 8 = .ok (.new 10, 3) := by decide +kernel
theorem dL_law_11 : decode cL_law 11 = .ok (.dup, 1) := by decide +kernel
theorem dL_law_12 : decode cL_law 12 = .ok (.invokespecial 12, 3) := by decide +kernel
theorem dL_law_15 : decode cL_law 15 = .ok (.astore_n 2, 1) := by decide +kernel
theorem dL_law_16 : decode cL_law 16 = .ok (.iconst 0, 1) := by decide +kernel
theorem dL_law_17 : decode cL_law 17 = .ok (.istore_n 3, 1) := by decide +kernel
theorem dL_law_18 : decode cL_law 18 = .ok (.iload_n 3, 1) := by decide +kernel
theorem dL_law_19 : decode cL_law 19 = .ok (.aload_n 0, 1) := by decide +kernel
theorem dL_law_20 : decode cL_law 20 = .ok (.arraylength, 1) := by decide +kernel
theorem dL_law_21 : decode cL_law 21 = .ok (.bipush 6, 2) := by decide +kernel
theorem dL_law_23 : decode cL_law 23 = .ok (.isub, 1) := by decide +kernel
theorem dL_law_24 : decode cL_law 24 = .ok (.if_icmp .gt 336, 3) := by decide +kernel
theorem dL_law_27 : decode cL_law 27 = .ok (.aload_n 0, 1) := by decide +kernel
theorem dL_law_28 : decode cL_law 28 = .ok (.iload_n 3, 1) := by decide +kernel
theorem dL_law_29 : decode cL_law 29 = .ok (.iaload, 1) := by decide +kernel
theorem dL_law_30 : decode cL_law 30 = .ok (.bipush 7, 2) := by decide +kernel
theorem dL_law_32 : decode cL_law 32 = .ok (.iand, 1) := by decide +kernel
theorem dL_law_33 : decode cL_law 33 = .ok (.tableswitch 321 0 7 #[47, 90, 123, 206, 239, 262, 285, 308], 47) := by decide +kernel
theorem dL_law_80 : decode cL_law 80 = .ok (.aload_n 1, 1) := by decide +kernel
theorem dL_law_81 : decode cL_law 81 = .ok (.aload_n 0, 1) := by decide +kernel
theorem dL_law_82 : decode cL_law 82 = .ok (.iload_n 3, 1) := by decide +kernel
theorem dL_law_83 : decode cL_law 83 = .ok (.iconst 1, 1) := by decide +kernel
theorem dL_law_84 : decode cL_law 84 = .ok (.iadd, 1) := by decide +kernel
theorem dL_law_85 : decode cL_law 85 = .ok (.iaload, 1) := by decide +kernel
theorem dL_law_86 : decode cL_law 86 = .ok (.aload_n 0, 1) := by decide +kernel
theorem dL_law_87 : decode cL_law 87 = .ok (.iload_n 3, 1) := by decide +kernel
theorem dL_law_88 : decode cL_law 88 = .ok (.iconst 2, 1) := by decide +kernel
theorem dL_law_89 : decode cL_law 89 = .ok (.iadd, 1) := by decide +kernel
theorem dL_law_90 : decode cL_law 90 = .ok (.iaload, 1) := by decide +kernel
theorem dL_law_91 : decode cL_law 91 = .ok (.aload_n 0, 1) := by decide +kernel
theorem dL_law_92 : decode cL_law 92 = .ok (.iload_n 3, 1) := by decide +kernel
theorem dL_law_93 : decode cL_law 93 = .ok (.iconst 3, 1) := by decide +kernel
theorem dL_law_94 : decode cL_law 94 = .ok (.iadd, 1) := by decide +kernel
theorem dL_law_95 : decode cL_law 95 = .ok (.iaload, 1) := by decide +kernel
theorem dL_law_96 : decode cL_law 96 = .ok (.invokevirtual 13, 3) := by decide +kernel
theorem dL_law_99 : decode cL_law 99 = .ok (.aload_n 2, 1) := by decide +kernel
theorem dL_law_100 : decode cL_law 100 = .ok (.aload_n 0, 1) := by decide +kernel
theorem dL_law_101 : decode cL_law 101 = .ok (.iload_n 3, 1) := by decide +kernel
theorem dL_law_102 : decode cL_law 102 = .ok (.iconst 1, 1) := by decide +kernel
theorem dL_law_103 : decode cL_law 103 = .ok (.iadd, 1) := by decide +kernel
theorem dL_law_104 : decode cL_law 104 = .ok (.iaload, 1) := by decide +kernel
theorem dL_law_105 : decode cL_law 105 = .ok (.aload_n 0, 1) := by decide +kernel
theorem dL_law_106 : decode cL_law 106 = .ok (.iload_n 3, 1) := by decide +kernel
theorem dL_law_107 : decode cL_law 107 = .ok (.iconst 2, 1) := by decide +kernel
theorem dL_law_108 : decode cL_law 108 = .ok (.iadd, 1) := by decide +kernel
theorem dL_law_109 : decode cL_law 109 = .ok (.iaload, 1) := by decide +kernel
theorem dL_law_110 : decode cL_law 110 = .ok (.aload_n 0, 1) := by decide +kernel
theorem dL_law_111 : decode cL_law 111 = .ok (.iload_n 3, 1) := by decide +kernel
theorem dL_law_112 : decode cL_law 112 = .ok (.iconst 3, 1) := by decide +kernel
theorem dL_law_113 : decode cL_law 113 = .ok (.iadd, 1) := by decide +kernel
theorem dL_law_114 : decode cL_law 114 = .ok (.iaload, 1) := by decide +kernel
theorem dL_law_115 : decode cL_law 115 = .ok (.invokevirtual 17, 3) := by decide +kernel
theorem dL_law_118 : decode cL_law 118 = .ok (.if_icmp .eq 236, 3) := by decide +kernel
theorem dL_law_121 : decode cL_law 121 = .ok (.iconst 0, 1) := by decide +kernel
theorem dL_law_122 : decode cL_law 122 = .ok (.ireturn, 1) := by decide +kernel
theorem dL_law_123 : decode cL_law 123 = .ok (.aload_n 1, 1) := by decide +kernel
theorem dL_law_124 : decode cL_law 124 = .ok (.aload_n 0, 1) := by decide +kernel
theorem dL_law_125 : decode cL_law 125 = .ok (.iload_n 3, 1) := by decide +kernel
theorem dL_law_126 : decode cL_law 126 = .ok (.iconst 1, 1) := by decide +kernel
theorem dL_law_127 : decode cL_law 127 = .ok (.iadd, 1) := by decide +kernel
theorem dL_law_128 : decode cL_law 128 = .ok (.iaload, 1) := by decide +kernel
theorem dL_law_129 : decode cL_law 129 = .ok (.aload_n 0, 1) := by decide +kernel
theorem dL_law_130 : decode cL_law 130 = .ok (.iload_n 3, 1) := by decide +kernel
theorem dL_law_131 : decode cL_law 131 = .ok (.iconst 2, 1) := by decide +kernel
theorem dL_law_132 : decode cL_law 132 = .ok (.iadd, 1) := by decide +kernel
theorem dL_law_133 : decode cL_law 133 = .ok (.iaload, 1) := by decide +kernel
theorem dL_law_134 : decode cL_law 134 = .ok (.invokevirtual 18, 3) := by decide +kernel
theorem dL_law_137 : decode cL_law 137 = .ok (.aload_n 2, 1) := by decide +kernel
theorem dL_law_138 : decode cL_law 138 = .ok (.aload_n 0, 1) := by decide +kernel
theorem dL_law_139 : decode cL_law 139 = .ok (.iload_n 3, 1) := by decide +kernel
theorem dL_law_140 : decode cL_law 140 = .ok (.iconst 1, 1) := by decide +kernel
theorem dL_law_141 : decode cL_law 141 = .ok (.iadd, 1) := by decide +kernel
theorem dL_law_142 : decode cL_law 142 = .ok (.iaload, 1) := by decide +kernel
theorem dL_law_143 : decode cL_law 143 = .ok (.aload_n 0, 1) := by decide +kernel
theorem dL_law_144 : decode cL_law 144 = .ok (.iload_n 3, 1) := by decide +kernel
theorem dL_law_145 : decode cL_law 145 = .ok (.iconst 2, 1) := by decide +kernel
theorem dL_law_146 : decode cL_law 146 = .ok (.iadd, 1) := by decide +kernel
theorem dL_law_147 : decode cL_law 147 = .ok (.iaload, 1) := by decide +kernel
theorem dL_law_148 : decode cL_law 148 = .ok (.invokevirtual 22, 3) := by decide +kernel
theorem dL_law_151 : decode cL_law 151 = .ok (.if_icmp .eq 203, 3) := by decide +kernel
theorem dL_law_154 : decode cL_law 154 = .ok (.iconst 0, 1) := by decide +kernel
theorem dL_law_155 : decode cL_law 155 = .ok (.ireturn, 1) := by decide +kernel
theorem dL_law_156 : decode cL_law 156 = .ok (.aload_n 1, 1) := by decide +kernel
theorem dL_law_157 : decode cL_law 157 = .ok (.aload_n 0, 1) := by decide +kernel
theorem dL_law_158 : decode cL_law 158 = .ok (.iload_n 3, 1) := by decide +kernel
theorem dL_law_159 : decode cL_law 159 = .ok (.iconst 1, 1) := by decide +kernel
theorem dL_law_160 : decode cL_law 160 = .ok (.iadd, 1) := by decide +kernel
theorem dL_law_161 : decode cL_law 161 = .ok (.iaload, 1) := by decide +kernel
theorem dL_law_162 : decode cL_law 162 = .ok (.aload_n 0, 1) := by decide +kernel
theorem dL_law_163 : decode cL_law 163 = .ok (.iload_n 3, 1) := by decide +kernel
theorem dL_law_164 : decode cL_law 164 = .ok (.iconst 2, 1) := by decide +kernel
theorem dL_law_165 : decode cL_law 165 = .ok (.iadd, 1) := by decide +kernel
theorem dL_law_166 : decode cL_law 166 = .ok (.iaload, 1) := by decide +kernel
theorem dL_law_167 : decode cL_law 167 = .ok (.aload_n 0, 1) := by decide +kernel
theorem dL_law_168 : decode cL_law 168 = .ok (.iload_n 3, 1) := by decide +kernel
theorem dL_law_169 : decode cL_law 169 = .ok (.iconst 3, 1) := by decide +kernel
theorem dL_law_170 : decode cL_law 170 = .ok (.iadd, 1) := by decide +kernel
theorem dL_law_171 : decode cL_law 171 = .ok (.iaload, 1) := by decide +kernel
theorem dL_law_172 : decode cL_law 172 = .ok (.i2l, 1) := by decide +kernel
theorem dL_law_173 : decode cL_law 173 = .ok (.bipush 32, 2) := by decide +kernel
theorem dL_law_175 : decode cL_law 175 = .ok (.lshl, 1) := by decide +kernel
theorem dL_law_176 : decode cL_law 176 = .ok (.aload_n 0, 1) := by decide +kernel
theorem dL_law_177 : decode cL_law 177 = .ok (.iload_n 3, 1) := by decide +kernel
theorem dL_law_178 : decode cL_law 178 = .ok (.iconst 4, 1) := by decide +kernel
theorem dL_law_179 : decode cL_law 179 = .ok (.iadd, 1) := by decide +kernel
theorem dL_law_180 : decode cL_law 180 = .ok (.iaload, 1) := by decide +kernel
theorem dL_law_181 : decode cL_law 181 = .ok (.i2l, 1) := by decide +kernel
theorem dL_law_182 : decode cL_law 182 = .ok (.ldc2_w 23, 3) := by decide +kernel
theorem dL_law_185 : decode cL_law 185 = .ok (.land, 1) := by decide +kernel
theorem dL_law_186 : decode cL_law 186 = .ok (.lor, 1) := by decide +kernel
theorem dL_law_187 : decode cL_law 187 = .ok (.aload_n 0, 1) := by decide +kernel
theorem dL_law_188 : decode cL_law 188 = .ok (.iload_n 3, 1) := by decide +kernel
theorem dL_law_189 : decode cL_law 189 = .ok (.iconst 5, 1) := by decide +kernel
theorem dL_law_190 : decode cL_law 190 = .ok (.iadd, 1) := by decide +kernel
theorem dL_law_191 : decode cL_law 191 = .ok (.iaload, 1) := by decide +kernel
theorem dL_law_192 : decode cL_law 192 = .ok (.invokevirtual 25, 3) := by decide +kernel
theorem dL_law_195 : decode cL_law 195 = .ok (.aload_n 2, 1) := by decide +kernel
theorem dL_law_196 : decode cL_law 196 = .ok (.aload_n 0, 1) := by decide +kernel
theorem dL_law_197 : decode cL_law 197 = .ok (.iload_n 3, 1) := by decide +kernel
theorem dL_law_198 : decode cL_law 198 = .ok (.iconst 1, 1) := by decide +kernel
theorem dL_law_199 : decode cL_law 199 = .ok (.iadd, 1) := by decide +kernel
theorem dL_law_200 : decode cL_law 200 = .ok (.iaload, 1) := by decide +kernel
theorem dL_law_201 : decode cL_law 201 = .ok (.aload_n 0, 1) := by decide +kernel
theorem dL_law_202 : decode cL_law 202 = .ok (.iload_n 3, 1) := by decide +kernel
theorem dL_law_203 : decode cL_law 203 = .ok (.iconst 2, 1) := by decide +kernel
theorem dL_law_204 : decode cL_law 204 = .ok (.iadd, 1) := by decide +kernel
theorem dL_law_205 : decode cL_law 205 = .ok (.iaload, 1) := by decide +kernel
theorem dL_law_206 : decode cL_law 206 = .ok (.aload_n 0, 1) := by decide +kernel
theorem dL_law_207 : decode cL_law 207 = .ok (.iload_n 3, 1) := by decide +kernel
theorem dL_law_208 : decode cL_law 208 = .ok (.iconst 3, 1) := by decide +kernel
theorem dL_law_209 : decode cL_law 209 = .ok (.iadd, 1) := by decide +kernel
theorem dL_law_210 : decode cL_law 210 = .ok (.iaload, 1) := by decide +kernel
theorem dL_law_211 : decode cL_law 211 = .ok (.i2l, 1) := by decide +kernel
theorem dL_law_212 : decode cL_law 212 = .ok (.bipush 32, 2) := by decide +kernel
theorem dL_law_214 : decode cL_law 214 = .ok (.lshl, 1) := by decide +kernel
theorem dL_law_215 : decode cL_law 215 = .ok (.aload_n 0, 1) := by decide +kernel
theorem dL_law_216 : decode cL_law 216 = .ok (.iload_n 3, 1) := by decide +kernel
theorem dL_law_217 : decode cL_law 217 = .ok (.iconst 4, 1) := by decide +kernel
theorem dL_law_218 : decode cL_law 218 = .ok (.iadd, 1) := by decide +kernel
theorem dL_law_219 : decode cL_law 219 = .ok (.iaload, 1) := by decide +kernel
theorem dL_law_220 : decode cL_law 220 = .ok (.i2l, 1) := by decide +kernel
theorem dL_law_221 : decode cL_law 221 = .ok (.ldc2_w 23, 3) := by decide +kernel
theorem dL_law_224 : decode cL_law 224 = .ok (.land, 1) := by decide +kernel
theorem dL_law_225 : decode cL_law 225 = .ok (.lor, 1) := by decide +kernel
theorem dL_law_226 : decode cL_law 226 = .ok (.aload_n 0, 1) := by decide +kernel
theorem dL_law_227 : decode cL_law 227 = .ok (.iload_n 3, 1) := by decide +kernel
theorem dL_law_228 : decode cL_law 228 = .ok (.iconst 5, 1) := by decide +kernel
theorem dL_law_229 : decode cL_law 229 = .ok (.iadd, 1) := by decide +kernel
theorem dL_law_230 : decode cL_law 230 = .ok (.iaload, 1) := by decide +kernel
theorem dL_law_231 : decode cL_law 231 = .ok (.invokevirtual 29, 3) := by decide +kernel
theorem dL_law_234 : decode cL_law 234 = .ok (.if_icmp .eq 120, 3) := by decide +kernel
theorem dL_law_237 : decode cL_law 237 = .ok (.iconst 0, 1) := by decide +kernel
theorem dL_law_238 : decode cL_law 238 = .ok (.ireturn, 1) := by decide +kernel
theorem dL_law_239 : decode cL_law 239 = .ok (.aload_n 1, 1) := by decide +kernel
theorem dL_law_240 : decode cL_law 240 = .ok (.aload_n 0, 1) := by decide +kernel
theorem dL_law_241 : decode cL_law 241 = .ok (.iload_n 3, 1) := by decide +kernel
theorem dL_law_242 : decode cL_law 242 = .ok (.iconst 1, 1) := by decide +kernel
theorem dL_law_243 : decode cL_law 243 = .ok (.iadd, 1) := by decide +kernel
theorem dL_law_244 : decode cL_law 244 = .ok (.iaload, 1) := by decide +kernel
theorem dL_law_245 : decode cL_law 245 = .ok (.aload_n 0, 1) := by decide +kernel
theorem dL_law_246 : decode cL_law 246 = .ok (.iload_n 3, 1) := by decide +kernel
theorem dL_law_247 : decode cL_law 247 = .ok (.iconst 2, 1) := by decide +kernel
theorem dL_law_248 : decode cL_law 248 = .ok (.iadd, 1) := by decide +kernel
theorem dL_law_249 : decode cL_law 249 = .ok (.iaload, 1) := by decide +kernel
theorem dL_law_250 : decode cL_law 250 = .ok (.invokevirtual 30, 3) := by decide +kernel
theorem dL_law_253 : decode cL_law 253 = .ok (.aload_n 2, 1) := by decide +kernel
theorem dL_law_254 : decode cL_law 254 = .ok (.aload_n 0, 1) := by decide +kernel
theorem dL_law_255 : decode cL_law 255 = .ok (.iload_n 3, 1) := by decide +kernel
theorem dL_law_256 : decode cL_law 256 = .ok (.iconst 1, 1) := by decide +kernel
theorem dL_law_257 : decode cL_law 257 = .ok (.iadd, 1) := by decide +kernel
theorem dL_law_258 : decode cL_law 258 = .ok (.iaload, 1) := by decide +kernel
theorem dL_law_259 : decode cL_law 259 = .ok (.aload_n 0, 1) := by decide +kernel
theorem dL_law_260 : decode cL_law 260 = .ok (.iload_n 3, 1) := by decide +kernel
theorem dL_law_261 : decode cL_law 261 = .ok (.iconst 2, 1) := by decide +kernel
theorem dL_law_262 : decode cL_law 262 = .ok (.iadd, 1) := by decide +kernel
theorem dL_law_263 : decode cL_law 263 = .ok (.iaload, 1) := by decide +kernel
theorem dL_law_264 : decode cL_law 264 = .ok (.invokevirtual 34, 3) := by decide +kernel
theorem dL_law_267 : decode cL_law 267 = .ok (.if_icmp .eq 87, 3) := by decide +kernel
theorem dL_law_270 : decode cL_law 270 = .ok (.iconst 0, 1) := by decide +kernel
theorem dL_law_271 : decode cL_law 271 = .ok (.ireturn, 1) := by decide +kernel
theorem dL_law_272 : decode cL_law 272 = .ok (.aload_n 1, 1) := by decide +kernel
theorem dL_law_273 : decode cL_law 273 = .ok (.aload_n 0, 1) := by decide +kernel
theorem dL_law_274 : decode cL_law 274 = .ok (.iload_n 3, 1) := by decide +kernel
theorem dL_law_275 : decode cL_law 275 = .ok (.iconst 1, 1) := by decide +kernel
theorem dL_law_276 : decode cL_law 276 = .ok (.iadd, 1) := by decide +kernel
theorem dL_law_277 : decode cL_law 277 = .ok (.iaload, 1) := by decide +kernel
theorem dL_law_278 : decode cL_law 278 = .ok (.invokevirtual 35, 3) := by decide +kernel
theorem dL_law_281 : decode cL_law 281 = .ok (.aload_n 2, 1) := by decide +kernel
theorem dL_law_282 : decode cL_law 282 = .ok (.aload_n 0, 1) := by decide +kernel
theorem dL_law_283 : decode cL_law 283 = .ok (.iload_n 3, 1) := by decide +kernel
theorem dL_law_284 : decode cL_law 284 = .ok (.iconst 1, 1) := by decide +kernel
theorem dL_law_285 : decode cL_law 285 = .ok (.iadd, 1) := by decide +kernel
theorem dL_law_286 : decode cL_law 286 = .ok (.iaload, 1) := by decide +kernel
theorem dL_law_287 : decode cL_law 287 = .ok (.invokevirtual 39, 3) := by decide +kernel
theorem dL_law_290 : decode cL_law 290 = .ok (.if_icmp .eq 64, 3) := by decide +kernel
theorem dL_law_293 : decode cL_law 293 = .ok (.iconst 0, 1) := by decide +kernel
theorem dL_law_294 : decode cL_law 294 = .ok (.ireturn, 1) := by decide +kernel
theorem dL_law_295 : decode cL_law 295 = .ok (.aload_n 1, 1) := by decide +kernel
theorem dL_law_296 : decode cL_law 296 = .ok (.aload_n 0, 1) := by decide +kernel
theorem dL_law_297 : decode cL_law 297 = .ok (.iload_n 3, 1) := by decide +kernel
theorem dL_law_298 : decode cL_law 298 = .ok (.iconst 1, 1) := by decide +kernel
theorem dL_law_299 : decode cL_law 299 = .ok (.iadd, 1) := by decide +kernel
theorem dL_law_300 : decode cL_law 300 = .ok (.iaload, 1) := by decide +kernel
theorem dL_law_301 : decode cL_law 301 = .ok (.invokevirtual 40, 3) := by decide +kernel
theorem dL_law_304 : decode cL_law 304 = .ok (.aload_n 2, 1) := by decide +kernel
theorem dL_law_305 : decode cL_law 305 = .ok (.aload_n 0, 1) := by decide +kernel
theorem dL_law_306 : decode cL_law 306 = .ok (.iload_n 3, 1) := by decide +kernel
theorem dL_law_307 : decode cL_law 307 = .ok (.iconst 1, 1) := by decide +kernel
theorem dL_law_308 : decode cL_law 308 = .ok (.iadd, 1) := by decide +kernel
theorem dL_law_309 : decode cL_law 309 = .ok (.iaload, 1) := by decide +kernel
theorem dL_law_310 : decode cL_law 310 = .ok (.invokevirtual 43, 3) := by decide +kernel
theorem dL_law_313 : decode cL_law 313 = .ok (.if_icmp .eq 41, 3) := by decide +kernel
theorem dL_law_316 : decode cL_law 316 = .ok (.iconst 0, 1) := by decide +kernel
theorem dL_law_317 : decode cL_law 317 = .ok (.ireturn, 1) := by decide +kernel
theorem dL_law_318 : decode cL_law 318 = .ok (.aload_n 1, 1) := by decide +kernel
theorem dL_law_319 : decode cL_law 319 = .ok (.aload_n 0, 1) := by decide +kernel
theorem dL_law_320 : decode cL_law 320 = .ok (.iload_n 3, 1) := by decide +kernel
theorem dL_law_321 : decode cL_law 321 = .ok (.iconst 1, 1) := by decide +kernel
theorem dL_law_322 : decode cL_law 322 = .ok (.iadd, 1) := by decide +kernel
theorem dL_law_323 : decode cL_law 323 = .ok (.iaload, 1) := by decide +kernel
theorem dL_law_324 : decode cL_law 324 = .ok (.invokevirtual 44, 3) := by decide +kernel
theorem dL_law_327 : decode cL_law 327 = .ok (.aload_n 2, 1) := by decide +kernel
theorem dL_law_328 : decode cL_law 328 = .ok (.aload_n 0, 1) := by decide +kernel
theorem dL_law_329 : decode cL_law 329 = .ok (.iload_n 3, 1) := by decide +kernel
theorem dL_law_330 : decode cL_law 330 = .ok (.iconst 1, 1) := by decide +kernel
theorem dL_law_331 : decode cL_law 331 = .ok (.iadd, 1) := by decide +kernel
theorem dL_law_332 : decode cL_law 332 = .ok (.iaload, 1) := by decide +kernel
theorem dL_law_333 : decode cL_law 333 = .ok (.invokevirtual 47, 3) := by decide +kernel
theorem dL_law_336 : decode cL_law 336 = .ok (.if_icmp .eq 18, 3) := by decide +kernel
theorem dL_law_339 : decode cL_law 339 = .ok (.iconst 0, 1) := by decide +kernel
theorem dL_law_340 : decode cL_law 340 = .ok (.ireturn, 1) := by decide +kernel
theorem dL_law_341 : decode cL_law 341 = .ok (.aload_n 1, 1) := by decide +kernel
theorem dL_law_342 : decode cL_law 342 = .ok (.invokevirtual 48, 3) := by decide +kernel
theorem dL_law_345 : decode cL_law 345 = .ok (.aload_n 2, 1) := by decide +kernel
theorem dL_law_346 : decode cL_law 346 = .ok (.invokevirtual 52, 3) := by decide +kernel
theorem dL_law_349 : decode cL_law 349 = .ok (.if_icmp .eq 5, 3) := by decide +kernel
theorem dL_law_352 : decode cL_law 352 = .ok (.iconst 0, 1) := by decide +kernel
theorem dL_law_353 : decode cL_law 353 = .ok (.ireturn, 1) := by decide +kernel
theorem dL_law_354 : decode cL_law 354 = .ok (.iinc 3 6, 3) := by decide +kernel
theorem dL_law_357 : decode cL_law 357 = .ok (.goto (-339), 3) := by decide +kernel
theorem dL_law_360 : decode cL_law 360 = .ok (.iconst 1, 1) := by decide +kernel
theorem dL_law_361 : decode cL_law 361 = .ok (.ireturn, 1) := by decide +kernel
end
section
-- ===== the base: the common words, the common premises, calls in one row =====
def es_good (w : Cond) : Bool := (w.onTables && w.keeps) || (match w with | .arrayClass _ => true | _ => false)
def es_T : List Cond := lw_tbl.filter es_good
theorem es_in {w : Cond} (i : Nat) (h : lw_tbl[i]? = some w) (g : es_good w = true) : w ∈ es_T := List.mem_filter.mpr ⟨List.mem_of_getElem? h, g⟩
theorem es_tbl {w : Cond} (h : w ∈ es_T) : w ∈ lw_tbl := (List.mem_filter.mp h).1
theorem es_gd {w : Cond} (h : w ∈ es_T) : (w.onTables && w.keeps) = true ∨ ∃ ty, w = .arrayClass ty := by
  have g := (List.mem_filter.mp h).2
  unfold es_good at g
  cases hq : (w.onTables && w.keeps) with
  | true => exact Or.inl rfl
  | false =>
    rw [hq] at g
    cases w <;> first | exact Or.inr ⟨_, rfl⟩ | (simp at g; done)
theorem es_c {w : Cond} (h : w ∈ es_T) : GoodIn es_T (w :: es_T) := by
  intro x hx
  rcases List.mem_cons.mp hx with rfl | hx
  · exact ⟨h, es_gd h⟩
  · exact ⟨hx, es_gd hx⟩
theorem es_v {own : String} {idx : Nat} {C : String} {y : MethodName} {w : Cond} (h : w ∈ es_T) (h1 : Cond.methodLink own idx y ∈ es_T) (h2 : Cond.instanceMethod y ∈ es_T) (h3 : Cond.selects C y y ∈ es_T) (h4 : Cond.initialized C ∈ es_T) : GoodIn es_T (wsV own idx C y (w :: es_T)) := by
  intro x hx
  unfold wsV at hx
  rcases List.mem_append.mp hx with hx | hx
  · simp only [List.mem_cons, List.not_mem_nil, or_false] at hx
    rcases hx with rfl | rfl | rfl | rfl
    · exact ⟨h1, es_gd h1⟩
    · exact ⟨h2, es_gd h2⟩
    · exact ⟨h3, es_gd h3⟩
    · exact ⟨h4, es_gd h4⟩
  · exact es_c h x hx
theorem es_s {own : String} {idx : Nat} {y : MethodName} {w : Cond} (h : w ∈ es_T) (h1 : Cond.methodLink own idx y ∈ es_T) (h2 : Cond.static y ∈ es_T) (h4 : Cond.initialized own ∈ es_T) : GoodIn es_T (wsS own idx y (w :: es_T)) := by
  intro x hx
  unfold wsS at hx
  rcases List.mem_append.mp hx with hx | hx
  · simp only [List.mem_cons, List.not_mem_nil, or_false] at hx
    rcases hx with rfl | rfl | rfl
    · exact ⟨h1, es_gd h1⟩
    · exact ⟨h2, es_gd h2⟩
    · exact ⟨h4, es_gd h4⟩
  · exact es_c h x hx
theorem es_so {own : String} {idx : Nat} {y : MethodName} {w : Cond} (h : w ∈ es_T) (h1 : Cond.methodLink own idx y ∈ es_T) (h2 : Cond.static y ∈ es_T) (h4 : Cond.initialized y.cls ∈ es_T) : GoodIn es_T (va_wsS own idx y (w :: es_T)) := by
  intro x hx
  unfold va_wsS at hx
  rcases List.mem_append.mp hx with hx | hx
  · simp only [List.mem_cons, List.not_mem_nil, or_false] at hx
    rcases hx with rfl | rfl | rfl
    · exact ⟨h1, es_gd h1⟩
    · exact ⟨h2, es_gd h2⟩
    · exact ⟨h4, es_gd h4⟩
  · exact es_c h x hx
def es_nw (U : State) : Prop := va_Nw (.methodLinkNest RX3 18 yX2_init RX3) U ∧ va_Nw (.methodLinkNest RX3 25 yX0_init RX3) U ∧ va_Nw (.methodLinkNest RX2 29 yX3_unpack RX3) U
theorem es_nw_warm {s U : State} (hW : s.WarmedH U.vm) (h : es_nw s) : es_nw U := ⟨va_Nw.warmM hW h.1, va_Nw.warmM hW h.2.1, va_Nw.warmM hW h.2.2⟩
theorem es_nw_same {u U : State} (e : u.vm = U.vm) (h : es_nw u) : es_nw U := ⟨va_Nw.same rfl e h.1, va_Nw.same rfl e h.2.1, va_Nw.same rfl e h.2.2⟩
/-- what holds in every state: the classes, the class of int arrays, the nest's links -/
def es_K (D : va_G) (cI : ClassId) (U : State) : Prop := va_K D vwCl [(cI, .int)] U ∧ es_nw U
theorem es_K.warm {D : va_G} {cI : ClassId} {s U : State} (hW : s.WarmedH U.vm) (h : es_K D cI s) : es_K D cI U := ⟨va_K.moved hW.alike h.1, es_nw_warm hW h.2⟩
theorem es_K.call {D : va_G} {cI : ClassId} {U : State} {g : JFrame} {mk : MethodId} {a : Array Value} (h : es_K D cI U) : es_K D cI (U.calling g mk a) := ⟨va_K.moved (u := U) (U := U.calling g mk a) (Vm.Alike.refl U.vm) h.1, es_nw_same rfl h.2⟩
/-- a reading method's start -/
abbrev es_R (D : va_G) (cI : ClassId) (ws : va_W) (U : State) : Prop := va_P D vwCl ws U.heap ∧ es_K D cI U
/-- a writing method's start -/
abbrev es_W (D : va_G) (cI : ClassId) (sz : Nat) (ws : va_W) (U : State) : Prop := U.heap.size = sz ∧ va_P D vwCl ws U.heap ∧ es_K D cI U ∧ va_D (fun _ => True) ws
/-- a writing method's end -/
abbrev es_E (D : va_G) (sz : Nat) (ws ws' : va_W) (t : State) : Prop := va_P D vwCl ws' t.heap ∧ va_D (va_A ws sz) ws'
theorem es_RS {D : va_G} {cI : ClassId} {s : State} {H : Heap} {As : List Value} {ws : va_W} (hK : es_K D cI s) (hP : va_P D vwCl ws H) : PreS s H (va_Pc As (es_R D cI ws)) As :=
  ⟨fun _ _ _ _ q => ⟨q.1, q.2.1, q.2.2.call⟩, fun U hU hW => ⟨rfl, by rw [hU]; exact hP, hK.warm hW⟩⟩
theorem es_RV {D : va_G} {cI : ClassId} {s : State} {H : Heap} {b : Nat} {As : List Value} {ws : va_W} {ci : Nat} {q : vw_C} {fs : List Value} (hK : es_K D cI s) (hP : va_P D vwCl ws H) (hc : vwCl[ci]? = some q) (he : ws[0]? = some (b, .inr (ci, fs))) : PreV s H q.1 b (va_Pc (.ref b :: As) (es_R D cI ws)) As :=
  ⟨fun _ _ _ _ q => ⟨q.1, q.2.1, q.2.2.call⟩, va_recv hK.1 hP hc he, fun U hU hW => ⟨rfl, by rw [hU]; exact hP, hK.warm hW⟩⟩
theorem es_WS {D : va_G} {cI : ClassId} {s : State} {H : Heap} {As : List Value} {ws : va_W} {A : Nat → Prop} (hK : es_K D cI s) (hP : va_P D vwCl ws H) (hD : va_D A ws) : PreS s H (va_Pc As (es_W D cI H.size ws)) As :=
  ⟨fun _ _ _ _ q => ⟨q.1, q.2.1, q.2.2.1, q.2.2.2.1.call, q.2.2.2.2⟩, fun U hU hW => ⟨rfl, by rw [hU], by rw [hU]; exact hP, hK.warm hW, hD.weaken (fun _ _ _ _ => trivial)⟩⟩
theorem es_WV {D : va_G} {cI : ClassId} {s : State} {H : Heap} {b : Nat} {As : List Value} {ws : va_W} {A : Nat → Prop} {ci : Nat} {q : vw_C} {fs : List Value} (hK : es_K D cI s) (hP : va_P D vwCl ws H) (hD : va_D A ws) (hc : vwCl[ci]? = some q) (he : ws[0]? = some (b, .inr (ci, fs))) : PreV s H q.1 b (va_Pc (.ref b :: As) (es_W D cI H.size ws)) As :=
  ⟨fun _ _ _ _ q => ⟨q.1, q.2.1, q.2.2.1, q.2.2.2.1.call, q.2.2.2.2⟩, va_recv hK.1 hP hc he, fun U hU hW => ⟨rfl, by rw [hU], by rw [hU]; exact hP, hK.warm hW, hD.weaken (fun _ _ _ _ => trivial)⟩⟩
section ESC
variable {p : Program} {l : Launch} {e : Env} {R : Room} {s : State} {m : MethodId} {args : Array Value} {below : List Frame} {meth : Method} {c : Code} {H : Heap} {locs : List Loc} {cells slots : Nat} {Q : State → Prop}
variable {pc : Nat} {ls : Array Slot} {rest st0 : List Value} {a : Array Value} {A0 : Nat → Prop} {H0 : Heap} {mc ms : Nat}
/-- behind a writing call that answers an int -/
theorem es_ci {S : Type} {post : Int32 → S → Prop} {D : va_G} {ws wc wr : va_W} {w1 : S → va_W}
    (hr : va_Run p l e R s m args below meth c H locs cells slots mc ms (F0 m pc ls st0) rest (va_Qi post (fun u t => es_E D H.size wc (w1 u) t) (va_A wc H.size) a) (va_A wc H.size))
    (hP : va_P D vwCl ws H) (hD : va_D A0 ws) (hS : va_S A0 H0 H locs) (hA : ∀ q, H0.size ≤ q → A0 q) (isC isR : List Nat) (hC : isC.map (fun i => ws[i]?) = wc.map some) (hR : isR.map (fun i => ws[i]?) = wr.map some) (hn : va_nd isR = true) (hdis : ∀ i ∈ isR, i ∉ isC)
    (kk : ∀ (r : Int32) (u : S) (H1 : Heap) (locs1 : List Loc), post r u → va_P D vwCl (wr ++ w1 u) H1 → va_D A0 (wr ++ w1 u) → va_S A0 H0 H1 locs1 → W p l e R s m args below meth c H1 locs1 (cells + mc) (slots + ms) Q (F0 m (pc + 3) ls (.int r :: rest))) : W p l e R s m args below meth c H locs cells slots Q (F0 m pc ls st0) := by
  have hFc := va_free (wc := wc) hD hS hA isC hC
  refine va_calli hr hS (fun q _ h => hFc q h) hFc (fun r u t H1 locs1 ht hvm hw hB hz1 hk1 hS1 => ?_)
  obtain ⟨hP1, hD1⟩ := hB
  rw [ht] at hP1
  obtain ⟨hP2, hD2⟩ := va_join (wr := wr) hP hD isC isR hC hR hn hdis hk1 hFc hP1 hD1
  exact kk r u H1 locs1 hw hP2 hD2 hS1
/-- behind a writing call without an answer -/
theorem es_cv {S : Type} {post : S → Prop} {D : va_G} {ws wc wr : va_W} {w1 : S → va_W}
    (hr : va_Run p l e R s m args below meth c H locs cells slots mc ms (F0 m pc ls st0) rest (va_Qv post (fun u t => es_E D H.size wc (w1 u) t) (va_A wc H.size) a) (va_A wc H.size))
    (hP : va_P D vwCl ws H) (hD : va_D A0 ws) (hS : va_S A0 H0 H locs) (hA : ∀ q, H0.size ≤ q → A0 q) (isC isR : List Nat) (hC : isC.map (fun i => ws[i]?) = wc.map some) (hR : isR.map (fun i => ws[i]?) = wr.map some) (hn : va_nd isR = true) (hdis : ∀ i ∈ isR, i ∉ isC)
    (kk : ∀ (u : S) (H1 : Heap) (locs1 : List Loc), post u → va_P D vwCl (wr ++ w1 u) H1 → va_D A0 (wr ++ w1 u) → va_S A0 H0 H1 locs1 → W p l e R s m args below meth c H1 locs1 (cells + mc) (slots + ms) Q (F0 m (pc + 3) ls rest)) : W p l e R s m args below meth c H locs cells slots Q (F0 m pc ls st0) := by
  have hFc := va_free (wc := wc) hD hS hA isC hC
  refine va_callv hr hS (fun q _ h => hFc q h) hFc (fun u t H1 locs1 ht hvm hw hB hz1 hk1 hS1 => ?_)
  obtain ⟨hP1, hD1⟩ := hB
  rw [ht] at hP1
  obtain ⟨hP2, hD2⟩ := va_join (wr := wr) hP hD isC isR hC hR hn hdis hk1 hFc hP1 hD1
  exact kk u H1 locs1 hw hP2 hD2 hS1
/-- the number on the stack by another name -/
theorem es_top {x y : Int32} (h : x = y) (k : W p l e R s m args below meth c H locs cells slots Q (F0 m pc ls (.int y :: rest))) : W p l e R s m args below meth c H locs cells slots Q (F0 m pc ls (.int x :: rest)) := h ▸ k
theorem es_topl {x y : Int64} (h : x = y) (k : W p l e R s m args below meth c H locs cells slots Q (F0 m pc ls (.long y :: rest))) : W p l e R s m args below meth c H locs cells slots Q (F0 m pc ls (.long x :: rest)) := h ▸ k
variable {cc : ByteArray} {D : va_G} {cl : List vw_C} {A : Nat → Prop} {q : Nat} {tys : List (ClassId × FieldType)} {ws : va_W}
/-- an int array's element at a Nat -/
theorem es_iald (hexec : p.tables.exec = Jvm.exec) (hb : c.code = cc) (hK : va_K D cl tys s) (hP : va_P D cl ws H) (q0 t0 : Nat) {cA : ClassId} {n : Nat} {f : Nat → Int32} (ha : ws[q0]? = some (q, .inl (cA, n, .inl f))) (ht : tys[t0]? = some (cA, .int)) {j : Nat} (hj : j < n) (hn : n < 2 ^ 31) (hdg : decode cc pc = .ok (.iaload, 1))
    (kk : W p l e R s m args below meth c H locs cells slots Q (F0 m (pc + 1) ls (.int (f j) :: rest))) : W p l e R s m args below meth c H locs cells slots Q (F0 m pc ls (.int (nI j) :: .ref q :: rest)) :=
  va_iald hexec hb hK hP q0 t0 ha ht (vp_in_nI hj hn) hdg (by rw [nI_clamp (by omega)]; exact kk)
theorem es_iast (hexec : p.tables.exec = Jvm.exec) (hb : c.code = cc) (hK : va_K D cl tys s) (hP : va_P D cl ws H) (hD : va_D A ws) (hS : va_S A H0 H locs) (q0 t0 : Nat) {cA : ClassId} {n : Nat} {f : Nat → Int32} (ha : ws[q0]? = some (q, .inl (cA, n, .inl f))) (ht : tys[t0]? = some (cA, .int)) {j : Nat} {x : Int32} (hj : j < n) (hn : n < 2 ^ 31) (hdg : decode cc pc = .ok (.iastore, 1))
    (kk : ∀ (H1 : Heap) (locs1 : List Loc), va_P D cl (ws.set q0 (q, .inl (cA, n, .inl (upd f j x)))) H1 → va_D A (ws.set q0 (q, .inl (cA, n, .inl (upd f j x)))) → va_S A H0 H1 locs1 → W p l e R s m args below meth c H1 locs1 cells slots Q (F0 m (pc + 1) ls rest)) : W p l e R s m args below meth c H locs cells slots Q (F0 m pc ls (.int x :: .int (nI j) :: .ref q :: rest)) :=
  va_iast hexec hb hK hP hD hS q0 t0 ha ht (vp_in_nI hj hn) hdg (by rw [nI_clamp (by omega)]; exact kk)
/-- a new int array: its class is the one that we know -/
theorem es_newa {cI : ClassId} (hexec : p.tables.exec = Jvm.exec) (hb : c.code = cc) (harr : (Cond.arrayClass .int).before args s = true) (hK : va_K D vwCl [(cI, .int)] s) (hP : va_P D vwCl ws H) (hD : va_D A ws) (hS : va_S A H0 H locs) (hA : ∀ q, H0.size ≤ q → A q)
    {n : Int32} {N' : Nat} (hn : ¬ n < 0) (hN : n.toNatClampNeg = N') (hcells : cells + 1 ≤ R.cells) (hslots : slots + N' ≤ R.slots) (hbytes : N' * componentBytes .int ≤ 536870912) (hdg : decode cc pc = .ok (.newarray .int, 2))
    (kk : ∀ (q : Nat) (H1 : Heap), va_P D vwCl (ws ++ [(q, .inl (cI, N', .inl (fun _ => 0)))]) H1 → va_D A (ws ++ [(q, .inl (cI, N', .inl (fun _ => 0)))]) → va_S A H0 H1 locs → W p l e R s m args below meth c H1 locs (cells + 1) (slots + N') Q (F0 m (pc + 2) ls (.ref q :: rest))) : W p l e R s m args below meth c H locs cells slots Q (F0 m pc ls (.int n :: rest)) := by
  refine va_newa (atype := .int) (ty := .int) (N' := N') (a0 := (N', .inl (fun _ => 0))) hexec hb harr rfl hK hP hD hS hA (fun cA => rfl) hn hN hbytes hcells hslots hdg (fun q cA H1 hK1 hP1 hD1 hS1 => ?_)
  have e1 : s.vm.findClass ("[" ++ (FieldType.int).toString) = some cI := (hK.2 0 (cI, .int) rfl).2
  have e2 : s.vm.findClass ("[" ++ (FieldType.int).toString) = some cA := (hK1.2 1 (cA, .int) rfl).2
  have e3 : cA = cI := Option.some.inj (e2.symm.trans e1)
  subst e3
  exact kk q H1 hP1 hD1 hS1
end ESC
theorem es_ne {x : Int32} {k : Int32} (h : ¬ x = k) : x.toInt ≠ k.toInt := fun e => h (Int32.toInt_inj.mp e)
theorem es_out4 {x : Int32} (h0 : ¬ x = 0) (h1 : ¬ x = 1) (h2 : ¬ x = 2) (h3 : ¬ x = 3) : x.toInt < 0 ∨ 3 < x.toInt := by
  have a0 := es_ne h0; have a1 := es_ne h1; have a2 := es_ne h2; have a3 := es_ne h3
  simp only [show (0 : Int32).toInt = 0 from rfl, show (1 : Int32).toInt = 1 from rfl, show (2 : Int32).toInt = 2 from rfl, show (3 : Int32).toInt = 3 from rfl] at a0 a1 a2 a3
  omega
theorem es_out7 {x : Int32} (h0 : ¬ x = 0) (h1 : ¬ x = 1) (h2 : ¬ x = 2) (h3 : ¬ x = 3) (h4 : ¬ x = 4) (h5 : ¬ x = 5) (h6 : ¬ x = 6) : x.toInt < 0 ∨ 6 < x.toInt := by
  have a0 := es_ne h0; have a1 := es_ne h1; have a2 := es_ne h2; have a3 := es_ne h3; have a4 := es_ne h4; have a5 := es_ne h5; have a6 := es_ne h6
  simp only [show (0 : Int32).toInt = 0 from rfl, show (1 : Int32).toInt = 1 from rfl, show (2 : Int32).toInt = 2 from rfl, show (3 : Int32).toInt = 3 from rfl, show (4 : Int32).toInt = 4 from rfl, show (5 : Int32).toInt = 5 from rfl, show (6 : Int32).toInt = 6 from rfl] at a0 a1 a2 a3 a4 a5 a6
  omega
/-- rows by their numbers -/
def es_row4 (a b c d : Nat → Int32) : Nat → Nat → Int32 := fun k => match k with | 0 => a | 1 => b | 2 => c | _ => d
theorem iwX0 : ∀ w ∈ u_ws RX0 TX0 5, w ∈ es_T := by decide +kernel
theorem iwX1 : ∀ w ∈ u_ws RX1 TX1 2, w ∈ es_T := by decide +kernel
theorem iwX2 : ∀ w ∈ u_ws RX2 TX2 2, w ∈ es_T := by decide +kernel
theorem iwX3 : ∀ w ∈ u_ws RX3 TX3 7, w ∈ es_T := by decide +kernel
theorem iwX4 : ∀ w ∈ u_ws RX4 TX4 21, w ∈ es_T := by decide +kernel
end
section
/-- an array's contents by another function that agrees -/
theorem es_P_arr {D : va_G} {cl : List vw_C} {A : Nat → Prop} {ws : va_W} {H : Heap} {q : Nat} {cA : ClassId} {n : Nat} {f : Nat → Int32} (hP : va_P D cl ws H) (hD : va_D A ws) (q0 : Nat) (ha : ws[q0]? = some (q, .inl (cA, n, .inl f))) (g : Nat → Int32) (hfg : ∀ j, j < n → f j = g j) : va_P D cl (ws.set q0 (q, .inl (cA, n, .inl g))) H ∧ va_D A (ws.set q0 (q, .inl (cA, n, .inl g))) := by
  refine ⟨hP.set hD ha ?_ (fun _ _ => rfl), hD.set ha⟩
  have h1 : H[q]? = some (vp_cell cA (n, .inl f)) := hP q0 _ ha
  show H[q]? = some (vp_cell cA (n, .inl g))
  rw [h1]
  congr 1
  show arrV cA n (fun j => .int (f j)) = arrV cA n (fun j => .int (g j))
  unfold arrV
  congr 2
  funext j
  exact congrArg Value.int (hfg j.val j.isLt)
theorem es_n0 : (0 : Int32).toInt = 0 := rfl
theorem es_n1 : (1 : Int32).toInt = 1 := rfl
theorem es_nm : (-1 : Int32).toInt = -1 := rfl
theorem es_k0 : (nI 0).toInt = 0 := rfl
theorem es_k1 : (nI 1).toInt = 1 := rfl
theorem es_k9 : (nI 9).toInt = 9 := rfl
theorem es_k10 : (nI 10).toInt = 10 := rfl
theorem es_k15 : (nI 15).toInt = 15 := rfl
theorem es_k16 : (nI 16).toInt = 16 := rfl
theorem es_k20 : (nI 20).toInt = 20 := rfl
theorem es_k99 : (nI 99).toInt = 99 := rfl
theorem es_k100 : (nI 100).toInt = 100 := rfl
theorem es_k400 : (nI 400).toInt = 400 := rfl
theorem es_k401 : (nI 401).toInt = 401 := rfl
theorem es_yes {q n : Nat} (h : q < n) (hn : n < 2 ^ 31) : (if 0 ≤ nI q ∧ nI q < nI n then (1 : Int32) else 0) = nI 1 := by
  rw [if_pos ⟨nI_pos' (by omega), nI_lt h hn⟩]; rfl
theorem es_nom {n : Nat} : (if 0 ≤ (-1 : Int32) ∧ (-1 : Int32) < nI n then (1 : Int32) else 0) = nI 0 := by
  rw [if_neg (fun h => absurd h.1 (by decide))]; rfl
/-- a number that is in range is a Nat -/
theorem es_nat {x : Int32} {n : Nat} (h0 : 0 ≤ x) (h1 : x < nI n) (hn : n < 2 ^ 31) : ∃ j : Nat, j < n ∧ x = nI j := by
  rcases pk_ix x hn with h | h | h
  · exact absurd h (Int32.not_lt.mpr h0)
  · exact absurd h (Int32.not_le.mpr h1)
  · exact h
theorem es_narrow {c : Prop} [Decidable c] : narrow .boolean (.int (if c then (1 : Int32) else 0)) = .int (if c then (1 : Int32) else 0) := by
  split <;> rfl
theorem es_nnm {q : Nat} (h : q < 2 ^ 31) : ¬ nI q = -1 := fun e => by
  have h1 : (nI q).toInt = (-1 : Int32).toInt := by rw [e]
  rw [nI_toInt h, es_nm] at h1
  omega
theorem es_ext {g : Nat → Int32} {i : Nat} {v : Int32} (hg : ∀ j, j < i → g j = v) : ∀ j, j < i + 1 → upd g i v j = v := fun j hj => by
  by_cases e : j = i
  · rw [e]; exact pk_us
  · rw [pk_un e]; exact hg j (by omega)
theorem es_if0 {c : Prop} [Decidable c] (h : (if c then (1 : Int32) else 0) = 0) : ¬ c := fun hc => by
  rw [if_pos hc] at h; exact absurd h (by decide)
theorem es_if1 {c : Prop} [Decidable c] (h : ¬ (if c then (1 : Int32) else 0) = 0) : c := by
  by_cases hc : c
  · exact hc
  · rw [if_neg hc] at h; exact absurd rfl h
theorem es_vin {x : Int32} {n N : Nat} (h : 0 ≤ x ∧ x < nI n) (hn : n ≤ N) (hN : N < 2 ^ 31) : vp_in x N := by
  obtain ⟨j, hj, rfl⟩ := es_nat h.1 h.2 (by omega)
  exact vp_in_nI (by omega) hN
/-- how many tokens there are: a last finding without symbols is the failure -/
def es_tk (F : Nat → Nat → Int32) (n : Nat) : Nat := if 0 < n ∧ F 1 (n - 1) = 0 then n - 1 else n
/-- what an edit needs -/
abbrev es_can (n : Nat) (p o c : Int32) : Prop := 0 ≤ c ∧ c ≤ nI 16 ∧ 0 ≤ p ∧ p ≤ nI n ∧ 0 ≤ o ∧ o ≤ nI n - p ∧ nI n - o + c ≤ nI 400
theorem es_sub_toInt {a b : Nat} (ha : a < 2 ^ 30) (hb : b < 2 ^ 30) : (nI a - nI b).toInt = (a : Int) - b := pk_sub_toInt ha hb
theorem es_can_nat {n : Nat} {p o c : Int32} (hn : n ≤ 400) (h : es_can n p o c) : ∃ p' o' c' : Nat, p = nI p' ∧ o = nI o' ∧ c = nI c' ∧ p' + o' ≤ n ∧ c' ≤ 16 ∧ n - o' + c' ≤ 400 := by
  obtain ⟨h1, h2, h3, h4, h5, h6, h7⟩ := h
  obtain ⟨c', hc, rfl⟩ := nI_of2 (n := 16) rfl (Int32.not_lt.mpr h1) h2
  obtain ⟨p', hp, rfl⟩ := nI_of2 (n := n) (nI_toInt (by omega)) (Int32.not_lt.mpr h3) h4
  rw [pk_sub hp] at h6
  obtain ⟨o', ho, rfl⟩ := nI_of2 (n := n - p') (nI_toInt (by omega)) (Int32.not_lt.mpr h5) h6
  rw [pk_sub (show o' ≤ n by omega), nI_add] at h7
  have h8 := (nI_leI (by omega) (by omega)).mp h7
  exact ⟨p', o', c', rfl, rfl, rfl, by omega, hc, h8⟩
theorem es_can_of {n p o c : Nat} (hn : n ≤ 400) (h1 : p + o ≤ n) (h2 : c ≤ 16) (h3 : n - o + c ≤ 400) : es_can n (nI p) (nI o) (nI c) := by
  refine ⟨nI_pos' (by omega), nI_le h2 (by omega), nI_pos' (by omega), nI_le (by omega) (by omega), nI_pos' (by omega), ?_, ?_⟩
  · rw [pk_sub (by omega)]; exact nI_le (by omega) (by omega)
  · rw [pk_sub (by omega), nI_add]; exact nI_le h3 (by omega)
theorem es_mv {n c o : Nat} (h : o ≤ n) : nI n + (nI c - nI o) = nI (n - o + c) := by
  have e : nI n = nI (n - o) + nI o := by rw [nI_add]; congr 1; omega
  rw [e, Int32.add_assoc, Int32.sub_eq_add_neg, Int32.add_comm (nI c), ← Int32.add_assoc (nI o), Int32.add_right_neg, Int32.zero_add, nI_add]
/-- a digit of the packed symbols -/
def es_dg (sy : Int64) (k : Nat) : Nat := sy.toBitVec.toNat / 2 ^ (4 * k) % 16
theorem es_row_ext {E G : Nat → Nat → Int32} {i : Nat} (h : ∀ a, a < 4 → ∀ j, j < i → E a j = G a j) : ∀ a, a < 4 → ∀ j, j < i + 1 → es_row4 (upd (E 0) i (G 0 i)) (upd (E 1) i (G 1 i)) (upd (E 2) i (G 2 i)) (upd (E 3) i (G 3 i)) a j = G a j := by
  intro a ha j hj
  have key : ∀ a, a < 4 → upd (E a) i (G a i) j = G a j := fun a ha => by
    by_cases e : j = i
    · rw [e]; exact pk_us
    · rw [pk_un e]; exact h a ha j (by omega)
  match a, ha with
  | 0, _ => exact key 0 (by omega)
  | 1, _ => exact key 1 (by omega)
  | 2, _ => exact key 2 (by omega)
  | 3, _ => exact key 3 (by omega)
/-- rows taken over behind n others, begins moved by x -/
def es_mvd (F G E : Nat → Nat → Int32) (n k : Nat) (x : Int32) (i : Nat) : Prop := (∀ a, a < 4 → ∀ j, j < n → E a j = F a j) ∧ ∀ j, j < i → E 0 (n + j) = G 0 (k + j) + x ∧ E 1 (n + j) = G 1 (k + j) ∧ E 2 (n + j) = G 2 (k + j) ∧ E 3 (n + j) = G 3 (k + j)
theorem es_mvd_0 {F G : Nat → Nat → Int32} {n k : Nat} {x : Int32} : es_mvd F G F n k x 0 := ⟨fun _ _ _ _ => rfl, fun _ h => absurd h (Nat.not_lt_zero _)⟩
theorem es_mvd_s {F G E : Nat → Nat → Int32} {n k : Nat} {x : Int32} {i : Nat} (h : es_mvd F G E n k x i) : es_mvd F G (es_row4 (upd (E 0) (n + i) (G 0 (k + i) + x)) (upd (E 1) (n + i) (G 1 (k + i))) (upd (E 2) (n + i) (G 2 (k + i))) (upd (E 3) (n + i) (G 3 (k + i)))) n k x (i + 1) := by
  refine ⟨fun a ha j hj => ?_, fun j hj => ?_⟩
  · have e : j ≠ n + i := by omega
    match a, ha with
    | 0, _ => exact (pk_un e).trans (h.1 0 (by omega) j hj)
    | 1, _ => exact (pk_un e).trans (h.1 1 (by omega) j hj)
    | 2, _ => exact (pk_un e).trans (h.1 2 (by omega) j hj)
    | 3, _ => exact (pk_un e).trans (h.1 3 (by omega) j hj)
  · by_cases e : j = i
    · subst e
      exact ⟨pk_us, pk_us, pk_us, pk_us⟩
    · have e2 : n + j ≠ n + i := by omega
      obtain ⟨h1, h2, h3, h4⟩ := h.2 j (by omega)
      exact ⟨(pk_un e2).trans h1, (pk_un e2).trans h2, (pk_un e2).trans h3, (pk_un e2).trans h4⟩
theorem xw_0 : (.classLink RL 7 RX3 : Cond) ∈ es_T := es_in 18 rfl rfl
theorem xw_1 : (.instantiable RX3 7 : Cond) ∈ es_T := es_in 19 rfl rfl
theorem xw_2 : (.initialized RX3 : Cond) ∈ es_T := es_in 10 rfl rfl
theorem xw_3 : (.code yX3_init cX3_init 1 none : Cond) ∈ es_T := es_in 22 rfl rfl
theorem xw_4 : (.methodLink RL 9 yX3_init : Cond) ∈ es_T := es_in 20 rfl rfl
theorem xw_5 : (.instanceMethod yX3_init : Cond) ∈ es_T := es_in 21 rfl rfl
theorem xw_6 : (.classLink RL 10 RX4 : Cond) ∈ es_T := es_in 271 rfl rfl
theorem xw_7 : (.instantiable RX4 21 : Cond) ∈ es_T := es_in 272 rfl rfl
theorem xw_8 : (.initialized RX4 : Cond) ∈ es_T := es_in 15 rfl rfl
theorem xw_9 : (.code yX4_init cX4_init 1 none : Cond) ∈ es_T := es_in 275 rfl rfl
theorem xw_10 : (.methodLink RL 12 yX4_init : Cond) ∈ es_T := es_in 273 rfl rfl
theorem xw_11 : (.instanceMethod yX4_init : Cond) ∈ es_T := es_in 274 rfl rfl
theorem xw_12 : (.code yX3_arrow cX3_arrow 4 (some .boolean) : Cond) ∈ es_T := es_in 107 rfl rfl
theorem xw_13 : (.methodLink RL 13 yX3_arrow : Cond) ∈ es_T := es_in 104 rfl rfl
theorem xw_14 : (.instanceMethod yX3_arrow : Cond) ∈ es_T := es_in 105 rfl rfl
theorem xw_15 : (.selects RX3 yX3_arrow yX3_arrow : Cond) ∈ es_T := es_in 106 rfl rfl
theorem xw_16 : (.code yX4_arrow cX4_arrow 4 (some .boolean) : Cond) ∈ es_T := es_in 348 rfl rfl
theorem xw_17 : (.methodLink RL 17 yX4_arrow : Cond) ∈ es_T := es_in 345 rfl rfl
theorem xw_18 : (.instanceMethod yX4_arrow : Cond) ∈ es_T := es_in 346 rfl rfl
theorem xw_19 : (.selects RX4 yX4_arrow yX4_arrow : Cond) ∈ es_T := es_in 347 rfl rfl
theorem xw_20 : (.code yX3_kind cX3_kind 3 (some .boolean) : Cond) ∈ es_T := es_in 125 rfl rfl
theorem xw_21 : (.methodLink RL 18 yX3_kind : Cond) ∈ es_T := es_in 122 rfl rfl
theorem xw_22 : (.instanceMethod yX3_kind : Cond) ∈ es_T := es_in 123 rfl rfl
theorem xw_23 : (.selects RX3 yX3_kind yX3_kind : Cond) ∈ es_T := es_in 124 rfl rfl
theorem xw_24 : (.code yX4_kind cX4_kind 3 (some .boolean) : Cond) ∈ es_T := es_in 352 rfl rfl
theorem xw_25 : (.methodLink RL 22 yX4_kind : Cond) ∈ es_T := es_in 349 rfl rfl
theorem xw_26 : (.instanceMethod yX4_kind : Cond) ∈ es_T := es_in 350 rfl rfl
theorem xw_27 : (.selects RX4 yX4_kind yX4_kind : Cond) ∈ es_T := es_in 351 rfl rfl
theorem xw_28 : (.constantLong RL 23 (4294967295 : Int64) : Cond) ∈ es_T := es_in 399 rfl rfl
theorem xw_29 : (.code yX3_edit cX3_edit 8 (some .int) : Cond) ∈ es_T := es_in 133 rfl rfl
theorem xw_30 : (.methodLink RL 25 yX3_edit : Cond) ∈ es_T := es_in 130 rfl rfl
theorem xw_31 : (.instanceMethod yX3_edit : Cond) ∈ es_T := es_in 131 rfl rfl
theorem xw_32 : (.selects RX3 yX3_edit yX3_edit : Cond) ∈ es_T := es_in 132 rfl rfl
theorem xw_33 : (.code yX4_edit cX4_edit 9 (some .int) : Cond) ∈ es_T := es_in 356 rfl rfl
theorem xw_34 : (.methodLink RL 29 yX4_edit : Cond) ∈ es_T := es_in 353 rfl rfl
theorem xw_35 : (.instanceMethod yX4_edit : Cond) ∈ es_T := es_in 354 rfl rfl
theorem xw_36 : (.selects RX4 yX4_edit yX4_edit : Cond) ∈ es_T := es_in 355 rfl rfl
theorem xw_37 : (.code yX3_token cX3_token 3 (some .int) : Cond) ∈ es_T := es_in 224 rfl rfl
theorem xw_38 : (.methodLink RL 30 yX3_token : Cond) ∈ es_T := es_in 221 rfl rfl
theorem xw_39 : (.instanceMethod yX3_token : Cond) ∈ es_T := es_in 222 rfl rfl
theorem xw_40 : (.selects RX3 yX3_token yX3_token : Cond) ∈ es_T := es_in 223 rfl rfl
theorem xw_41 : (.code yX4_token cX4_token 3 (some .int) : Cond) ∈ es_T := es_in 382 rfl rfl
theorem xw_42 : (.methodLink RL 34 yX4_token : Cond) ∈ es_T := es_in 379 rfl rfl
theorem xw_43 : (.instanceMethod yX4_token : Cond) ∈ es_T := es_in 380 rfl rfl
theorem xw_44 : (.selects RX4 yX4_token yX4_token : Cond) ∈ es_T := es_in 381 rfl rfl
theorem xw_45 : (.code yX3_tokenAt cX3_tokenAt 2 (some .int) : Cond) ∈ es_T := es_in 245 rfl rfl
theorem xw_46 : (.methodLink RL 35 yX3_tokenAt : Cond) ∈ es_T := es_in 242 rfl rfl
theorem xw_47 : (.instanceMethod yX3_tokenAt : Cond) ∈ es_T := es_in 243 rfl rfl
theorem xw_48 : (.selects RX3 yX3_tokenAt yX3_tokenAt : Cond) ∈ es_T := es_in 244 rfl rfl
theorem xw_49 : (.code yX4_tokenAt cX4_tokenAt 4 (some .int) : Cond) ∈ es_T := es_in 386 rfl rfl
theorem xw_50 : (.methodLink RL 39 yX4_tokenAt : Cond) ∈ es_T := es_in 383 rfl rfl
theorem xw_51 : (.instanceMethod yX4_tokenAt : Cond) ∈ es_T := es_in 384 rfl rfl
theorem xw_52 : (.selects RX4 yX4_tokenAt yX4_tokenAt : Cond) ∈ es_T := es_in 385 rfl rfl
theorem xw_53 : (.code yX3_symbol cX3_symbol 2 (some .int) : Cond) ∈ es_T := es_in 253 rfl rfl
theorem xw_54 : (.methodLink RL 40 yX3_symbol : Cond) ∈ es_T := es_in 250 rfl rfl
theorem xw_55 : (.instanceMethod yX3_symbol : Cond) ∈ es_T := es_in 251 rfl rfl
theorem xw_56 : (.selects RX3 yX3_symbol yX3_symbol : Cond) ∈ es_T := es_in 252 rfl rfl
theorem xw_57 : (.code yX4_symbol cX4_symbol 2 (some .int) : Cond) ∈ es_T := es_in 390 rfl rfl
theorem xw_58 : (.methodLink RL 43 yX4_symbol : Cond) ∈ es_T := es_in 387 rfl rfl
theorem xw_59 : (.instanceMethod yX4_symbol : Cond) ∈ es_T := es_in 388 rfl rfl
theorem xw_60 : (.selects RX4 yX4_symbol yX4_symbol : Cond) ∈ es_T := es_in 389 rfl rfl
theorem xw_61 : (.code yX3_count cX3_count 2 (some .int) : Cond) ∈ es_T := es_in 257 rfl rfl
theorem xw_62 : (.methodLink RL 44 yX3_count : Cond) ∈ es_T := es_in 254 rfl rfl
theorem xw_63 : (.instanceMethod yX3_count : Cond) ∈ es_T := es_in 255 rfl rfl
theorem xw_64 : (.selects RX3 yX3_count yX3_count : Cond) ∈ es_T := es_in 256 rfl rfl
theorem xw_65 : (.code yX4_count cX4_count 2 (some .int) : Cond) ∈ es_T := es_in 394 rfl rfl
theorem xw_66 : (.methodLink RL 47 yX4_count : Cond) ∈ es_T := es_in 391 rfl rfl
theorem xw_67 : (.instanceMethod yX4_count : Cond) ∈ es_T := es_in 392 rfl rfl
theorem xw_68 : (.selects RX4 yX4_count yX4_count : Cond) ∈ es_T := es_in 393 rfl rfl
theorem xw_69 : (.code yX3_clear cX3_clear 2 (some .int) : Cond) ∈ es_T := es_in 261 rfl rfl
theorem xw_70 : (.methodLink RL 48 yX3_clear : Cond) ∈ es_T := es_in 258 rfl rfl
theorem xw_71 : (.instanceMethod yX3_clear : Cond) ∈ es_T := es_in 259 rfl rfl
theorem xw_72 : (.selects RX3 yX3_clear yX3_clear : Cond) ∈ es_T := es_in 260 rfl rfl
theorem xw_73 : (.code yX4_clear cX4_clear 2 (some .int) : Cond) ∈ es_T := es_in 398 rfl rfl
theorem xw_74 : (.methodLink RL 52 yX4_clear : Cond) ∈ es_T := es_in 395 rfl rfl
theorem xw_75 : (.instanceMethod yX4_clear : Cond) ∈ es_T := es_in 396 rfl rfl
theorem xw_76 : (.selects RX4 yX4_clear yX4_clear : Cond) ∈ es_T := es_in 397 rfl rfl
theorem xw_77 : (.fieldLink RX0 24 "EditedScanner$Findings" "size" "I" : Cond) ∈ es_T := es_in 70 rfl rfl
theorem xw_78 : (.fieldLink RX0 9 "EditedScanner$Findings" "begins" "[I" : Cond) ∈ es_T := es_in 66 rfl rfl
theorem xw_79 : (.fieldLink RX0 15 "EditedScanner$Findings" "lengths" "[I" : Cond) ∈ es_T := es_in 67 rfl rfl
theorem xw_80 : (.fieldLink RX0 18 "EditedScanner$Findings" "kinds" "[I" : Cond) ∈ es_T := es_in 68 rfl rfl
theorem xw_81 : (.fieldLink RX0 21 "EditedScanner$Findings" "looks" "[I" : Cond) ∈ es_T := es_in 69 rfl rfl
theorem xw_82 : (.code yX0_has cX0_has 2 (some .boolean) : Cond) ∈ es_T := es_in 195 rfl rfl
theorem xw_83 : (.initialized RX0 : Cond) ∈ es_T := es_in 14 rfl rfl
theorem xw_84 : (.methodLink RX0 32 yX0_has : Cond) ∈ es_T := es_in 192 rfl rfl
theorem xw_85 : (.instanceMethod yX0_has : Cond) ∈ es_T := es_in 194 rfl rfl
theorem xw_86 : (.selects RX0 yX0_has yX0_has : Cond) ∈ es_T := es_in 1 rfl rfl
theorem xw_87 : (.methodLink RX0 36 Lib.Math.max.name : Cond) ∈ es_T := es_in 185 rfl rfl
theorem xw_88 : (.static Lib.Math.max.name : Cond) ∈ es_T := es_in 186 rfl rfl
theorem xw_89 : (.initialized "java/lang/Math" : Cond) ∈ es_T := es_in 17 rfl rfl
theorem xw_90 : (.code Lib.Math.max.name Lib.Math.max.code 2 (some .int) : Cond) ∈ es_T := es_in 187 rfl rfl
theorem xw_91 : (.methodLink RX0 3 objectInit : Cond) ∈ es_T := es_in 65 rfl rfl
theorem xw_92 : (.instanceMethod objectInit : Cond) ∈ es_T := es_in 24 rfl rfl
theorem xw_93 : (.code objectInit ⟨#[0xb1]⟩ 1 none : Cond) ∈ es_T := es_in 25 rfl rfl
theorem xw_94 : (.arrayClass .int : Cond) ∈ es_T := es_in 46 rfl rfl
theorem xw_95 : (.code yX0_add cX0_add 5 none : Cond) ∈ es_T := es_in 172 rfl rfl
theorem xw_96 : (.methodLink RX0 42 yX0_add : Cond) ∈ es_T := es_in 169 rfl rfl
theorem xw_97 : (.instanceMethod yX0_add : Cond) ∈ es_T := es_in 170 rfl rfl
theorem xw_98 : (.selects RX0 yX0_add yX0_add : Cond) ∈ es_T := es_in 171 rfl rfl
theorem xw_99 : (.code yX0_failed cX0_failed 1 (some .boolean) : Cond) ∈ es_T := es_in 220 rfl rfl
theorem xw_100 : (.methodLink RX0 28 yX0_failed : Cond) ∈ es_T := es_in 229 rfl rfl
theorem xw_101 : (.instanceMethod yX0_failed : Cond) ∈ es_T := es_in 218 rfl rfl
theorem xw_102 : (.selects RX0 yX0_failed yX0_failed : Cond) ∈ es_T := es_in 219 rfl rfl
theorem xw_103 : (.fieldLink RX1 9 "EditedScanner$Table" "arrows" "[I" : Cond) ∈ es_T := es_in 39 rfl rfl
theorem xw_104 : (.code yJ7_fill_53178 cJ7_fill_53178 4 none : Cond) ∈ es_T := es_in 38 rfl rfl
theorem xw_105 : (.initialized RJ7 : Cond) ∈ es_T := es_in 12 rfl rfl
theorem xw_106 : (.methodLink RX1 21 yJ7_fill_53178 : Cond) ∈ es_T := es_in 36 rfl rfl
theorem xw_107 : (.static yJ7_fill_53178 : Cond) ∈ es_T := es_in 37 rfl rfl
theorem xw_108 : (.fieldLink RX1 15 "EditedScanner$Table" "kinds" "[I" : Cond) ∈ es_T := es_in 40 rfl rfl
theorem xw_109 : (.methodLink RX1 3 objectInit : Cond) ∈ es_T := es_in 31 rfl rfl
theorem xw_110 : (.code yX1_forget cX1_forget 1 none : Cond) ∈ es_T := es_in 35 rfl rfl
theorem xw_111 : (.initialized RX1 : Cond) ∈ es_T := es_in 11 rfl rfl
theorem xw_112 : (.methodLink RX1 18 yX1_forget : Cond) ∈ es_T := es_in 32 rfl rfl
theorem xw_113 : (.instanceMethod yX1_forget : Cond) ∈ es_T := es_in 33 rfl rfl
theorem xw_114 : (.selects RX1 yX1_forget yX1_forget : Cond) ∈ es_T := es_in 34 rfl rfl
theorem xw_115 : (.code yX1_isState cX1_isState 1 (some .boolean) : Cond) ∈ es_T := es_in 118 rfl rfl
theorem xw_116 : (.methodLink RX1 27 yX1_isState : Cond) ∈ es_T := es_in 116 rfl rfl
theorem xw_117 : (.static yX1_isState : Cond) ∈ es_T := es_in 117 rfl rfl
theorem xw_118 : (.code yX1_isSymbol cX1_isSymbol 1 (some .boolean) : Cond) ∈ es_T := es_in 121 rfl rfl
theorem xw_119 : (.methodLink RX1 31 yX1_isSymbol : Cond) ∈ es_T := es_in 119 rfl rfl
theorem xw_120 : (.static yX1_isSymbol : Cond) ∈ es_T := es_in 120 rfl rfl
theorem xw_121 : (.fieldLink RX2 15 "EditedScanner$Text" "size" "I" : Cond) ∈ es_T := es_in 54 rfl rfl
theorem xw_122 : (.fieldLink RX2 9 "EditedScanner$Text" "row" "[I" : Cond) ∈ es_T := es_in 53 rfl rfl
theorem xw_123 : (.methodLink RX2 3 objectInit : Cond) ∈ es_T := es_in 52 rfl rfl
theorem xw_124 : (.code yX2_canReplace cX2_canReplace 4 (some .boolean) : Cond) ∈ es_T := es_in 137 rfl rfl
theorem xw_125 : (.initialized RX2 : Cond) ∈ es_T := es_in 13 rfl rfl
theorem xw_126 : (.methodLink RX2 19 yX2_canReplace : Cond) ∈ es_T := es_in 156 rfl rfl
theorem xw_127 : (.instanceMethod yX2_canReplace : Cond) ∈ es_T := es_in 135 rfl rfl
theorem xw_128 : (.selects RX2 yX2_canReplace yX2_canReplace : Cond) ∈ es_T := es_in 136 rfl rfl
theorem xw_129 : (.methodLink RX2 23 arraycopyName : Cond) ∈ es_T := es_in 157 rfl rfl
theorem xw_130 : (.native arraycopyName : Cond) ∈ es_T := es_in 159 rfl rfl
theorem xw_131 : (.static arraycopyName : Cond) ∈ es_T := es_in 158 rfl rfl
theorem xw_132 : (.initialized "java/lang/System" : Cond) ∈ es_T := es_in 16 rfl rfl
theorem xw_133 : (.code yX3_unpack cX3_unpack 4 (some .int) : Cond) ∈ es_T := es_in 143 rfl rfl
theorem xw_134 : (.static yX3_unpack : Cond) ∈ es_T := es_in 142 rfl rfl
theorem xw_135 : (.methodLink RX3 108 yX3_unpack : Cond) ∈ es_T := es_in 141 rfl rfl
theorem xw_136 : (.fieldLink RX3 19 "EditedScanner" "text" "LEditedScanner$Text;" : Cond) ∈ es_T := es_in 83 rfl rfl
theorem xw_137 : (.code yX2_isEmpty cX2_isEmpty 1 (some .boolean) : Cond) ∈ es_T := es_in 111 rfl rfl
theorem xw_138 : (.methodLink RX3 33 yX2_isEmpty : Cond) ∈ es_T := es_in 108 rfl rfl
theorem xw_139 : (.instanceMethod yX2_isEmpty : Cond) ∈ es_T := es_in 109 rfl rfl
theorem xw_140 : (.selects RX2 yX2_isEmpty yX2_isEmpty : Cond) ∈ es_T := es_in 110 rfl rfl
theorem xw_141 : (.fieldLink RX3 10 "EditedScanner" "table" "LEditedScanner$Table;" : Cond) ∈ es_T := es_in 82 rfl rfl
theorem xw_142 : (.code yX1_setArrow cX1_setArrow 4 (some .boolean) : Cond) ∈ es_T := es_in 115 rfl rfl
theorem xw_143 : (.methodLink RX3 37 yX1_setArrow : Cond) ∈ es_T := es_in 112 rfl rfl
theorem xw_144 : (.instanceMethod yX1_setArrow : Cond) ∈ es_T := es_in 113 rfl rfl
theorem xw_145 : (.selects RX1 yX1_setArrow yX1_setArrow : Cond) ∈ es_T := es_in 114 rfl rfl
theorem xw_146 : (.fieldLink RX3 26 "EditedScanner" "found" "LEditedScanner$Findings;" : Cond) ∈ es_T := es_in 84 rfl rfl
theorem xw_147 : (.code yX0_tokens cX0_tokens 1 (some .int) : Cond) ∈ es_T := es_in 228 rfl rfl
theorem xw_148 : (.methodLink RX3 78 yX0_tokens : Cond) ∈ es_T := es_in 225 rfl rfl
theorem xw_149 : (.instanceMethod yX0_tokens : Cond) ∈ es_T := es_in 226 rfl rfl
theorem xw_150 : (.selects RX0 yX0_tokens yX0_tokens : Cond) ∈ es_T := es_in 227 rfl rfl
theorem xw_151 : (.methodLink RX3 103 yX1_forget : Cond) ∈ es_T := es_in 262 rfl rfl
theorem xw_152 : (.code yX2_forget cX2_forget 1 none : Cond) ∈ es_T := es_in 266 rfl rfl
theorem xw_153 : (.methodLink RX3 106 yX2_forget : Cond) ∈ es_T := es_in 263 rfl rfl
theorem xw_154 : (.instanceMethod yX2_forget : Cond) ∈ es_T := es_in 264 rfl rfl
theorem xw_155 : (.selects RX2 yX2_forget yX2_forget : Cond) ∈ es_T := es_in 265 rfl rfl
theorem xw_156 : (.code yX0_forget cX0_forget 1 none : Cond) ∈ es_T := es_in 270 rfl rfl
theorem xw_157 : (.methodLink RX3 107 yX0_forget : Cond) ∈ es_T := es_in 267 rfl rfl
theorem xw_158 : (.instanceMethod yX0_forget : Cond) ∈ es_T := es_in 268 rfl rfl
theorem xw_159 : (.selects RX0 yX0_forget yX0_forget : Cond) ∈ es_T := es_in 269 rfl rfl
theorem xw_160 : (.fieldLink RX3 64 "EditedScanner" "readByLast" "I" : Cond) ∈ es_T := es_in 86 rfl rfl
theorem xw_161 : (.fieldLink RX3 68 "EditedScanner" "scannedByLast" "I" : Cond) ∈ es_T := es_in 87 rfl rfl
theorem xw_162 : (.fieldLink RX3 71 "EditedScanner" "edits" "I" : Cond) ∈ es_T := es_in 88 rfl rfl
theorem xw_163 : (.code yX2_size cX2_size 1 (some .int) : Cond) ∈ es_T := es_in 180 rfl rfl
theorem xw_164 : (.methodLink RX3 99 yX2_size : Cond) ∈ es_T := es_in 177 rfl rfl
theorem xw_165 : (.instanceMethod yX2_size : Cond) ∈ es_T := es_in 178 rfl rfl
theorem xw_166 : (.selects RX2 yX2_size yX2_size : Cond) ∈ es_T := es_in 179 rfl rfl
theorem xw_167 : (.methodLink RX3 100 yX0_failed : Cond) ∈ es_T := es_in 217 rfl rfl
theorem xw_168 : (.code yX0_begin cX0_begin 2 (some .int) : Cond) ∈ es_T := es_in 191 rfl rfl
theorem xw_169 : (.methodLink RX3 81 yX0_begin : Cond) ∈ es_T := es_in 188 rfl rfl
theorem xw_170 : (.instanceMethod yX0_begin : Cond) ∈ es_T := es_in 189 rfl rfl
theorem xw_171 : (.selects RX0 yX0_begin yX0_begin : Cond) ∈ es_T := es_in 190 rfl rfl
theorem xw_172 : (.code yX0_looked cX0_looked 2 (some .int) : Cond) ∈ es_T := es_in 241 rfl rfl
theorem xw_173 : (.methodLink RX3 90 yX0_looked : Cond) ∈ es_T := es_in 238 rfl rfl
theorem xw_174 : (.instanceMethod yX0_looked : Cond) ∈ es_T := es_in 239 rfl rfl
theorem xw_175 : (.selects RX0 yX0_looked yX0_looked : Cond) ∈ es_T := es_in 240 rfl rfl
theorem xw_176 : (.methodLink RX3 45 yX2_canReplace : Cond) ∈ es_T := es_in 134 rfl rfl
theorem xw_177 : (.code yX3_areSymbols cX3_areSymbols 4 (some .boolean) : Cond) ∈ es_T := es_in 140 rfl rfl
theorem xw_178 : (.methodLink RX3 48 yX3_areSymbols : Cond) ∈ es_T := es_in 138 rfl rfl
theorem xw_179 : (.static yX3_areSymbols : Cond) ∈ es_T := es_in 139 rfl rfl
theorem xw_180 : (.code yX0_firstThatLookedAt cX0_firstThatLookedAt 3 (some .int) : Cond) ∈ es_T := es_in 147 rfl rfl
theorem xw_181 : (.methodLink RX3 52 yX0_firstThatLookedAt : Cond) ∈ es_T := es_in 144 rfl rfl
theorem xw_182 : (.instanceMethod yX0_firstThatLookedAt : Cond) ∈ es_T := es_in 145 rfl rfl
theorem xw_183 : (.selects RX0 yX0_firstThatLookedAt yX0_firstThatLookedAt : Cond) ∈ es_T := es_in 146 rfl rfl
theorem xw_184 : (.code yX0_size cX0_size 1 (some .int) : Cond) ∈ es_T := es_in 151 rfl rfl
theorem xw_185 : (.methodLink RX3 56 yX0_size : Cond) ∈ es_T := es_in 148 rfl rfl
theorem xw_186 : (.instanceMethod yX0_size : Cond) ∈ es_T := es_in 149 rfl rfl
theorem xw_187 : (.selects RX0 yX0_size yX0_size : Cond) ∈ es_T := es_in 150 rfl rfl
theorem xw_188 : (.code yX2_replace cX2_replace 7 none : Cond) ∈ es_T := es_in 155 rfl rfl
theorem xw_189 : (.methodLink RX3 60 yX2_replace : Cond) ∈ es_T := es_in 152 rfl rfl
theorem xw_190 : (.instanceMethod yX2_replace : Cond) ∈ es_T := es_in 153 rfl rfl
theorem xw_191 : (.selects RX2 yX2_replace yX2_replace : Cond) ∈ es_T := es_in 154 rfl rfl
theorem xw_192 : (.code yX3_scanAnew cX3_scanAnew 7 none : Cond) ∈ es_T := es_in 164 rfl rfl
theorem xw_193 : (.methodLink RX3 74 yX3_scanAnew : Cond) ∈ es_T := es_in 161 rfl rfl
theorem xw_194 : (.instanceMethod yX3_scanAnew : Cond) ∈ es_T := es_in 163 rfl rfl
theorem xw_195 : (.selects RX3 yX3_scanAnew yX3_scanAnew : Cond) ∈ es_T := es_in 0 rfl rfl
theorem xw_196 : (.methodLink RX3 1 objectInit : Cond) ∈ es_T := es_in 23 rfl rfl
theorem xw_197 : (.classLink RX3 7 RX1 : Cond) ∈ es_T := es_in 26 rfl rfl
theorem xw_198 : (.instantiable RX1 2 : Cond) ∈ es_T := es_in 27 rfl rfl
theorem xw_199 : (.code yX1_init cX1_init 1 none : Cond) ∈ es_T := es_in 30 rfl rfl
theorem xw_200 : (.methodLink RX3 9 yX1_init : Cond) ∈ es_T := es_in 28 rfl rfl
theorem xw_201 : (.instanceMethod yX1_init : Cond) ∈ es_T := es_in 29 rfl rfl
theorem xw_202 : (.classLink RX3 16 RX2 : Cond) ∈ es_T := es_in 47 rfl rfl
theorem xw_203 : (.instantiable RX2 2 : Cond) ∈ es_T := es_in 48 rfl rfl
theorem xw_204 : (.code yX2_init cX2_init 1 none : Cond) ∈ es_T := es_in 51 rfl rfl
theorem xw_205 : (.instanceMethod yX2_init : Cond) ∈ es_T := es_in 50 rfl rfl
theorem xw_206 : (.classLink RX3 23 RX0 : Cond) ∈ es_T := es_in 60 rfl rfl
theorem xw_207 : (.instantiable RX0 5 : Cond) ∈ es_T := es_in 61 rfl rfl
theorem xw_208 : (.code yX0_init cX0_init 1 none : Cond) ∈ es_T := es_in 64 rfl rfl
theorem xw_209 : (.instanceMethod yX0_init : Cond) ∈ es_T := es_in 63 rfl rfl
theorem xw_210 : (.fieldLink RX3 30 "EditedScanner" "spare" "LEditedScanner$Findings;" : Cond) ∈ es_T := es_in 85 rfl rfl
theorem xw_211 : (.code yX1_setKind cX1_setKind 3 (some .boolean) : Cond) ∈ es_T := es_in 129 rfl rfl
theorem xw_212 : (.methodLink RX3 41 yX1_setKind : Cond) ∈ es_T := es_in 126 rfl rfl
theorem xw_213 : (.instanceMethod yX1_setKind : Cond) ∈ es_T := es_in 127 rfl rfl
theorem xw_214 : (.selects RX1 yX1_setKind yX1_setKind : Cond) ∈ es_T := es_in 128 rfl rfl
theorem xw_215 : (.code yX0_takeUpTo cX0_takeUpTo 4 none : Cond) ∈ es_T := es_in 168 rfl rfl
theorem xw_216 : (.methodLink RX3 112 yX0_takeUpTo : Cond) ∈ es_T := es_in 165 rfl rfl
theorem xw_217 : (.instanceMethod yX0_takeUpTo : Cond) ∈ es_T := es_in 166 rfl rfl
theorem xw_218 : (.selects RX0 yX0_takeUpTo yX0_takeUpTo : Cond) ∈ es_T := es_in 167 rfl rfl
theorem xw_219 : (.code yX0_nextBegin cX0_nextBegin 1 (some .int) : Cond) ∈ es_T := es_in 176 rfl rfl
theorem xw_220 : (.methodLink RX3 116 yX0_nextBegin : Cond) ∈ es_T := es_in 173 rfl rfl
theorem xw_221 : (.instanceMethod yX0_nextBegin : Cond) ∈ es_T := es_in 174 rfl rfl
theorem xw_222 : (.selects RX0 yX0_nextBegin yX0_nextBegin : Cond) ∈ es_T := es_in 175 rfl rfl
theorem xw_223 : (.code yX0_firstFrom cX0_firstFrom 4 (some .int) : Cond) ∈ es_T := es_in 184 rfl rfl
theorem xw_224 : (.methodLink RX3 119 yX0_firstFrom : Cond) ∈ es_T := es_in 181 rfl rfl
theorem xw_225 : (.instanceMethod yX0_firstFrom : Cond) ∈ es_T := es_in 182 rfl rfl
theorem xw_226 : (.selects RX0 yX0_firstFrom yX0_firstFrom : Cond) ∈ es_T := es_in 183 rfl rfl
theorem xw_227 : (.code yX0_takeMoved cX0_takeMoved 5 none : Cond) ∈ es_T := es_in 199 rfl rfl
theorem xw_228 : (.methodLink RX3 123 yX0_takeMoved : Cond) ∈ es_T := es_in 196 rfl rfl
theorem xw_229 : (.instanceMethod yX0_takeMoved : Cond) ∈ es_T := es_in 197 rfl rfl
theorem xw_230 : (.selects RX0 yX0_takeMoved yX0_takeMoved : Cond) ∈ es_T := es_in 198 rfl rfl
theorem xw_231 : (.code yX3_scanOne cX3_scanOne 6 none : Cond) ∈ es_T := es_in 203 rfl rfl
theorem xw_232 : (.methodLink RX3 127 yX3_scanOne : Cond) ∈ es_T := es_in 200 rfl rfl
theorem xw_233 : (.instanceMethod yX3_scanOne : Cond) ∈ es_T := es_in 202 rfl rfl
theorem xw_234 : (.selects RX3 yX3_scanOne yX3_scanOne : Cond) ∈ es_T := es_in 2 rfl rfl
theorem xw_235 : (.code yX2_at cX2_at 2 (some .int) : Cond) ∈ es_T := es_in 207 rfl rfl
theorem xw_236 : (.methodLink RX3 96 yX2_at : Cond) ∈ es_T := es_in 204 rfl rfl
theorem xw_237 : (.instanceMethod yX2_at : Cond) ∈ es_T := es_in 205 rfl rfl
theorem xw_238 : (.selects RX2 yX2_at yX2_at : Cond) ∈ es_T := es_in 206 rfl rfl
theorem xw_239 : (.code yX1_next cX1_next 3 (some .int) : Cond) ∈ es_T := es_in 211 rfl rfl
theorem xw_240 : (.methodLink RX3 131 yX1_next : Cond) ∈ es_T := es_in 208 rfl rfl
theorem xw_241 : (.instanceMethod yX1_next : Cond) ∈ es_T := es_in 209 rfl rfl
theorem xw_242 : (.selects RX1 yX1_next yX1_next : Cond) ∈ es_T := es_in 210 rfl rfl
theorem xw_243 : (.code yX1_kindOf cX1_kindOf 2 (some .int) : Cond) ∈ es_T := es_in 215 rfl rfl
theorem xw_244 : (.methodLink RX3 134 yX1_kindOf : Cond) ∈ es_T := es_in 212 rfl rfl
theorem xw_245 : (.instanceMethod yX1_kindOf : Cond) ∈ es_T := es_in 213 rfl rfl
theorem xw_246 : (.selects RX1 yX1_kindOf yX1_kindOf : Cond) ∈ es_T := es_in 214 rfl rfl
theorem xw_247 : (.methodLink RX3 137 yX0_add : Cond) ∈ es_T := es_in 216 rfl rfl
theorem xw_248 : (.code yX0_length cX0_length 2 (some .int) : Cond) ∈ es_T := es_in 233 rfl rfl
theorem xw_249 : (.methodLink RX3 84 yX0_length : Cond) ∈ es_T := es_in 230 rfl rfl
theorem xw_250 : (.instanceMethod yX0_length : Cond) ∈ es_T := es_in 231 rfl rfl
theorem xw_251 : (.selects RX0 yX0_length yX0_length : Cond) ∈ es_T := es_in 232 rfl rfl
theorem xw_252 : (.code yX0_kindFound cX0_kindFound 2 (some .int) : Cond) ∈ es_T := es_in 237 rfl rfl
theorem xw_253 : (.methodLink RX3 87 yX0_kindFound : Cond) ∈ es_T := es_in 234 rfl rfl
theorem xw_254 : (.instanceMethod yX0_kindFound : Cond) ∈ es_T := es_in 235 rfl rfl
theorem xw_255 : (.selects RX0 yX0_kindFound yX0_kindFound : Cond) ∈ es_T := es_in 236 rfl rfl
theorem xw_256 : (.code yX0_tokenAround cX0_tokenAround 3 (some .int) : Cond) ∈ es_T := es_in 249 rfl rfl
theorem xw_257 : (.methodLink RX3 93 yX0_tokenAround : Cond) ∈ es_T := es_in 246 rfl rfl
theorem xw_258 : (.instanceMethod yX0_tokenAround : Cond) ∈ es_T := es_in 247 rfl rfl
theorem xw_259 : (.selects RX0 yX0_tokenAround yX0_tokenAround : Cond) ∈ es_T := es_in 248 rfl rfl
theorem xw_260 : (.fieldLink RX4 41 "EditedScannerModel" "size" "I" : Cond) ∈ es_T := es_in 284 rfl rfl
theorem xw_261 : (.fieldLink RX4 7 "EditedScannerModel" "arrows" "[I" : Cond) ∈ es_T := es_in 281 rfl rfl
theorem xw_262 : (.fieldLink RX4 72 "EditedScannerModel" "oldFailed" "I" : Cond) ∈ es_T := es_in 294 rfl rfl
theorem xw_263 : (.fieldLink RX4 75 "EditedScannerModel" "oldSize" "I" : Cond) ∈ es_T := es_in 295 rfl rfl
theorem xw_264 : (.fieldLink RX4 78 "EditedScannerModel" "oldTokens" "I" : Cond) ∈ es_T := es_in 292 rfl rfl
theorem xw_265 : (.fieldLink RX4 35 "EditedScannerModel" "oldBegins" "[I" : Cond) ∈ es_T := es_in 293 rfl rfl
theorem xw_266 : (.fieldLink RX4 16 "EditedScannerModel" "text" "[I" : Cond) ∈ es_T := es_in 283 rfl rfl
theorem xw_267 : (.constantLong RX4 81 (15 : Int64) : Cond) ∈ es_T := es_in 357 rfl rfl
theorem xw_268 : (.fieldLink RX4 44 "EditedScannerModel" "tokens" "I" : Cond) ∈ es_T := es_in 285 rfl rfl
theorem xw_269 : (.code yX4_forget cX4_forget 2 none : Cond) ∈ es_T := es_in 280 rfl rfl
theorem xw_270 : (.methodLink RX4 38 yX4_forget : Cond) ∈ es_T := es_in 277 rfl rfl
theorem xw_271 : (.instanceMethod yX4_forget : Cond) ∈ es_T := es_in 279 rfl rfl
theorem xw_272 : (.selects RX4 yX4_forget yX4_forget : Cond) ∈ es_T := es_in 3 rfl rfl
theorem xw_273 : (.fieldLink RX4 31 "EditedScannerModel" "failed" "I" : Cond) ∈ es_T := es_in 290 rfl rfl
theorem xw_274 : (.fieldLink RX4 47 "EditedScannerModel" "failedLook" "I" : Cond) ∈ es_T := es_in 291 rfl rfl
theorem xw_275 : (.fieldLink RX4 50 "EditedScannerModel" "read" "I" : Cond) ∈ es_T := es_in 296 rfl rfl
theorem xw_276 : (.fieldLink RX4 53 "EditedScannerModel" "scanned" "I" : Cond) ∈ es_T := es_in 297 rfl rfl
theorem xw_277 : (.fieldLink RX4 56 "EditedScannerModel" "edits" "I" : Cond) ∈ es_T := es_in 298 rfl rfl
theorem xw_278 : (.constantLong RX4 83 (10 : Int64) : Cond) ∈ es_T := es_in 358 rfl rfl
theorem xw_279 : (.fieldLink RX4 19 "EditedScannerModel" "begins" "[I" : Cond) ∈ es_T := es_in 286 rfl rfl
theorem xw_280 : (.fieldLink RX4 28 "EditedScannerModel" "looks" "[I" : Cond) ∈ es_T := es_in 289 rfl rfl
theorem xw_281 : (.code yX4_change cX4_change 8 none : Cond) ∈ es_T := es_in 362 rfl rfl
theorem xw_282 : (.methodLink RX4 85 yX4_change : Cond) ∈ es_T := es_in 359 rfl rfl
theorem xw_283 : (.instanceMethod yX4_change : Cond) ∈ es_T := es_in 361 rfl rfl
theorem xw_284 : (.selects RX4 yX4_change yX4_change : Cond) ∈ es_T := es_in 4 rfl rfl
theorem xw_285 : (.code yX4_goOver cX4_goOver 7 none : Cond) ∈ es_T := es_in 366 rfl rfl
theorem xw_286 : (.methodLink RX4 89 yX4_goOver : Cond) ∈ es_T := es_in 363 rfl rfl
theorem xw_287 : (.instanceMethod yX4_goOver : Cond) ∈ es_T := es_in 365 rfl rfl
theorem xw_288 : (.selects RX4 yX4_goOver yX4_goOver : Cond) ∈ es_T := es_in 5 rfl rfl
theorem xw_289 : (.code yX4_scanAll cX4_scanAll 2 none : Cond) ∈ es_T := es_in 378 rfl rfl
theorem xw_290 : (.methodLink RX4 93 yX4_scanAll : Cond) ∈ es_T := es_in 375 rfl rfl
theorem xw_291 : (.instanceMethod yX4_scanAll : Cond) ∈ es_T := es_in 377 rfl rfl
theorem xw_292 : (.selects RX4 yX4_scanAll yX4_scanAll : Cond) ∈ es_T := es_in 8 rfl rfl
theorem xw_293 : (.fieldLink RX4 13 "EditedScannerModel" "kinds" "[I" : Cond) ∈ es_T := es_in 282 rfl rfl
theorem xw_294 : (.code yX4_began cX4_began 4 (some .boolean) : Cond) ∈ es_T := es_in 370 rfl rfl
theorem xw_295 : (.methodLink RX4 96 yX4_began : Cond) ∈ es_T := es_in 367 rfl rfl
theorem xw_296 : (.instanceMethod yX4_began : Cond) ∈ es_T := es_in 369 rfl rfl
theorem xw_297 : (.selects RX4 yX4_began yX4_began : Cond) ∈ es_T := es_in 6 rfl rfl
theorem xw_298 : (.code yX4_scan cX4_scan 4 (some .boolean) : Cond) ∈ es_T := es_in 374 rfl rfl
theorem xw_299 : (.methodLink RX4 68 yX4_scan : Cond) ∈ es_T := es_in 371 rfl rfl
theorem xw_300 : (.instanceMethod yX4_scan : Cond) ∈ es_T := es_in 373 rfl rfl
theorem xw_301 : (.selects RX4 yX4_scan yX4_scan : Cond) ∈ es_T := es_in 7 rfl rfl
theorem xw_302 : (.fieldLink RX4 65 "EditedScannerModel" "tokenLook" "I" : Cond) ∈ es_T := es_in 301 rfl rfl
theorem xw_303 : (.fieldLink RX4 59 "EditedScannerModel" "tokenSize" "I" : Cond) ∈ es_T := es_in 299 rfl rfl
theorem xw_304 : (.methodLink RX4 1 objectInit : Cond) ∈ es_T := es_in 276 rfl rfl
theorem xw_305 : (.fieldLink RX4 22 "EditedScannerModel" "sizes" "[I" : Cond) ∈ es_T := es_in 287 rfl rfl
theorem xw_306 : (.fieldLink RX4 25 "EditedScannerModel" "sorts" "[I" : Cond) ∈ es_T := es_in 288 rfl rfl
theorem xw_307 : (.fieldLink RX4 62 "EditedScannerModel" "tokenKind" "I" : Cond) ∈ es_T := es_in 300 rfl rfl
theorem k0_X3_init : yX3_init.cls ≠ "java/lang/invoke/MethodHandle" ∧ yX3_init.cls ≠ "java/lang/invoke/VarHandle" ∧ (parseMethodDescriptor yX3_init.desc).map (fun d => d.parameters.length) = some 0 := by decide +kernel
theorem kv_X3_init : yX3_init.cls = RX3 ∧ yX3_init.cls ≠ "java/lang/invoke/MethodHandle" ∧ yX3_init.cls ≠ "java/lang/invoke/VarHandle" ∧ (parseMethodDescriptor yX3_init.desc).map (fun d => d.parameters.length) = some 0 := by decide +kernel
theorem k0_X4_init : yX4_init.cls ≠ "java/lang/invoke/MethodHandle" ∧ yX4_init.cls ≠ "java/lang/invoke/VarHandle" ∧ (parseMethodDescriptor yX4_init.desc).map (fun d => d.parameters.length) = some 0 := by decide +kernel
theorem kv_X4_init : yX4_init.cls = RX4 ∧ yX4_init.cls ≠ "java/lang/invoke/MethodHandle" ∧ yX4_init.cls ≠ "java/lang/invoke/VarHandle" ∧ (parseMethodDescriptor yX4_init.desc).map (fun d => d.parameters.length) = some 0 := by decide +kernel
theorem k0_X3_arrow : yX3_arrow.cls ≠ "java/lang/invoke/MethodHandle" ∧ yX3_arrow.cls ≠ "java/lang/invoke/VarHandle" ∧ (parseMethodDescriptor yX3_arrow.desc).map (fun d => d.parameters.length) = some 3 := by decide +kernel
theorem kv_X3_arrow : yX3_arrow.cls = RX3 ∧ yX3_arrow.cls ≠ "java/lang/invoke/MethodHandle" ∧ yX3_arrow.cls ≠ "java/lang/invoke/VarHandle" ∧ (parseMethodDescriptor yX3_arrow.desc).map (fun d => d.parameters.length) = some 3 := by decide +kernel
theorem k0_X4_arrow : yX4_arrow.cls ≠ "java/lang/invoke/MethodHandle" ∧ yX4_arrow.cls ≠ "java/lang/invoke/VarHandle" ∧ (parseMethodDescriptor yX4_arrow.desc).map (fun d => d.parameters.length) = some 3 := by decide +kernel
theorem kv_X4_arrow : yX4_arrow.cls = RX4 ∧ yX4_arrow.cls ≠ "java/lang/invoke/MethodHandle" ∧ yX4_arrow.cls ≠ "java/lang/invoke/VarHandle" ∧ (parseMethodDescriptor yX4_arrow.desc).map (fun d => d.parameters.length) = some 3 := by decide +kernel
theorem k0_X3_kind : yX3_kind.cls ≠ "java/lang/invoke/MethodHandle" ∧ yX3_kind.cls ≠ "java/lang/invoke/VarHandle" ∧ (parseMethodDescriptor yX3_kind.desc).map (fun d => d.parameters.length) = some 2 := by decide +kernel
theorem kv_X3_kind : yX3_kind.cls = RX3 ∧ yX3_kind.cls ≠ "java/lang/invoke/MethodHandle" ∧ yX3_kind.cls ≠ "java/lang/invoke/VarHandle" ∧ (parseMethodDescriptor yX3_kind.desc).map (fun d => d.parameters.length) = some 2 := by decide +kernel
theorem k0_X4_kind : yX4_kind.cls ≠ "java/lang/invoke/MethodHandle" ∧ yX4_kind.cls ≠ "java/lang/invoke/VarHandle" ∧ (parseMethodDescriptor yX4_kind.desc).map (fun d => d.parameters.length) = some 2 := by decide +kernel
theorem kv_X4_kind : yX4_kind.cls = RX4 ∧ yX4_kind.cls ≠ "java/lang/invoke/MethodHandle" ∧ yX4_kind.cls ≠ "java/lang/invoke/VarHandle" ∧ (parseMethodDescriptor yX4_kind.desc).map (fun d => d.parameters.length) = some 2 := by decide +kernel
theorem k0_X3_edit : yX3_edit.cls ≠ "java/lang/invoke/MethodHandle" ∧ yX3_edit.cls ≠ "java/lang/invoke/VarHandle" ∧ (parseMethodDescriptor yX3_edit.desc).map (fun d => d.parameters.length) = some 4 := by decide +kernel
theorem kv_X3_edit : yX3_edit.cls = RX3 ∧ yX3_edit.cls ≠ "java/lang/invoke/MethodHandle" ∧ yX3_edit.cls ≠ "java/lang/invoke/VarHandle" ∧ (parseMethodDescriptor yX3_edit.desc).map (fun d => d.parameters.length) = some 4 := by decide +kernel
theorem k0_X4_edit : yX4_edit.cls ≠ "java/lang/invoke/MethodHandle" ∧ yX4_edit.cls ≠ "java/lang/invoke/VarHandle" ∧ (parseMethodDescriptor yX4_edit.desc).map (fun d => d.parameters.length) = some 4 := by decide +kernel
theorem kv_X4_edit : yX4_edit.cls = RX4 ∧ yX4_edit.cls ≠ "java/lang/invoke/MethodHandle" ∧ yX4_edit.cls ≠ "java/lang/invoke/VarHandle" ∧ (parseMethodDescriptor yX4_edit.desc).map (fun d => d.parameters.length) = some 4 := by decide +kernel
theorem k0_X3_token : yX3_token.cls ≠ "java/lang/invoke/MethodHandle" ∧ yX3_token.cls ≠ "java/lang/invoke/VarHandle" ∧ (parseMethodDescriptor yX3_token.desc).map (fun d => d.parameters.length) = some 2 := by decide +kernel
theorem kv_X3_token : yX3_token.cls = RX3 ∧ yX3_token.cls ≠ "java/lang/invoke/MethodHandle" ∧ yX3_token.cls ≠ "java/lang/invoke/VarHandle" ∧ (parseMethodDescriptor yX3_token.desc).map (fun d => d.parameters.length) = some 2 := by decide +kernel
theorem k0_X4_token : yX4_token.cls ≠ "java/lang/invoke/MethodHandle" ∧ yX4_token.cls ≠ "java/lang/invoke/VarHandle" ∧ (parseMethodDescriptor yX4_token.desc).map (fun d => d.parameters.length) = some 2 := by decide +kernel
theorem kv_X4_token : yX4_token.cls = RX4 ∧ yX4_token.cls ≠ "java/lang/invoke/MethodHandle" ∧ yX4_token.cls ≠ "java/lang/invoke/VarHandle" ∧ (parseMethodDescriptor yX4_token.desc).map (fun d => d.parameters.length) = some 2 := by decide +kernel
theorem k0_X3_tokenAt : yX3_tokenAt.cls ≠ "java/lang/invoke/MethodHandle" ∧ yX3_tokenAt.cls ≠ "java/lang/invoke/VarHandle" ∧ (parseMethodDescriptor yX3_tokenAt.desc).map (fun d => d.parameters.length) = some 1 := by decide +kernel
theorem kv_X3_tokenAt : yX3_tokenAt.cls = RX3 ∧ yX3_tokenAt.cls ≠ "java/lang/invoke/MethodHandle" ∧ yX3_tokenAt.cls ≠ "java/lang/invoke/VarHandle" ∧ (parseMethodDescriptor yX3_tokenAt.desc).map (fun d => d.parameters.length) = some 1 := by decide +kernel
theorem k0_X4_tokenAt : yX4_tokenAt.cls ≠ "java/lang/invoke/MethodHandle" ∧ yX4_tokenAt.cls ≠ "java/lang/invoke/VarHandle" ∧ (parseMethodDescriptor yX4_tokenAt.desc).map (fun d => d.parameters.length) = some 1 := by decide +kernel
theorem kv_X4_tokenAt : yX4_tokenAt.cls = RX4 ∧ yX4_tokenAt.cls ≠ "java/lang/invoke/MethodHandle" ∧ yX4_tokenAt.cls ≠ "java/lang/invoke/VarHandle" ∧ (parseMethodDescriptor yX4_tokenAt.desc).map (fun d => d.parameters.length) = some 1 := by decide +kernel
theorem k0_X3_symbol : yX3_symbol.cls ≠ "java/lang/invoke/MethodHandle" ∧ yX3_symbol.cls ≠ "java/lang/invoke/VarHandle" ∧ (parseMethodDescriptor yX3_symbol.desc).map (fun d => d.parameters.length) = some 1 := by decide +kernel
theorem kv_X3_symbol : yX3_symbol.cls = RX3 ∧ yX3_symbol.cls ≠ "java/lang/invoke/MethodHandle" ∧ yX3_symbol.cls ≠ "java/lang/invoke/VarHandle" ∧ (parseMethodDescriptor yX3_symbol.desc).map (fun d => d.parameters.length) = some 1 := by decide +kernel
theorem k0_X4_symbol : yX4_symbol.cls ≠ "java/lang/invoke/MethodHandle" ∧ yX4_symbol.cls ≠ "java/lang/invoke/VarHandle" ∧ (parseMethodDescriptor yX4_symbol.desc).map (fun d => d.parameters.length) = some 1 := by decide +kernel
theorem kv_X4_symbol : yX4_symbol.cls = RX4 ∧ yX4_symbol.cls ≠ "java/lang/invoke/MethodHandle" ∧ yX4_symbol.cls ≠ "java/lang/invoke/VarHandle" ∧ (parseMethodDescriptor yX4_symbol.desc).map (fun d => d.parameters.length) = some 1 := by decide +kernel
theorem k0_X3_count : yX3_count.cls ≠ "java/lang/invoke/MethodHandle" ∧ yX3_count.cls ≠ "java/lang/invoke/VarHandle" ∧ (parseMethodDescriptor yX3_count.desc).map (fun d => d.parameters.length) = some 1 := by decide +kernel
theorem kv_X3_count : yX3_count.cls = RX3 ∧ yX3_count.cls ≠ "java/lang/invoke/MethodHandle" ∧ yX3_count.cls ≠ "java/lang/invoke/VarHandle" ∧ (parseMethodDescriptor yX3_count.desc).map (fun d => d.parameters.length) = some 1 := by decide +kernel
theorem k0_X4_count : yX4_count.cls ≠ "java/lang/invoke/MethodHandle" ∧ yX4_count.cls ≠ "java/lang/invoke/VarHandle" ∧ (parseMethodDescriptor yX4_count.desc).map (fun d => d.parameters.length) = some 1 := by decide +kernel
theorem kv_X4_count : yX4_count.cls = RX4 ∧ yX4_count.cls ≠ "java/lang/invoke/MethodHandle" ∧ yX4_count.cls ≠ "java/lang/invoke/VarHandle" ∧ (parseMethodDescriptor yX4_count.desc).map (fun d => d.parameters.length) = some 1 := by decide +kernel
theorem k0_X3_clear : yX3_clear.cls ≠ "java/lang/invoke/MethodHandle" ∧ yX3_clear.cls ≠ "java/lang/invoke/VarHandle" ∧ (parseMethodDescriptor yX3_clear.desc).map (fun d => d.parameters.length) = some 0 := by decide +kernel
theorem kv_X3_clear : yX3_clear.cls = RX3 ∧ yX3_clear.cls ≠ "java/lang/invoke/MethodHandle" ∧ yX3_clear.cls ≠ "java/lang/invoke/VarHandle" ∧ (parseMethodDescriptor yX3_clear.desc).map (fun d => d.parameters.length) = some 0 := by decide +kernel
theorem k0_X4_clear : yX4_clear.cls ≠ "java/lang/invoke/MethodHandle" ∧ yX4_clear.cls ≠ "java/lang/invoke/VarHandle" ∧ (parseMethodDescriptor yX4_clear.desc).map (fun d => d.parameters.length) = some 0 := by decide +kernel
theorem kv_X4_clear : yX4_clear.cls = RX4 ∧ yX4_clear.cls ≠ "java/lang/invoke/MethodHandle" ∧ yX4_clear.cls ≠ "java/lang/invoke/VarHandle" ∧ (parseMethodDescriptor yX4_clear.desc).map (fun d => d.parameters.length) = some 0 := by decide +kernel
theorem k0_X0_has : yX0_has.cls ≠ "java/lang/invoke/MethodHandle" ∧ yX0_has.cls ≠ "java/lang/invoke/VarHandle" ∧ (parseMethodDescriptor yX0_has.desc).map (fun d => d.parameters.length) = some 1 := by decide +kernel
theorem kv_X0_has : yX0_has.cls = RX0 ∧ yX0_has.cls ≠ "java/lang/invoke/MethodHandle" ∧ yX0_has.cls ≠ "java/lang/invoke/VarHandle" ∧ (parseMethodDescriptor yX0_has.desc).map (fun d => d.parameters.length) = some 1 := by decide +kernel
theorem k0_X0_add : yX0_add.cls ≠ "java/lang/invoke/MethodHandle" ∧ yX0_add.cls ≠ "java/lang/invoke/VarHandle" ∧ (parseMethodDescriptor yX0_add.desc).map (fun d => d.parameters.length) = some 4 := by decide +kernel
theorem kv_X0_add : yX0_add.cls = RX0 ∧ yX0_add.cls ≠ "java/lang/invoke/MethodHandle" ∧ yX0_add.cls ≠ "java/lang/invoke/VarHandle" ∧ (parseMethodDescriptor yX0_add.desc).map (fun d => d.parameters.length) = some 4 := by decide +kernel
theorem k0_X0_failed : yX0_failed.cls ≠ "java/lang/invoke/MethodHandle" ∧ yX0_failed.cls ≠ "java/lang/invoke/VarHandle" ∧ (parseMethodDescriptor yX0_failed.desc).map (fun d => d.parameters.length) = some 0 := by decide +kernel
theorem kv_X0_failed : yX0_failed.cls = RX0 ∧ yX0_failed.cls ≠ "java/lang/invoke/MethodHandle" ∧ yX0_failed.cls ≠ "java/lang/invoke/VarHandle" ∧ (parseMethodDescriptor yX0_failed.desc).map (fun d => d.parameters.length) = some 0 := by decide +kernel
theorem k0_J7_fill_53178 : yJ7_fill_53178.cls ≠ "java/lang/invoke/MethodHandle" ∧ yJ7_fill_53178.cls ≠ "java/lang/invoke/VarHandle" ∧ (parseMethodDescriptor yJ7_fill_53178.desc).map (fun d => d.parameters.length) = some 2 := by decide +kernel
theorem kv_J7_fill_53178 : yJ7_fill_53178.cls = RJ7 ∧ yJ7_fill_53178.cls ≠ "java/lang/invoke/MethodHandle" ∧ yJ7_fill_53178.cls ≠ "java/lang/invoke/VarHandle" ∧ (parseMethodDescriptor yJ7_fill_53178.desc).map (fun d => d.parameters.length) = some 2 := by decide +kernel
theorem k0_X1_forget : yX1_forget.cls ≠ "java/lang/invoke/MethodHandle" ∧ yX1_forget.cls ≠ "java/lang/invoke/VarHandle" ∧ (parseMethodDescriptor yX1_forget.desc).map (fun d => d.parameters.length) = some 0 := by decide +kernel
theorem kv_X1_forget : yX1_forget.cls = RX1 ∧ yX1_forget.cls ≠ "java/lang/invoke/MethodHandle" ∧ yX1_forget.cls ≠ "java/lang/invoke/VarHandle" ∧ (parseMethodDescriptor yX1_forget.desc).map (fun d => d.parameters.length) = some 0 := by decide +kernel
theorem k0_X1_isState : yX1_isState.cls ≠ "java/lang/invoke/MethodHandle" ∧ yX1_isState.cls ≠ "java/lang/invoke/VarHandle" ∧ (parseMethodDescriptor yX1_isState.desc).map (fun d => d.parameters.length) = some 1 := by decide +kernel
theorem kv_X1_isState : yX1_isState.cls = RX1 ∧ yX1_isState.cls ≠ "java/lang/invoke/MethodHandle" ∧ yX1_isState.cls ≠ "java/lang/invoke/VarHandle" ∧ (parseMethodDescriptor yX1_isState.desc).map (fun d => d.parameters.length) = some 1 := by decide +kernel
theorem k0_X1_isSymbol : yX1_isSymbol.cls ≠ "java/lang/invoke/MethodHandle" ∧ yX1_isSymbol.cls ≠ "java/lang/invoke/VarHandle" ∧ (parseMethodDescriptor yX1_isSymbol.desc).map (fun d => d.parameters.length) = some 1 := by decide +kernel
theorem kv_X1_isSymbol : yX1_isSymbol.cls = RX1 ∧ yX1_isSymbol.cls ≠ "java/lang/invoke/MethodHandle" ∧ yX1_isSymbol.cls ≠ "java/lang/invoke/VarHandle" ∧ (parseMethodDescriptor yX1_isSymbol.desc).map (fun d => d.parameters.length) = some 1 := by decide +kernel
theorem k0_X2_canReplace : yX2_canReplace.cls ≠ "java/lang/invoke/MethodHandle" ∧ yX2_canReplace.cls ≠ "java/lang/invoke/VarHandle" ∧ (parseMethodDescriptor yX2_canReplace.desc).map (fun d => d.parameters.length) = some 3 := by decide +kernel
theorem kv_X2_canReplace : yX2_canReplace.cls = RX2 ∧ yX2_canReplace.cls ≠ "java/lang/invoke/MethodHandle" ∧ yX2_canReplace.cls ≠ "java/lang/invoke/VarHandle" ∧ (parseMethodDescriptor yX2_canReplace.desc).map (fun d => d.parameters.length) = some 3 := by decide +kernel
theorem k0_X3_unpack : yX3_unpack.cls ≠ "java/lang/invoke/MethodHandle" ∧ yX3_unpack.cls ≠ "java/lang/invoke/VarHandle" ∧ (parseMethodDescriptor yX3_unpack.desc).map (fun d => d.parameters.length) = some 3 := by decide +kernel
theorem kv_X3_unpack : yX3_unpack.cls = RX3 ∧ yX3_unpack.cls ≠ "java/lang/invoke/MethodHandle" ∧ yX3_unpack.cls ≠ "java/lang/invoke/VarHandle" ∧ (parseMethodDescriptor yX3_unpack.desc).map (fun d => d.parameters.length) = some 3 := by decide +kernel
theorem k0_X2_isEmpty : yX2_isEmpty.cls ≠ "java/lang/invoke/MethodHandle" ∧ yX2_isEmpty.cls ≠ "java/lang/invoke/VarHandle" ∧ (parseMethodDescriptor yX2_isEmpty.desc).map (fun d => d.parameters.length) = some 0 := by decide +kernel
theorem kv_X2_isEmpty : yX2_isEmpty.cls = RX2 ∧ yX2_isEmpty.cls ≠ "java/lang/invoke/MethodHandle" ∧ yX2_isEmpty.cls ≠ "java/lang/invoke/VarHandle" ∧ (parseMethodDescriptor yX2_isEmpty.desc).map (fun d => d.parameters.length) = some 0 := by decide +kernel
theorem k0_X1_setArrow : yX1_setArrow.cls ≠ "java/lang/invoke/MethodHandle" ∧ yX1_setArrow.cls ≠ "java/lang/invoke/VarHandle" ∧ (parseMethodDescriptor yX1_setArrow.desc).map (fun d => d.parameters.length) = some 3 := by decide +kernel
theorem kv_X1_setArrow : yX1_setArrow.cls = RX1 ∧ yX1_setArrow.cls ≠ "java/lang/invoke/MethodHandle" ∧ yX1_setArrow.cls ≠ "java/lang/invoke/VarHandle" ∧ (parseMethodDescriptor yX1_setArrow.desc).map (fun d => d.parameters.length) = some 3 := by decide +kernel
theorem k0_X0_tokens : yX0_tokens.cls ≠ "java/lang/invoke/MethodHandle" ∧ yX0_tokens.cls ≠ "java/lang/invoke/VarHandle" ∧ (parseMethodDescriptor yX0_tokens.desc).map (fun d => d.parameters.length) = some 0 := by decide +kernel
theorem kv_X0_tokens : yX0_tokens.cls = RX0 ∧ yX0_tokens.cls ≠ "java/lang/invoke/MethodHandle" ∧ yX0_tokens.cls ≠ "java/lang/invoke/VarHandle" ∧ (parseMethodDescriptor yX0_tokens.desc).map (fun d => d.parameters.length) = some 0 := by decide +kernel
theorem k0_X2_forget : yX2_forget.cls ≠ "java/lang/invoke/MethodHandle" ∧ yX2_forget.cls ≠ "java/lang/invoke/VarHandle" ∧ (parseMethodDescriptor yX2_forget.desc).map (fun d => d.parameters.length) = some 0 := by decide +kernel
theorem kv_X2_forget : yX2_forget.cls = RX2 ∧ yX2_forget.cls ≠ "java/lang/invoke/MethodHandle" ∧ yX2_forget.cls ≠ "java/lang/invoke/VarHandle" ∧ (parseMethodDescriptor yX2_forget.desc).map (fun d => d.parameters.length) = some 0 := by decide +kernel
theorem k0_X0_forget : yX0_forget.cls ≠ "java/lang/invoke/MethodHandle" ∧ yX0_forget.cls ≠ "java/lang/invoke/VarHandle" ∧ (parseMethodDescriptor yX0_forget.desc).map (fun d => d.parameters.length) = some 0 := by decide +kernel
theorem kv_X0_forget : yX0_forget.cls = RX0 ∧ yX0_forget.cls ≠ "java/lang/invoke/MethodHandle" ∧ yX0_forget.cls ≠ "java/lang/invoke/VarHandle" ∧ (parseMethodDescriptor yX0_forget.desc).map (fun d => d.parameters.length) = some 0 := by decide +kernel
theorem k0_X2_size : yX2_size.cls ≠ "java/lang/invoke/MethodHandle" ∧ yX2_size.cls ≠ "java/lang/invoke/VarHandle" ∧ (parseMethodDescriptor yX2_size.desc).map (fun d => d.parameters.length) = some 0 := by decide +kernel
theorem kv_X2_size : yX2_size.cls = RX2 ∧ yX2_size.cls ≠ "java/lang/invoke/MethodHandle" ∧ yX2_size.cls ≠ "java/lang/invoke/VarHandle" ∧ (parseMethodDescriptor yX2_size.desc).map (fun d => d.parameters.length) = some 0 := by decide +kernel
theorem k0_X0_begin : yX0_begin.cls ≠ "java/lang/invoke/MethodHandle" ∧ yX0_begin.cls ≠ "java/lang/invoke/VarHandle" ∧ (parseMethodDescriptor yX0_begin.desc).map (fun d => d.parameters.length) = some 1 := by decide +kernel
theorem kv_X0_begin : yX0_begin.cls = RX0 ∧ yX0_begin.cls ≠ "java/lang/invoke/MethodHandle" ∧ yX0_begin.cls ≠ "java/lang/invoke/VarHandle" ∧ (parseMethodDescriptor yX0_begin.desc).map (fun d => d.parameters.length) = some 1 := by decide +kernel
theorem k0_X0_looked : yX0_looked.cls ≠ "java/lang/invoke/MethodHandle" ∧ yX0_looked.cls ≠ "java/lang/invoke/VarHandle" ∧ (parseMethodDescriptor yX0_looked.desc).map (fun d => d.parameters.length) = some 1 := by decide +kernel
theorem kv_X0_looked : yX0_looked.cls = RX0 ∧ yX0_looked.cls ≠ "java/lang/invoke/MethodHandle" ∧ yX0_looked.cls ≠ "java/lang/invoke/VarHandle" ∧ (parseMethodDescriptor yX0_looked.desc).map (fun d => d.parameters.length) = some 1 := by decide +kernel
theorem k0_X3_areSymbols : yX3_areSymbols.cls ≠ "java/lang/invoke/MethodHandle" ∧ yX3_areSymbols.cls ≠ "java/lang/invoke/VarHandle" ∧ (parseMethodDescriptor yX3_areSymbols.desc).map (fun d => d.parameters.length) = some 2 := by decide +kernel
theorem kv_X3_areSymbols : yX3_areSymbols.cls = RX3 ∧ yX3_areSymbols.cls ≠ "java/lang/invoke/MethodHandle" ∧ yX3_areSymbols.cls ≠ "java/lang/invoke/VarHandle" ∧ (parseMethodDescriptor yX3_areSymbols.desc).map (fun d => d.parameters.length) = some 2 := by decide +kernel
theorem k0_X0_firstThatLookedAt : yX0_firstThatLookedAt.cls ≠ "java/lang/invoke/MethodHandle" ∧ yX0_firstThatLookedAt.cls ≠ "java/lang/invoke/VarHandle" ∧ (parseMethodDescriptor yX0_firstThatLookedAt.desc).map (fun d => d.parameters.length) = some 1 := by decide +kernel
theorem kv_X0_firstThatLookedAt : yX0_firstThatLookedAt.cls = RX0 ∧ yX0_firstThatLookedAt.cls ≠ "java/lang/invoke/MethodHandle" ∧ yX0_firstThatLookedAt.cls ≠ "java/lang/invoke/VarHandle" ∧ (parseMethodDescriptor yX0_firstThatLookedAt.desc).map (fun d => d.parameters.length) = some 1 := by decide +kernel
theorem k0_X0_size : yX0_size.cls ≠ "java/lang/invoke/MethodHandle" ∧ yX0_size.cls ≠ "java/lang/invoke/VarHandle" ∧ (parseMethodDescriptor yX0_size.desc).map (fun d => d.parameters.length) = some 0 := by decide +kernel
theorem kv_X0_size : yX0_size.cls = RX0 ∧ yX0_size.cls ≠ "java/lang/invoke/MethodHandle" ∧ yX0_size.cls ≠ "java/lang/invoke/VarHandle" ∧ (parseMethodDescriptor yX0_size.desc).map (fun d => d.parameters.length) = some 0 := by decide +kernel
theorem k0_X2_replace : yX2_replace.cls ≠ "java/lang/invoke/MethodHandle" ∧ yX2_replace.cls ≠ "java/lang/invoke/VarHandle" ∧ (parseMethodDescriptor yX2_replace.desc).map (fun d => d.parameters.length) = some 4 := by decide +kernel
theorem kv_X2_replace : yX2_replace.cls = RX2 ∧ yX2_replace.cls ≠ "java/lang/invoke/MethodHandle" ∧ yX2_replace.cls ≠ "java/lang/invoke/VarHandle" ∧ (parseMethodDescriptor yX2_replace.desc).map (fun d => d.parameters.length) = some 4 := by decide +kernel
theorem k0_X3_scanAnew : yX3_scanAnew.cls ≠ "java/lang/invoke/MethodHandle" ∧ yX3_scanAnew.cls ≠ "java/lang/invoke/VarHandle" ∧ (parseMethodDescriptor yX3_scanAnew.desc).map (fun d => d.parameters.length) = some 3 := by decide +kernel
theorem kv_X3_scanAnew : yX3_scanAnew.cls = RX3 ∧ yX3_scanAnew.cls ≠ "java/lang/invoke/MethodHandle" ∧ yX3_scanAnew.cls ≠ "java/lang/invoke/VarHandle" ∧ (parseMethodDescriptor yX3_scanAnew.desc).map (fun d => d.parameters.length) = some 3 := by decide +kernel
theorem k0_X1_init : yX1_init.cls ≠ "java/lang/invoke/MethodHandle" ∧ yX1_init.cls ≠ "java/lang/invoke/VarHandle" ∧ (parseMethodDescriptor yX1_init.desc).map (fun d => d.parameters.length) = some 0 := by decide +kernel
theorem kv_X1_init : yX1_init.cls = RX1 ∧ yX1_init.cls ≠ "java/lang/invoke/MethodHandle" ∧ yX1_init.cls ≠ "java/lang/invoke/VarHandle" ∧ (parseMethodDescriptor yX1_init.desc).map (fun d => d.parameters.length) = some 0 := by decide +kernel
theorem k0_X2_init : yX2_init.cls ≠ "java/lang/invoke/MethodHandle" ∧ yX2_init.cls ≠ "java/lang/invoke/VarHandle" ∧ (parseMethodDescriptor yX2_init.desc).map (fun d => d.parameters.length) = some 0 := by decide +kernel
theorem kv_X2_init : yX2_init.cls = RX2 ∧ yX2_init.cls ≠ "java/lang/invoke/MethodHandle" ∧ yX2_init.cls ≠ "java/lang/invoke/VarHandle" ∧ (parseMethodDescriptor yX2_init.desc).map (fun d => d.parameters.length) = some 0 := by decide +kernel
theorem k0_X0_init : yX0_init.cls ≠ "java/lang/invoke/MethodHandle" ∧ yX0_init.cls ≠ "java/lang/invoke/VarHandle" ∧ (parseMethodDescriptor yX0_init.desc).map (fun d => d.parameters.length) = some 0 := by decide +kernel
theorem kv_X0_init : yX0_init.cls = RX0 ∧ yX0_init.cls ≠ "java/lang/invoke/MethodHandle" ∧ yX0_init.cls ≠ "java/lang/invoke/VarHandle" ∧ (parseMethodDescriptor yX0_init.desc).map (fun d => d.parameters.length) = some 0 := by decide +kernel
theorem k0_X1_setKind : yX1_setKind.cls ≠ "java/lang/invoke/MethodHandle" ∧ yX1_setKind.cls ≠ "java/lang/invoke/VarHandle" ∧ (parseMethodDescriptor yX1_setKind.desc).map (fun d => d.parameters.length) = some 2 := by decide +kernel
theorem kv_X1_setKind : yX1_setKind.cls = RX1 ∧ yX1_setKind.cls ≠ "java/lang/invoke/MethodHandle" ∧ yX1_setKind.cls ≠ "java/lang/invoke/VarHandle" ∧ (parseMethodDescriptor yX1_setKind.desc).map (fun d => d.parameters.length) = some 2 := by decide +kernel
theorem k0_X0_takeUpTo : yX0_takeUpTo.cls ≠ "java/lang/invoke/MethodHandle" ∧ yX0_takeUpTo.cls ≠ "java/lang/invoke/VarHandle" ∧ (parseMethodDescriptor yX0_takeUpTo.desc).map (fun d => d.parameters.length) = some 2 := by decide +kernel
theorem kv_X0_takeUpTo : yX0_takeUpTo.cls = RX0 ∧ yX0_takeUpTo.cls ≠ "java/lang/invoke/MethodHandle" ∧ yX0_takeUpTo.cls ≠ "java/lang/invoke/VarHandle" ∧ (parseMethodDescriptor yX0_takeUpTo.desc).map (fun d => d.parameters.length) = some 2 := by decide +kernel
theorem k0_X0_nextBegin : yX0_nextBegin.cls ≠ "java/lang/invoke/MethodHandle" ∧ yX0_nextBegin.cls ≠ "java/lang/invoke/VarHandle" ∧ (parseMethodDescriptor yX0_nextBegin.desc).map (fun d => d.parameters.length) = some 0 := by decide +kernel
theorem kv_X0_nextBegin : yX0_nextBegin.cls = RX0 ∧ yX0_nextBegin.cls ≠ "java/lang/invoke/MethodHandle" ∧ yX0_nextBegin.cls ≠ "java/lang/invoke/VarHandle" ∧ (parseMethodDescriptor yX0_nextBegin.desc).map (fun d => d.parameters.length) = some 0 := by decide +kernel
theorem k0_X0_firstFrom : yX0_firstFrom.cls ≠ "java/lang/invoke/MethodHandle" ∧ yX0_firstFrom.cls ≠ "java/lang/invoke/VarHandle" ∧ (parseMethodDescriptor yX0_firstFrom.desc).map (fun d => d.parameters.length) = some 2 := by decide +kernel
theorem kv_X0_firstFrom : yX0_firstFrom.cls = RX0 ∧ yX0_firstFrom.cls ≠ "java/lang/invoke/MethodHandle" ∧ yX0_firstFrom.cls ≠ "java/lang/invoke/VarHandle" ∧ (parseMethodDescriptor yX0_firstFrom.desc).map (fun d => d.parameters.length) = some 2 := by decide +kernel
theorem k0_X0_takeMoved : yX0_takeMoved.cls ≠ "java/lang/invoke/MethodHandle" ∧ yX0_takeMoved.cls ≠ "java/lang/invoke/VarHandle" ∧ (parseMethodDescriptor yX0_takeMoved.desc).map (fun d => d.parameters.length) = some 3 := by decide +kernel
theorem kv_X0_takeMoved : yX0_takeMoved.cls = RX0 ∧ yX0_takeMoved.cls ≠ "java/lang/invoke/MethodHandle" ∧ yX0_takeMoved.cls ≠ "java/lang/invoke/VarHandle" ∧ (parseMethodDescriptor yX0_takeMoved.desc).map (fun d => d.parameters.length) = some 3 := by decide +kernel
theorem k0_X3_scanOne : yX3_scanOne.cls ≠ "java/lang/invoke/MethodHandle" ∧ yX3_scanOne.cls ≠ "java/lang/invoke/VarHandle" ∧ (parseMethodDescriptor yX3_scanOne.desc).map (fun d => d.parameters.length) = some 1 := by decide +kernel
theorem kv_X3_scanOne : yX3_scanOne.cls = RX3 ∧ yX3_scanOne.cls ≠ "java/lang/invoke/MethodHandle" ∧ yX3_scanOne.cls ≠ "java/lang/invoke/VarHandle" ∧ (parseMethodDescriptor yX3_scanOne.desc).map (fun d => d.parameters.length) = some 1 := by decide +kernel
theorem k0_X2_at : yX2_at.cls ≠ "java/lang/invoke/MethodHandle" ∧ yX2_at.cls ≠ "java/lang/invoke/VarHandle" ∧ (parseMethodDescriptor yX2_at.desc).map (fun d => d.parameters.length) = some 1 := by decide +kernel
theorem kv_X2_at : yX2_at.cls = RX2 ∧ yX2_at.cls ≠ "java/lang/invoke/MethodHandle" ∧ yX2_at.cls ≠ "java/lang/invoke/VarHandle" ∧ (parseMethodDescriptor yX2_at.desc).map (fun d => d.parameters.length) = some 1 := by decide +kernel
theorem k0_X1_next : yX1_next.cls ≠ "java/lang/invoke/MethodHandle" ∧ yX1_next.cls ≠ "java/lang/invoke/VarHandle" ∧ (parseMethodDescriptor yX1_next.desc).map (fun d => d.parameters.length) = some 2 := by decide +kernel
theorem kv_X1_next : yX1_next.cls = RX1 ∧ yX1_next.cls ≠ "java/lang/invoke/MethodHandle" ∧ yX1_next.cls ≠ "java/lang/invoke/VarHandle" ∧ (parseMethodDescriptor yX1_next.desc).map (fun d => d.parameters.length) = some 2 := by decide +kernel
theorem k0_X1_kindOf : yX1_kindOf.cls ≠ "java/lang/invoke/MethodHandle" ∧ yX1_kindOf.cls ≠ "java/lang/invoke/VarHandle" ∧ (parseMethodDescriptor yX1_kindOf.desc).map (fun d => d.parameters.length) = some 1 := by decide +kernel
theorem kv_X1_kindOf : yX1_kindOf.cls = RX1 ∧ yX1_kindOf.cls ≠ "java/lang/invoke/MethodHandle" ∧ yX1_kindOf.cls ≠ "java/lang/invoke/VarHandle" ∧ (parseMethodDescriptor yX1_kindOf.desc).map (fun d => d.parameters.length) = some 1 := by decide +kernel
theorem k0_X0_length : yX0_length.cls ≠ "java/lang/invoke/MethodHandle" ∧ yX0_length.cls ≠ "java/lang/invoke/VarHandle" ∧ (parseMethodDescriptor yX0_length.desc).map (fun d => d.parameters.length) = some 1 := by decide +kernel
theorem kv_X0_length : yX0_length.cls = RX0 ∧ yX0_length.cls ≠ "java/lang/invoke/MethodHandle" ∧ yX0_length.cls ≠ "java/lang/invoke/VarHandle" ∧ (parseMethodDescriptor yX0_length.desc).map (fun d => d.parameters.length) = some 1 := by decide +kernel
theorem k0_X0_kindFound : yX0_kindFound.cls ≠ "java/lang/invoke/MethodHandle" ∧ yX0_kindFound.cls ≠ "java/lang/invoke/VarHandle" ∧ (parseMethodDescriptor yX0_kindFound.desc).map (fun d => d.parameters.length) = some 1 := by decide +kernel
theorem kv_X0_kindFound : yX0_kindFound.cls = RX0 ∧ yX0_kindFound.cls ≠ "java/lang/invoke/MethodHandle" ∧ yX0_kindFound.cls ≠ "java/lang/invoke/VarHandle" ∧ (parseMethodDescriptor yX0_kindFound.desc).map (fun d => d.parameters.length) = some 1 := by decide +kernel
theorem k0_X0_tokenAround : yX0_tokenAround.cls ≠ "java/lang/invoke/MethodHandle" ∧ yX0_tokenAround.cls ≠ "java/lang/invoke/VarHandle" ∧ (parseMethodDescriptor yX0_tokenAround.desc).map (fun d => d.parameters.length) = some 1 := by decide +kernel
theorem kv_X0_tokenAround : yX0_tokenAround.cls = RX0 ∧ yX0_tokenAround.cls ≠ "java/lang/invoke/MethodHandle" ∧ yX0_tokenAround.cls ≠ "java/lang/invoke/VarHandle" ∧ (parseMethodDescriptor yX0_tokenAround.desc).map (fun d => d.parameters.length) = some 1 := by decide +kernel
theorem k0_X4_forget : yX4_forget.cls ≠ "java/lang/invoke/MethodHandle" ∧ yX4_forget.cls ≠ "java/lang/invoke/VarHandle" ∧ (parseMethodDescriptor yX4_forget.desc).map (fun d => d.parameters.length) = some 0 := by decide +kernel
theorem kv_X4_forget : yX4_forget.cls = RX4 ∧ yX4_forget.cls ≠ "java/lang/invoke/MethodHandle" ∧ yX4_forget.cls ≠ "java/lang/invoke/VarHandle" ∧ (parseMethodDescriptor yX4_forget.desc).map (fun d => d.parameters.length) = some 0 := by decide +kernel
theorem k0_X4_change : yX4_change.cls ≠ "java/lang/invoke/MethodHandle" ∧ yX4_change.cls ≠ "java/lang/invoke/VarHandle" ∧ (parseMethodDescriptor yX4_change.desc).map (fun d => d.parameters.length) = some 4 := by decide +kernel
theorem kv_X4_change : yX4_change.cls = RX4 ∧ yX4_change.cls ≠ "java/lang/invoke/MethodHandle" ∧ yX4_change.cls ≠ "java/lang/invoke/VarHandle" ∧ (parseMethodDescriptor yX4_change.desc).map (fun d => d.parameters.length) = some 4 := by decide +kernel
theorem k0_X4_goOver : yX4_goOver.cls ≠ "java/lang/invoke/MethodHandle" ∧ yX4_goOver.cls ≠ "java/lang/invoke/VarHandle" ∧ (parseMethodDescriptor yX4_goOver.desc).map (fun d => d.parameters.length) = some 4 := by decide +kernel
theorem kv_X4_goOver : yX4_goOver.cls = RX4 ∧ yX4_goOver.cls ≠ "java/lang/invoke/MethodHandle" ∧ yX4_goOver.cls ≠ "java/lang/invoke/VarHandle" ∧ (parseMethodDescriptor yX4_goOver.desc).map (fun d => d.parameters.length) = some 4 := by decide +kernel
theorem k0_X4_scanAll : yX4_scanAll.cls ≠ "java/lang/invoke/MethodHandle" ∧ yX4_scanAll.cls ≠ "java/lang/invoke/VarHandle" ∧ (parseMethodDescriptor yX4_scanAll.desc).map (fun d => d.parameters.length) = some 0 := by decide +kernel
theorem kv_X4_scanAll : yX4_scanAll.cls = RX4 ∧ yX4_scanAll.cls ≠ "java/lang/invoke/MethodHandle" ∧ yX4_scanAll.cls ≠ "java/lang/invoke/VarHandle" ∧ (parseMethodDescriptor yX4_scanAll.desc).map (fun d => d.parameters.length) = some 0 := by decide +kernel
theorem k0_X4_began : yX4_began.cls ≠ "java/lang/invoke/MethodHandle" ∧ yX4_began.cls ≠ "java/lang/invoke/VarHandle" ∧ (parseMethodDescriptor yX4_began.desc).map (fun d => d.parameters.length) = some 1 := by decide +kernel
theorem kv_X4_began : yX4_began.cls = RX4 ∧ yX4_began.cls ≠ "java/lang/invoke/MethodHandle" ∧ yX4_began.cls ≠ "java/lang/invoke/VarHandle" ∧ (parseMethodDescriptor yX4_began.desc).map (fun d => d.parameters.length) = some 1 := by decide +kernel
theorem k0_X4_scan : yX4_scan.cls ≠ "java/lang/invoke/MethodHandle" ∧ yX4_scan.cls ≠ "java/lang/invoke/VarHandle" ∧ (parseMethodDescriptor yX4_scan.desc).map (fun d => d.parameters.length) = some 1 := by decide +kernel
theorem kv_X4_scan : yX4_scan.cls = RX4 ∧ yX4_scan.cls ≠ "java/lang/invoke/MethodHandle" ∧ yX4_scan.cls ≠ "java/lang/invoke/VarHandle" ∧ (parseMethodDescriptor yX4_scan.desc).map (fun d => d.parameters.length) = some 1 := by decide +kernel
end
section
set_option maxHeartbeats 1000000 in
set_option maxRecDepth 100000 in
/-- X1.isState  -/
theorem c_X1_isState (l : Launch) (D : va_G) (cI : ClassId) (x : Int32)  : Met l yX1_isState (Cond.code yX1_isState cX1_isState 1 (some .boolean) :: es_T) { frames := 0, cells := 0, slots := 0, locals := 0 } (va_Pc [.int x] (es_R D cI [])) (vp_Si (fun r => r = if 0 ≤ x ∧ x < nI 20 then (1 : Int32) else 0)) 0 0 (fun _ => False) := by
  refine Met.ofW (cc := cX1_isState) (maxL := 1) (ret := (some .boolean)) (by decide) rfl ?_
  intro p e s m args below meth c s₁ B hml hv
  obtain ⟨rfl, hP, hK⟩ := hv
  have hx := B.exec
  have hb := B.bytes
  have hr := B.returns
  have hts := atoms_spec (ws := (Cond.code yX1_isState cX1_isState 1 (some .boolean) :: es_T)) B.pre
  have hw : ∀ w ∈ es_T, w.before _ s = true := fun w h => hts w (List.mem_cons_of_mem _ h)
  have hown : s.vm.findClass RX1 = some m.cls := findClass_of_methodNamed B.named
  have hlocks := B.notSynchronized
  have hRm : 0 ≤ (headSpec (Cond.code yX1_isState cX1_isState 1 (some .boolean) :: es_T) { frames := 0, cells := 0, slots := 0, locals := 0 }).room.frames ∧ 0 ≤ (headSpec (Cond.code yX1_isState cX1_isState 1 (some .boolean) :: es_T) { frames := 0, cells := 0, slots := 0, locals := 0 }).room.locals := ⟨Nat.le_refl _, Nat.le_refl _⟩
  have hRc : 0 ≤ (headSpec (Cond.code yX1_isState cX1_isState 1 (some .boolean) :: es_T) { frames := 0, cells := 0, slots := 0, locals := 0 }).room.cells ∧ 0 ≤ (headSpec (Cond.code yX1_isState cX1_isState 1 (some .boolean) :: es_T) { frames := 0, cells := 0, slots := 0, locals := 0 }).room.slots := ⟨Nat.le_refl _, Nat.le_refl _⟩
  have hl := lv_entry ([.int x]) (n := 1) (Nat.le_of_ble_eq_true rfl)
  rw [lg_entry_eq]
  generalize (lg_sl ([.int x]) ++ List.replicate (1 - (lg_sl ([.int x])).length) Slot.unset).toArray = ls at hl ⊢
  have hl : lv_has ls 1 [(0, .int x)] := hl
  refine lv_iload_n hx hb dX1_isState_0 rfl (lv_at hl 0 rfl) ?_
  refine lv_if_lt (tgt := 14) hx hb dX1_isState_1 (by decide) (fun c_1 => ?_) (fun c_1 => ?_)
  ·
    refine lv_iconst (v := nI 0) hx hb dX1_isState_14 (by decide) ?_
    exact W.zret (v := nI 0) hx hb hr rfl (fun zt ht hW => ⟨_, rfl, (by show _ = _; first | (rw [if_pos ⟨Int32.not_lt.mp c_1, Int32.not_le.mp c_7⟩]; rfl) | (rw [if_neg (fun h => absurd c_1 (Int32.not_lt.mpr h.1))]; rfl) | (rw [if_neg (fun h => absurd h.2 (Int32.not_lt.mpr c_7))]; rfl)), ht⟩) (fun _ h => by cases h) dX1_isState_15
  ·
    refine lv_iload_n hx hb dX1_isState_4 rfl (lv_at hl 0 rfl) ?_
    refine lv_bipush (v := nI 20) hx hb dX1_isState_5 (by decide) ?_
    refine lv_icmp_ge (tgt := 14) hx hb dX1_isState_7 (by decide) (fun c_7 => ?_) (fun c_7 => ?_)
    ·
      refine lv_iconst (v := nI 0) hx hb dX1_isState_14 (by decide) ?_
      exact W.zret (v := nI 0) hx hb hr rfl (fun zt ht hW => ⟨_, rfl, (by show _ = _; first | (rw [if_pos ⟨Int32.not_lt.mp c_1, Int32.not_le.mp c_7⟩]; rfl) | (rw [if_neg (fun h => absurd c_1 (Int32.not_lt.mpr h.1))]; rfl) | (rw [if_neg (fun h => absurd h.2 (Int32.not_lt.mpr c_7))]; rfl)), ht⟩) (fun _ h => by cases h) dX1_isState_15
    ·
      refine lv_iconst (v := nI 1) hx hb dX1_isState_10 (by decide) ?_
      refine lv_goto (tgt := 15) hx hb dX1_isState_11 (by decide) ?_
      exact W.zret (v := nI 1) hx hb hr rfl (fun zt ht hW => ⟨_, rfl, (by show _ = _; first | (rw [if_pos ⟨Int32.not_lt.mp c_1, Int32.not_le.mp c_7⟩]; rfl) | (rw [if_neg (fun h => absurd c_1 (Int32.not_lt.mpr h.1))]; rfl) | (rw [if_neg (fun h => absurd h.2 (Int32.not_lt.mpr c_7))]; rfl)), ht⟩) (fun _ h => by cases h) dX1_isState_15
set_option maxHeartbeats 1000000 in
set_option maxRecDepth 100000 in
/-- X1.isSymbol  -/
theorem c_X1_isSymbol (l : Launch) (D : va_G) (cI : ClassId) (x : Int32)  : Met l yX1_isSymbol (Cond.code yX1_isSymbol cX1_isSymbol 1 (some .boolean) :: es_T) { frames := 0, cells := 0, slots := 0, locals := 0 } (va_Pc [.int x] (es_R D cI [])) (vp_Si (fun r => r = if 0 ≤ x ∧ x < nI 10 then (1 : Int32) else 0)) 0 0 (fun _ => False) := by
  refine Met.ofW (cc := cX1_isSymbol) (maxL := 1) (ret := (some .boolean)) (by decide) rfl ?_
  intro p e s m args below meth c s₁ B hml hv
  obtain ⟨rfl, hP, hK⟩ := hv
  have hx := B.exec
  have hb := B.bytes
  have hr := B.returns
  have hts := atoms_spec (ws := (Cond.code yX1_isSymbol cX1_isSymbol 1 (some .boolean) :: es_T)) B.pre
  have hw : ∀ w ∈ es_T, w.before _ s = true := fun w h => hts w (List.mem_cons_of_mem _ h)
  have hown : s.vm.findClass RX1 = some m.cls := findClass_of_methodNamed B.named
  have hlocks := B.notSynchronized
  have hRm : 0 ≤ (headSpec (Cond.code yX1_isSymbol cX1_isSymbol 1 (some .boolean) :: es_T) { frames := 0, cells := 0, slots := 0, locals := 0 }).room.frames ∧ 0 ≤ (headSpec (Cond.code yX1_isSymbol cX1_isSymbol 1 (some .boolean) :: es_T) { frames := 0, cells := 0, slots := 0, locals := 0 }).room.locals := ⟨Nat.le_refl _, Nat.le_refl _⟩
  have hRc : 0 ≤ (headSpec (Cond.code yX1_isSymbol cX1_isSymbol 1 (some .boolean) :: es_T) { frames := 0, cells := 0, slots := 0, locals := 0 }).room.cells ∧ 0 ≤ (headSpec (Cond.code yX1_isSymbol cX1_isSymbol 1 (some .boolean) :: es_T) { frames := 0, cells := 0, slots := 0, locals := 0 }).room.slots := ⟨Nat.le_refl _, Nat.le_refl _⟩
  have hl := lv_entry ([.int x]) (n := 1) (Nat.le_of_ble_eq_true rfl)
  rw [lg_entry_eq]
  generalize (lg_sl ([.int x]) ++ List.replicate (1 - (lg_sl ([.int x])).length) Slot.unset).toArray = ls at hl ⊢
  have hl : lv_has ls 1 [(0, .int x)] := hl
  refine lv_iload_n hx hb dX1_isSymbol_0 rfl (lv_at hl 0 rfl) ?_
  refine lv_if_lt (tgt := 14) hx hb dX1_isSymbol_1 (by decide) (fun c_1 => ?_) (fun c_1 => ?_)
  ·
    refine lv_iconst (v := nI 0) hx hb dX1_isSymbol_14 (by decide) ?_
    exact W.zret (v := nI 0) hx hb hr rfl (fun zt ht hW => ⟨_, rfl, (by show _ = _; first | (rw [if_pos ⟨Int32.not_lt.mp c_1, Int32.not_le.mp c_7⟩]; rfl) | (rw [if_neg (fun h => absurd c_1 (Int32.not_lt.mpr h.1))]; rfl) | (rw [if_neg (fun h => absurd h.2 (Int32.not_lt.mpr c_7))]; rfl)), ht⟩) (fun _ h => by cases h) dX1_isSymbol_15
  ·
    refine lv_iload_n hx hb dX1_isSymbol_4 rfl (lv_at hl 0 rfl) ?_
    refine lv_bipush (v := nI 10) hx hb dX1_isSymbol_5 (by decide) ?_
    refine lv_icmp_ge (tgt := 14) hx hb dX1_isSymbol_7 (by decide) (fun c_7 => ?_) (fun c_7 => ?_)
    ·
      refine lv_iconst (v := nI 0) hx hb dX1_isSymbol_14 (by decide) ?_
      exact W.zret (v := nI 0) hx hb hr rfl (fun zt ht hW => ⟨_, rfl, (by show _ = _; first | (rw [if_pos ⟨Int32.not_lt.mp c_1, Int32.not_le.mp c_7⟩]; rfl) | (rw [if_neg (fun h => absurd c_1 (Int32.not_lt.mpr h.1))]; rfl) | (rw [if_neg (fun h => absurd h.2 (Int32.not_lt.mpr c_7))]; rfl)), ht⟩) (fun _ h => by cases h) dX1_isSymbol_15
    ·
      refine lv_iconst (v := nI 1) hx hb dX1_isSymbol_10 (by decide) ?_
      refine lv_goto (tgt := 15) hx hb dX1_isSymbol_11 (by decide) ?_
      exact W.zret (v := nI 1) hx hb hr rfl (fun zt ht hW => ⟨_, rfl, (by show _ = _; first | (rw [if_pos ⟨Int32.not_lt.mp c_1, Int32.not_le.mp c_7⟩]; rfl) | (rw [if_neg (fun h => absurd c_1 (Int32.not_lt.mpr h.1))]; rfl) | (rw [if_neg (fun h => absurd h.2 (Int32.not_lt.mpr c_7))]; rfl)), ht⟩) (fun _ h => by cases h) dX1_isSymbol_15
set_option maxHeartbeats 1000000 in
set_option maxRecDepth 100000 in
/-- X1.next  -/
theorem c_X1_next (l : Launch) (D : va_G) (cI : ClassId) (tb : Nat) (a : Nat) (k : Nat) (ar : Nat → Int32) (ki : Nat → Int32) (q : Nat) (y : Int32) (hq : q < 20) (hy : y = -1 ∨ ∃ s : Nat, s < 10 ∧ y = nI s) : Met l yX1_next (Cond.code yX1_next cX1_next 3 (some .int) :: es_T) { frames := 1, cells := 0, slots := 0, locals := 20 } (va_Pc [.ref tb, .int (nI q), .int y] (es_R D cI [(tb, .inr (1, [.ref a, .ref k])), (a, .inl (cI, 200, .inl ar)), (k, .inl (cI, 20, .inl ki))])) (vp_Si (fun r => r = if y = -1 then -1 else ar (10 * q + y.toNatClampNeg))) 0 0 (fun _ => False) := by
  refine Met.ofW (cc := cX1_next) (maxL := 3) (ret := (some .int)) (by decide) rfl ?_
  intro p e s m args below meth c s₁ B hml hv
  obtain ⟨rfl, hP, hK⟩ := hv
  have hx := B.exec
  have hb := B.bytes
  have hr := B.returns
  have hts := atoms_spec (ws := (Cond.code yX1_next cX1_next 3 (some .int) :: es_T)) B.pre
  have hw : ∀ w ∈ es_T, w.before _ s = true := fun w h => hts w (List.mem_cons_of_mem _ h)
  have hown : s.vm.findClass RX1 = some m.cls := findClass_of_methodNamed B.named
  have hlocks := B.notSynchronized
  have hRm : 1 ≤ (headSpec (Cond.code yX1_next cX1_next 3 (some .int) :: es_T) { frames := 1, cells := 0, slots := 0, locals := 20 }).room.frames ∧ 20 ≤ (headSpec (Cond.code yX1_next cX1_next 3 (some .int) :: es_T) { frames := 1, cells := 0, slots := 0, locals := 20 }).room.locals := ⟨Nat.le_refl _, Nat.le_refl _⟩
  have hRc : 0 ≤ (headSpec (Cond.code yX1_next cX1_next 3 (some .int) :: es_T) { frames := 1, cells := 0, slots := 0, locals := 20 }).room.cells ∧ 0 ≤ (headSpec (Cond.code yX1_next cX1_next 3 (some .int) :: es_T) { frames := 1, cells := 0, slots := 0, locals := 20 }).room.slots := ⟨Nat.le_refl _, Nat.le_refl _⟩
  have hl := lv_entry ([.ref tb, .int (nI q), .int y]) (n := 3) (Nat.le_of_ble_eq_true rfl)
  rw [lg_entry_eq]
  generalize (lg_sl ([.ref tb, .int (nI q), .int y]) ++ List.replicate (3 - (lg_sl ([.ref tb, .int (nI q), .int y])).length) Slot.unset).toArray = ls at hl ⊢
  have hl : lv_has ls 3 [(0, .ref tb), (1, .int (nI q)), (2, .int y)] := hl
  rcases hy with rfl | ⟨s0, hs0, rfl⟩
  ·
    refine lv_iload_n hx hb dX1_next_0 rfl (lv_at hl 1 rfl) ?_
    refine vp_callSi (va_Run.run (va_runS (As := [.int (nI q)]) (rest := []) ⟨hx, hb, hml, hown, hw⟩ (c_X1_isState l D cI (nI q) ) (cwS 1 hw (es_s xw_115 xw_116 xw_117 xw_111) rfl rfl rfl kv_X1_isState ⟨Nat.le_trans (Nat.le_of_ble_eq_true rfl) hRm.1, Nat.le_trans (Nat.le_of_ble_eq_true rfl) hRm.2⟩) (es_RS hK (hP.sub (ws' := []) [] rfl)) rfl rfl hl.1 rfl (lv_room (Nat.le_of_ble_eq_true rfl)) dX1_next_1 ⟨(Nat.zero_le _), (Nat.zero_le _)⟩)) (fun r_1 er_1 => ?_)
    obtain rfl : r_1 = if 0 ≤ (nI q) ∧ (nI q) < nI 20 then (1 : Int32) else 0 := er_1
    refine es_top (y := nI 1) (es_yes hq (by decide)) ?_
    refine lv_if_eq (tgt := 28) hx hb dX1_next_4 (by decide) (fun c_4 => ?_) (fun c_4 => ?_)
    ·
      exact absurd c_4 (by decide)
    ·
      refine lv_iload_n hx hb dX1_next_7 rfl (lv_at hl 2 rfl) ?_
      refine vp_callSi (va_Run.run (va_runS (As := [.int (-1)]) (rest := []) ⟨hx, hb, hml, hown, hw⟩ (c_X1_isSymbol l D cI (-1) ) (cwS 1 hw (es_s xw_118 xw_119 xw_120 xw_111) rfl rfl rfl kv_X1_isSymbol ⟨Nat.le_trans (Nat.le_of_ble_eq_true rfl) hRm.1, Nat.le_trans (Nat.le_of_ble_eq_true rfl) hRm.2⟩) (es_RS hK (hP.sub (ws' := []) [] rfl)) rfl rfl hl.1 rfl (lv_room (Nat.le_of_ble_eq_true rfl)) dX1_next_8 ⟨(Nat.zero_le _), (Nat.zero_le _)⟩)) (fun r_2 er_2 => ?_)
      obtain rfl : r_2 = if 0 ≤ (-1) ∧ (-1) < nI 10 then (1 : Int32) else 0 := er_2
      refine es_top (y := nI 0) es_nom ?_
      refine lv_if_eq (tgt := 28) hx hb dX1_next_11 (by decide) (fun c_11 => ?_) (fun c_11 => ?_)
      ·
        refine lv_iconst (v := (-1)) hx hb dX1_next_28 (by decide) ?_
        exact W.iret (v := (-1)) hx hb hr (fun zt ht hW => ⟨_, rfl, (by show _ = _; rw [if_pos rfl]), ht⟩) (fun _ h => by cases h) dX1_next_29
      ·
        exact absurd c_11 (by decide)
  ·
    refine lv_iload_n hx hb dX1_next_0 rfl (lv_at hl 1 rfl) ?_
    refine vp_callSi (va_Run.run (va_runS (As := [.int (nI q)]) (rest := []) ⟨hx, hb, hml, hown, hw⟩ (c_X1_isState l D cI (nI q) ) (cwS 1 hw (es_s xw_115 xw_116 xw_117 xw_111) rfl rfl rfl kv_X1_isState ⟨Nat.le_trans (Nat.le_of_ble_eq_true rfl) hRm.1, Nat.le_trans (Nat.le_of_ble_eq_true rfl) hRm.2⟩) (es_RS hK (hP.sub (ws' := []) [] rfl)) rfl rfl hl.1 rfl (lv_room (Nat.le_of_ble_eq_true rfl)) dX1_next_1 ⟨(Nat.zero_le _), (Nat.zero_le _)⟩)) (fun r_3 er_3 => ?_)
    obtain rfl : r_3 = if 0 ≤ (nI q) ∧ (nI q) < nI 20 then (1 : Int32) else 0 := er_3
    refine es_top (y := nI 1) (es_yes hq (by decide)) ?_
    refine lv_if_eq (tgt := 28) hx hb dX1_next_4 (by decide) (fun c_4 => ?_) (fun c_4 => ?_)
    ·
      exact absurd c_4 (by decide)
    ·
      refine lv_iload_n hx hb dX1_next_7 rfl (lv_at hl 2 rfl) ?_
      refine vp_callSi (va_Run.run (va_runS (As := [.int (nI s0)]) (rest := []) ⟨hx, hb, hml, hown, hw⟩ (c_X1_isSymbol l D cI (nI s0) ) (cwS 1 hw (es_s xw_118 xw_119 xw_120 xw_111) rfl rfl rfl kv_X1_isSymbol ⟨Nat.le_trans (Nat.le_of_ble_eq_true rfl) hRm.1, Nat.le_trans (Nat.le_of_ble_eq_true rfl) hRm.2⟩) (es_RS hK (hP.sub (ws' := []) [] rfl)) rfl rfl hl.1 rfl (lv_room (Nat.le_of_ble_eq_true rfl)) dX1_next_8 ⟨(Nat.zero_le _), (Nat.zero_le _)⟩)) (fun r_4 er_4 => ?_)
      obtain rfl : r_4 = if 0 ≤ (nI s0) ∧ (nI s0) < nI 10 then (1 : Int32) else 0 := er_4
      refine es_top (y := nI 1) (es_yes hs0 (by decide)) ?_
      refine lv_if_eq (tgt := 28) hx hb dX1_next_11 (by decide) (fun c_11 => ?_) (fun c_11 => ?_)
      ·
        exact absurd c_11 (by decide)
      ·
        refine lv_aload_n hx hb dX1_next_14 rfl (lv_at hl 0 rfl) ?_
        refine va_get (D := D) (ci := 1) (v := .ref a) (C := RX1) (T := TX1) (N := 2) hx hb hw iwX1 hown hK.1 hP 0 rfl rfl 0 (by decide) (hw _ xw_103) (fun _ h9 => h9) rfl dX1_next_15 ?_
        refine lv_iload_n hx hb dX1_next_18 rfl (lv_at hl 1 rfl) ?_
        refine lv_bipush (v := nI 10) hx hb dX1_next_19 (by decide) ?_
        refine lv_imul hx hb dX1_next_21 ?_
        refine es_top (y := nI (q * 10)) (pk_mul _ _) ?_
        refine lv_iload_n hx hb dX1_next_22 rfl (lv_at hl 2 rfl) ?_
        refine lv_iadd hx hb dX1_next_23 ?_
        refine es_top (y := nI ((q * 10) + s0)) (nI_add _ _) ?_
        refine es_iald hx hb hK.1 hP 1 0 rfl rfl (by omega) (Nat.le_of_ble_eq_true rfl) dX1_next_24 ?_
        refine lv_goto (tgt := 29) hx hb dX1_next_25 (by decide) ?_
        exact W.iret (v := ar ((q * 10) + s0)) hx hb hr (fun zt ht hW => ⟨_, rfl, (by show _ = _; rw [if_neg (es_nnm (by omega)), nI_clamp (by omega), Nat.mul_comm q 10]), ht⟩) (fun _ h => by cases h) dX1_next_29
set_option maxHeartbeats 1000000 in
set_option maxRecDepth 100000 in
/-- X1.kindOf  -/
theorem c_X1_kindOf (l : Launch) (D : va_G) (cI : ClassId) (tb : Nat) (a : Nat) (k : Nat) (ar : Nat → Int32) (ki : Nat → Int32) (y : Int32) (hy : y = -1 ∨ ∃ s : Nat, s < 20 ∧ y = nI s) : Met l yX1_kindOf (Cond.code yX1_kindOf cX1_kindOf 2 (some .int) :: es_T) { frames := 1, cells := 0, slots := 0, locals := 20 } (va_Pc [.ref tb, .int y] (es_R D cI [(tb, .inr (1, [.ref a, .ref k])), (a, .inl (cI, 200, .inl ar)), (k, .inl (cI, 20, .inl ki))])) (vp_Si (fun r => r = if y = -1 then -1 else ki y.toNatClampNeg)) 0 0 (fun _ => False) := by
  refine Met.ofW (cc := cX1_kindOf) (maxL := 2) (ret := (some .int)) (by decide) rfl ?_
  intro p e s m args below meth c s₁ B hml hv
  obtain ⟨rfl, hP, hK⟩ := hv
  have hx := B.exec
  have hb := B.bytes
  have hr := B.returns
  have hts := atoms_spec (ws := (Cond.code yX1_kindOf cX1_kindOf 2 (some .int) :: es_T)) B.pre
  have hw : ∀ w ∈ es_T, w.before _ s = true := fun w h => hts w (List.mem_cons_of_mem _ h)
  have hown : s.vm.findClass RX1 = some m.cls := findClass_of_methodNamed B.named
  have hlocks := B.notSynchronized
  have hRm : 1 ≤ (headSpec (Cond.code yX1_kindOf cX1_kindOf 2 (some .int) :: es_T) { frames := 1, cells := 0, slots := 0, locals := 20 }).room.frames ∧ 20 ≤ (headSpec (Cond.code yX1_kindOf cX1_kindOf 2 (some .int) :: es_T) { frames := 1, cells := 0, slots := 0, locals := 20 }).room.locals := ⟨Nat.le_refl _, Nat.le_refl _⟩
  have hRc : 0 ≤ (headSpec (Cond.code yX1_kindOf cX1_kindOf 2 (some .int) :: es_T) { frames := 1, cells := 0, slots := 0, locals := 20 }).room.cells ∧ 0 ≤ (headSpec (Cond.code yX1_kindOf cX1_kindOf 2 (some .int) :: es_T) { frames := 1, cells := 0, slots := 0, locals := 20 }).room.slots := ⟨Nat.le_refl _, Nat.le_refl _⟩
  have hl := lv_entry ([.ref tb, .int y]) (n := 2) (Nat.le_of_ble_eq_true rfl)
  rw [lg_entry_eq]
  generalize (lg_sl ([.ref tb, .int y]) ++ List.replicate (2 - (lg_sl ([.ref tb, .int y])).length) Slot.unset).toArray = ls at hl ⊢
  have hl : lv_has ls 2 [(0, .ref tb), (1, .int y)] := hl
  rcases hy with rfl | ⟨s0, hs0, rfl⟩
  ·
    refine lv_iload_n hx hb dX1_kindOf_0 rfl (lv_at hl 1 rfl) ?_
    refine vp_callSi (va_Run.run (va_runS (As := [.int (-1)]) (rest := []) ⟨hx, hb, hml, hown, hw⟩ (c_X1_isState l D cI (-1) ) (cwS 1 hw (es_s xw_115 xw_116 xw_117 xw_111) rfl rfl rfl kv_X1_isState ⟨Nat.le_trans (Nat.le_of_ble_eq_true rfl) hRm.1, Nat.le_trans (Nat.le_of_ble_eq_true rfl) hRm.2⟩) (es_RS hK (hP.sub (ws' := []) [] rfl)) rfl rfl hl.1 rfl (lv_room (Nat.le_of_ble_eq_true rfl)) dX1_kindOf_1 ⟨(Nat.zero_le _), (Nat.zero_le _)⟩)) (fun r_1 er_1 => ?_)
    obtain rfl : r_1 = if 0 ≤ (-1) ∧ (-1) < nI 20 then (1 : Int32) else 0 := er_1
    refine es_top (y := nI 0) es_nom ?_
    refine lv_if_eq (tgt := 16) hx hb dX1_kindOf_4 (by decide) (fun c_4 => ?_) (fun c_4 => ?_)
    ·
      refine lv_iconst (v := (-1)) hx hb dX1_kindOf_16 (by decide) ?_
      exact W.iret (v := (-1)) hx hb hr (fun zt ht hW => ⟨_, rfl, (by show _ = _; rw [if_pos rfl]), ht⟩) (fun _ h => by cases h) dX1_kindOf_17
    ·
      exact absurd c_4 (by decide)
  ·
    refine lv_iload_n hx hb dX1_kindOf_0 rfl (lv_at hl 1 rfl) ?_
    refine vp_callSi (va_Run.run (va_runS (As := [.int (nI s0)]) (rest := []) ⟨hx, hb, hml, hown, hw⟩ (c_X1_isState l D cI (nI s0) ) (cwS 1 hw (es_s xw_115 xw_116 xw_117 xw_111) rfl rfl rfl kv_X1_isState ⟨Nat.le_trans (Nat.le_of_ble_eq_true rfl) hRm.1, Nat.le_trans (Nat.le_of_ble_eq_true rfl) hRm.2⟩) (es_RS hK (hP.sub (ws' := []) [] rfl)) rfl rfl hl.1 rfl (lv_room (Nat.le_of_ble_eq_true rfl)) dX1_kindOf_1 ⟨(Nat.zero_le _), (Nat.zero_le _)⟩)) (fun r_2 er_2 => ?_)
    obtain rfl : r_2 = if 0 ≤ (nI s0) ∧ (nI s0) < nI 20 then (1 : Int32) else 0 := er_2
    refine es_top (y := nI 1) (es_yes hs0 (by decide)) ?_
    refine lv_if_eq (tgt := 16) hx hb dX1_kindOf_4 (by decide) (fun c_4 => ?_) (fun c_4 => ?_)
    ·
      exact absurd c_4 (by decide)
    ·
      refine lv_aload_n hx hb dX1_kindOf_7 rfl (lv_at hl 0 rfl) ?_
      refine va_get (D := D) (ci := 1) (v := .ref k) (C := RX1) (T := TX1) (N := 2) hx hb hw iwX1 hown hK.1 hP 0 rfl rfl 1 (by decide) (hw _ xw_108) (fun _ h9 => h9) rfl dX1_kindOf_8 ?_
      refine lv_iload_n hx hb dX1_kindOf_11 rfl (lv_at hl 1 rfl) ?_
      refine es_iald hx hb hK.1 hP 2 0 rfl rfl (by omega) (Nat.le_of_ble_eq_true rfl) dX1_kindOf_12 ?_
      refine lv_goto (tgt := 17) hx hb dX1_kindOf_13 (by decide) ?_
      exact W.iret (v := ki s0) hx hb hr (fun zt ht hW => ⟨_, rfl, (by show _ = _; rw [if_neg (es_nnm (by omega)), nI_clamp (by omega)]), ht⟩) (fun _ h => by cases h) dX1_kindOf_17
set_option maxHeartbeats 1000000 in
set_option maxRecDepth 100000 in
theorem lp_fill {p : Program} {l : Launch} {e : Env} {R : Room} {s : State} {m : MethodId} {args : Array Value} {below : List Frame} {meth : Method} {c : Code} {Q : State → Prop} {A : Nat → Prop} {H0 : Heap} (D : va_G) (cI : ClassId) (a : Nat) (M : Nat) (v : Int32) (hx : p.tables.exec = Jvm.exec) (hb : c.code = cJ7_fill_53178) (hml : c.maxLocals = 4) (hown : s.vm.findClass RJ7 = some m.cls) (hw : ∀ w ∈ es_T, w.before args s = true) (hK : es_K D cI s) (hRm : 0 ≤ R.frames ∧ 0 ≤ R.locals) (hA : ∀ q : Nat, H0.size ≤ q → A q) (hM : M < 2 ^ 31) (hex : ∀ (g : Nat → Int32), (∀ j, j < M → g j = v) → ∀ (H : Heap) (locs : List Loc), va_P D vwCl [(a, .inl (cI, M, .inl g))] H → va_D A [(a, .inl (cI, M, .inl g))] → va_S A H0 H locs → ∀ (ls : Array Slot), lv_has ls 4 [(0, .ref a)] →  W p l e R s m args below meth c H locs 0 0 Q (F0 m 20 ls [])) : ∀ (N : Nat) (i : Nat) (g : Nat → Int32), (i ≤ M) → (∀ j, j < i → g j = v) → (M - i) < N → ∀ (H : Heap) (locs : List Loc), va_P D vwCl [(a, .inl (cI, M, .inl g))] H → va_D A [(a, .inl (cI, M, .inl g))] → va_S A H0 H locs → ∀ (ls : Array Slot), lv_has ls 4 [(0, .ref a), (1, .int v), (2, .int (nI i)), (3, .int (nI M))] →  W p l e R s m args below meth c H locs 0 0 Q (F0 m 5 ls []) := by
  intro N
  induction N with
  | zero =>
    intro i g hi hg hN
    exact absurd hN (Nat.not_lt_zero _)
  | succ N ih =>
    intro i g hi hg hN H locs hP hD hS ls hl
    refine lv_iload_n hx hb dJ7_fill_53178_5 rfl (lv_at hl 2 rfl) ?_
    refine lv_iload_n hx hb dJ7_fill_53178_6 rfl (lv_at hl 3 rfl) ?_
    refine lv_icmp_ge (tgt := 20) hx hb dJ7_fill_53178_7 (by decide) (fun c_7 => ?_) (fun c_7 => ?_)
    ·
      have c_7 := (nI_leI (by omega) (by omega)).mp c_7
      exact hex g (fun j hj => hg j (by omega))  H locs (hP.sub [0] rfl) (hD.sub [0] (by decide) rfl) hS ls (lv_sub hl [0] rfl)
    ·
      have c_7 := (mt (nI_leI (by omega) (by omega)).mpr c_7)
      refine lv_aload_n hx hb dJ7_fill_53178_10 rfl (lv_at hl 0 rfl) ?_
      refine lv_iload_n hx hb dJ7_fill_53178_11 rfl (lv_at hl 2 rfl) ?_
      refine lv_iload_n hx hb dJ7_fill_53178_12 rfl (lv_at hl 1 rfl) ?_
      refine es_iast hx hb hK.1 hP hD hS 0 0 rfl rfl (by omega) (by omega) dJ7_fill_53178_13 (fun H locs hP hD hS => ?_)
      have hP : va_P D vwCl [(a, .inl (cI, M, .inl (upd g i v)))] H := hP
      have hD : va_D A [(a, .inl (cI, M, .inl (upd g i v)))] := hD
      refine lv_iinc (v := nI (i + 1)) (lv' := [(2, .int (nI (i + 1))), (0, .ref a), (1, .int v), (3, .int (nI M))]) hx hb dJ7_fill_53178_14 hl (k := 2) rfl (nI_1 _) (by decide) rfl (fun ls hl => ?_)
      refine lv_goto (tgt := 5) hx hb dJ7_fill_53178_17 (by decide) ?_
      exact ih (i + 1) (upd g i v) (by omega) (es_ext hg) (by omega) H locs (hP.sub [0] rfl) (hD.sub [0] (by decide) rfl) hS ls (lv_sub hl [1, 2, 0, 3] rfl)
set_option maxHeartbeats 1000000 in
set_option maxRecDepth 100000 in
/-- J7.fill  -/
theorem c_J7_fill_53178 (l : Launch) (D : va_G) (cI : ClassId) (sz : Nat) (a : Nat) (M : Nat) (f : Nat → Int32) (v : Int32) (hM : M < 2 ^ 31) : Met l yJ7_fill_53178 (Cond.code yJ7_fill_53178 cJ7_fill_53178 4 none :: es_T) { frames := 0, cells := 0, slots := 0, locals := 0 } (va_Pc [.ref a, .int v] (es_W D cI sz [(a, .inl (cI, M, .inl f))])) (va_Qv (fun _ => True) (fun (u : Unit) zt => va_P D vwCl [(a, .inl (cI, M, .inl (fun _ => v)))] zt.heap ∧ va_D (va_A [(a, .inl (cI, M, .inl f))] sz) [(a, .inl (cI, M, .inl (fun _ => v)))]) (va_A [(a, .inl (cI, M, .inl f))] sz)) 0 0 (va_A [(a, .inl (cI, M, .inl f))] sz) := by
  refine Met.ofW (cc := cJ7_fill_53178) (maxL := 4) (ret := none) (by decide) rfl ?_
  intro p e s m args below meth c s₁ B hml hv
  obtain ⟨rfl, hsz, hP, hK, hD0⟩ := hv
  have hx := B.exec
  have hb := B.bytes
  have hr := B.returns
  have hts := atoms_spec (ws := (Cond.code yJ7_fill_53178 cJ7_fill_53178 4 none :: es_T)) B.pre
  have hw : ∀ w ∈ es_T, w.before _ s = true := fun w h => hts w (List.mem_cons_of_mem _ h)
  have hown : s.vm.findClass RJ7 = some m.cls := findClass_of_methodNamed B.named
  have hlocks := B.notSynchronized
  have hRm : 0 ≤ (headSpec (Cond.code yJ7_fill_53178 cJ7_fill_53178 4 none :: es_T) { frames := 0, cells := 0, slots := 0, locals := 0 }).room.frames ∧ 0 ≤ (headSpec (Cond.code yJ7_fill_53178 cJ7_fill_53178 4 none :: es_T) { frames := 0, cells := 0, slots := 0, locals := 0 }).room.locals := ⟨Nat.le_refl _, Nat.le_refl _⟩
  have hRc : 0 ≤ (headSpec (Cond.code yJ7_fill_53178 cJ7_fill_53178 4 none :: es_T) { frames := 0, cells := 0, slots := 0, locals := 0 }).room.cells ∧ 0 ≤ (headSpec (Cond.code yJ7_fill_53178 cJ7_fill_53178 4 none :: es_T) { frames := 0, cells := 0, slots := 0, locals := 0 }).room.slots := ⟨Nat.le_refl _, Nat.le_refl _⟩
  subst hsz
  have hD := hD0.self (sz := s.heap.size)
  generalize hAe : va_A [(a, .inl (cI, M, .inl f))] s.heap.size = A at hD ⊢
  have hA : ∀ q : Nat, s.heap.size ≤ q → A q := fun q h => by rw [← hAe]; exact Or.inr h
  have hS : va_S A s.heap s.heap [] := va_S.rf
  have hl := lv_entry ([.ref a, .int v]) (n := 4) (Nat.le_of_ble_eq_true rfl)
  rw [lg_entry_eq]
  generalize (lg_sl ([.ref a, .int v]) ++ List.replicate (4 - (lg_sl ([.ref a, .int v])).length) Slot.unset).toArray = ls at hl ⊢
  have hl : lv_has ls 4 [(0, .ref a), (1, .int v)] := hl
  refine lv_iconst (v := nI 0) hx hb dJ7_fill_53178_0 (by decide) ?_
  refine lv_istore_n (lv' := [(2, .int (nI 0)), (0, .ref a), (1, .int v)]) hx hb dJ7_fill_53178_1 rfl hl (by decide) rfl (fun ls hl => ?_)
  refine lv_aload_n hx hb dJ7_fill_53178_2 rfl (lv_at hl 1 rfl) ?_
  refine va_alen hx hb hK.1 hP 0 0 rfl rfl (v := nI M) rfl dJ7_fill_53178_3 ?_
  refine lv_istore_n (lv' := [(3, .int (nI M)), (2, .int (nI 0)), (0, .ref a), (1, .int v)]) hx hb dJ7_fill_53178_4 rfl hl (by decide) rfl (fun ls hl => ?_)
  refine lp_fill D cI a M v hx hb hml hown hw hK ⟨Nat.le_trans (Nat.le_of_ble_eq_true rfl) hRm.1, Nat.le_trans (Nat.le_of_ble_eq_true rfl) hRm.2⟩ hA (by first | assumption | omega) (fun g hg H locs hP hD hS ls hl => ?_) ((M - 0) + 1) 0 f (Nat.zero_le _) (fun j hj => absurd hj (Nat.not_lt_zero _)) (Nat.lt_succ_self _) s.heap [] (hP.sub [0] rfl) (hD.sub [0] (by decide) rfl) hS ls (lv_sub hl [2, 3, 1, 0] rfl)
  obtain ⟨hP, hD⟩ := es_P_arr hP hD 0 rfl (fun _ => v) hg
  have hP : va_P D vwCl [(a, .inl (cI, M, .inl (fun _ => v)))] H := hP
  have hD : va_D A [(a, .inl (cI, M, .inl (fun _ => v)))] := hD
  exact W.vret hx hb hr (fun zt ht hW => ⟨⟨(), rfl, trivial, ⟨by rw [ht]; exact hP.sub [0] rfl, hD.sub [0] (by decide) rfl⟩⟩, hS.F ht⟩) hS.2.2 dJ7_fill_53178_20
end
section
set_option maxHeartbeats 1000000 in
set_option maxRecDepth 100000 in
/-- X0.forget  -/
theorem c_X0_forget (l : Launch) (D : va_G) (cI : ClassId) (sz : Nat) (f : Nat) (b0 : Nat) (b1 : Nat) (b2 : Nat) (b3 : Nat) (F : Nat → Nat → Int32) (n : Nat)  : Met l yX0_forget (Cond.code yX0_forget cX0_forget 1 none :: es_T) { frames := 0, cells := 0, slots := 0, locals := 0 } (va_Pc [.ref f] (es_W D cI sz [(f, .inr (0, [.ref b0, .ref b1, .ref b2, .ref b3, .int (nI n)])), (b0, .inl (cI, 400, .inl (F 0))), (b1, .inl (cI, 400, .inl (F 1))), (b2, .inl (cI, 400, .inl (F 2))), (b3, .inl (cI, 400, .inl (F 3)))])) (va_Qv (fun _ => True) (fun (u : Unit) zt => va_P D vwCl [(f, .inr (0, [.ref b0, .ref b1, .ref b2, .ref b3, .int (nI 0)])), (b0, .inl (cI, 400, .inl (F 0))), (b1, .inl (cI, 400, .inl (F 1))), (b2, .inl (cI, 400, .inl (F 2))), (b3, .inl (cI, 400, .inl (F 3)))] zt.heap ∧ va_D (va_A [(f, .inr (0, [.ref b0, .ref b1, .ref b2, .ref b3, .int (nI n)])), (b0, .inl (cI, 400, .inl (F 0))), (b1, .inl (cI, 400, .inl (F 1))), (b2, .inl (cI, 400, .inl (F 2))), (b3, .inl (cI, 400, .inl (F 3)))] sz) [(f, .inr (0, [.ref b0, .ref b1, .ref b2, .ref b3, .int (nI 0)])), (b0, .inl (cI, 400, .inl (F 0))), (b1, .inl (cI, 400, .inl (F 1))), (b2, .inl (cI, 400, .inl (F 2))), (b3, .inl (cI, 400, .inl (F 3)))]) (va_A [(f, .inr (0, [.ref b0, .ref b1, .ref b2, .ref b3, .int (nI n)])), (b0, .inl (cI, 400, .inl (F 0))), (b1, .inl (cI, 400, .inl (F 1))), (b2, .inl (cI, 400, .inl (F 2))), (b3, .inl (cI, 400, .inl (F 3)))] sz)) 0 0 (va_A [(f, .inr (0, [.ref b0, .ref b1, .ref b2, .ref b3, .int (nI n)])), (b0, .inl (cI, 400, .inl (F 0))), (b1, .inl (cI, 400, .inl (F 1))), (b2, .inl (cI, 400, .inl (F 2))), (b3, .inl (cI, 400, .inl (F 3)))] sz) := by
  refine Met.ofW (cc := cX0_forget) (maxL := 1) (ret := none) (by decide) rfl ?_
  intro p e s m args below meth c s₁ B hml hv
  obtain ⟨rfl, hsz, hP, hK, hD0⟩ := hv
  have hx := B.exec
  have hb := B.bytes
  have hr := B.returns
  have hts := atoms_spec (ws := (Cond.code yX0_forget cX0_forget 1 none :: es_T)) B.pre
  have hw : ∀ w ∈ es_T, w.before _ s = true := fun w h => hts w (List.mem_cons_of_mem _ h)
  have hown : s.vm.findClass RX0 = some m.cls := findClass_of_methodNamed B.named
  have hlocks := B.notSynchronized
  have hRm : 0 ≤ (headSpec (Cond.code yX0_forget cX0_forget 1 none :: es_T) { frames := 0, cells := 0, slots := 0, locals := 0 }).room.frames ∧ 0 ≤ (headSpec (Cond.code yX0_forget cX0_forget 1 none :: es_T) { frames := 0, cells := 0, slots := 0, locals := 0 }).room.locals := ⟨Nat.le_refl _, Nat.le_refl _⟩
  have hRc : 0 ≤ (headSpec (Cond.code yX0_forget cX0_forget 1 none :: es_T) { frames := 0, cells := 0, slots := 0, locals := 0 }).room.cells ∧ 0 ≤ (headSpec (Cond.code yX0_forget cX0_forget 1 none :: es_T) { frames := 0, cells := 0, slots := 0, locals := 0 }).room.slots := ⟨Nat.le_refl _, Nat.le_refl _⟩
  subst hsz
  have hD := hD0.self (sz := s.heap.size)
  generalize hAe : va_A [(f, .inr (0, [.ref b0, .ref b1, .ref b2, .ref b3, .int (nI n)])), (b0, .inl (cI, 400, .inl (F 0))), (b1, .inl (cI, 400, .inl (F 1))), (b2, .inl (cI, 400, .inl (F 2))), (b3, .inl (cI, 400, .inl (F 3)))] s.heap.size = A at hD ⊢
  have hA : ∀ q : Nat, s.heap.size ≤ q → A q := fun q h => by rw [← hAe]; exact Or.inr h
  have hS : va_S A s.heap s.heap [] := va_S.rf
  have hl := lv_entry ([.ref f]) (n := 1) (Nat.le_of_ble_eq_true rfl)
  rw [lg_entry_eq]
  generalize (lg_sl ([.ref f]) ++ List.replicate (1 - (lg_sl ([.ref f])).length) Slot.unset).toArray = ls at hl ⊢
  have hl : lv_has ls 1 [(0, .ref f)] := hl
  refine lv_aload_n hx hb dX0_forget_0 rfl (lv_at hl 0 rfl) ?_
  refine lv_iconst (v := nI 0) hx hb dX0_forget_1 (by decide) ?_
  refine va_put (D := D) (ci := 0) (v := .int (nI 0)) (ty := .int) (C := RX0) (T := TX0) (N := 5) hx hb hw iwX0 tyX0 tyX0_ok nmX0 hown hK.1 hP hD hS 0 rfl rfl 4 (by decide) (hw _ xw_77) (fun _ h9 => h9) rfl (by decide +kernel) rfl rfl (Nat.le_of_ble_eq_true rfl) dX0_forget_2 (fun H locs hP hD hS => ?_)
  have hP : va_P D vwCl [(f, .inr (0, [.ref b0, .ref b1, .ref b2, .ref b3, .int (nI 0)])), (b0, .inl (cI, 400, .inl (F 0))), (b1, .inl (cI, 400, .inl (F 1))), (b2, .inl (cI, 400, .inl (F 2))), (b3, .inl (cI, 400, .inl (F 3)))] H := hP
  have hD : va_D A [(f, .inr (0, [.ref b0, .ref b1, .ref b2, .ref b3, .int (nI 0)])), (b0, .inl (cI, 400, .inl (F 0))), (b1, .inl (cI, 400, .inl (F 1))), (b2, .inl (cI, 400, .inl (F 2))), (b3, .inl (cI, 400, .inl (F 3)))] := hD
  exact W.vret hx hb hr (fun zt ht hW => ⟨⟨(), rfl, trivial, ⟨by rw [ht]; exact hP.sub [0, 1, 2, 3, 4] rfl, hD.sub [0, 1, 2, 3, 4] (by decide) rfl⟩⟩, hS.F ht⟩) hS.2.2 dX0_forget_5
set_option maxHeartbeats 1000000 in
set_option maxRecDepth 100000 in
/-- X0.size  -/
theorem c_X0_size (l : Launch) (D : va_G) (cI : ClassId) (f : Nat) (b0 : Nat) (b1 : Nat) (b2 : Nat) (b3 : Nat) (F : Nat → Nat → Int32) (n : Nat)  : Met l yX0_size (Cond.code yX0_size cX0_size 1 (some .int) :: es_T) { frames := 0, cells := 0, slots := 0, locals := 0 } (va_Pc [.ref f] (es_R D cI [(f, .inr (0, [.ref b0, .ref b1, .ref b2, .ref b3, .int (nI n)])), (b0, .inl (cI, 400, .inl (F 0))), (b1, .inl (cI, 400, .inl (F 1))), (b2, .inl (cI, 400, .inl (F 2))), (b3, .inl (cI, 400, .inl (F 3)))])) (vp_Si (fun r => r = nI n)) 0 0 (fun _ => False) := by
  refine Met.ofW (cc := cX0_size) (maxL := 1) (ret := (some .int)) (by decide) rfl ?_
  intro p e s m args below meth c s₁ B hml hv
  obtain ⟨rfl, hP, hK⟩ := hv
  have hx := B.exec
  have hb := B.bytes
  have hr := B.returns
  have hts := atoms_spec (ws := (Cond.code yX0_size cX0_size 1 (some .int) :: es_T)) B.pre
  have hw : ∀ w ∈ es_T, w.before _ s = true := fun w h => hts w (List.mem_cons_of_mem _ h)
  have hown : s.vm.findClass RX0 = some m.cls := findClass_of_methodNamed B.named
  have hlocks := B.notSynchronized
  have hRm : 0 ≤ (headSpec (Cond.code yX0_size cX0_size 1 (some .int) :: es_T) { frames := 0, cells := 0, slots := 0, locals := 0 }).room.frames ∧ 0 ≤ (headSpec (Cond.code yX0_size cX0_size 1 (some .int) :: es_T) { frames := 0, cells := 0, slots := 0, locals := 0 }).room.locals := ⟨Nat.le_refl _, Nat.le_refl _⟩
  have hRc : 0 ≤ (headSpec (Cond.code yX0_size cX0_size 1 (some .int) :: es_T) { frames := 0, cells := 0, slots := 0, locals := 0 }).room.cells ∧ 0 ≤ (headSpec (Cond.code yX0_size cX0_size 1 (some .int) :: es_T) { frames := 0, cells := 0, slots := 0, locals := 0 }).room.slots := ⟨Nat.le_refl _, Nat.le_refl _⟩
  have hl := lv_entry ([.ref f]) (n := 1) (Nat.le_of_ble_eq_true rfl)
  rw [lg_entry_eq]
  generalize (lg_sl ([.ref f]) ++ List.replicate (1 - (lg_sl ([.ref f])).length) Slot.unset).toArray = ls at hl ⊢
  have hl : lv_has ls 1 [(0, .ref f)] := hl
  refine lv_aload_n hx hb dX0_size_0 rfl (lv_at hl 0 rfl) ?_
  refine va_get (D := D) (ci := 0) (v := .int (nI n)) (C := RX0) (T := TX0) (N := 5) hx hb hw iwX0 hown hK.1 hP 0 rfl rfl 4 (by decide) (hw _ xw_77) (fun _ h9 => h9) rfl dX0_size_1 ?_
  exact W.iret (v := nI n) hx hb hr (fun zt ht hW => ⟨_, rfl, rfl, ht⟩) (fun _ h => by cases h) dX0_size_4
set_option maxHeartbeats 1000000 in
set_option maxRecDepth 100000 in
/-- X0.has  -/
theorem c_X0_has (l : Launch) (D : va_G) (cI : ClassId) (f : Nat) (b0 : Nat) (b1 : Nat) (b2 : Nat) (b3 : Nat) (F : Nat → Nat → Int32) (n : Nat) (x : Int32)  : Met l yX0_has (Cond.code yX0_has cX0_has 2 (some .boolean) :: es_T) { frames := 0, cells := 0, slots := 0, locals := 0 } (va_Pc [.ref f, .int x] (es_R D cI [(f, .inr (0, [.ref b0, .ref b1, .ref b2, .ref b3, .int (nI n)])), (b0, .inl (cI, 400, .inl (F 0))), (b1, .inl (cI, 400, .inl (F 1))), (b2, .inl (cI, 400, .inl (F 2))), (b3, .inl (cI, 400, .inl (F 3)))])) (vp_Si (fun r => r = if 0 ≤ x ∧ x < nI n then (1 : Int32) else 0)) 0 0 (fun _ => False) := by
  refine Met.ofW (cc := cX0_has) (maxL := 2) (ret := (some .boolean)) (by decide) rfl ?_
  intro p e s m args below meth c s₁ B hml hv
  obtain ⟨rfl, hP, hK⟩ := hv
  have hx := B.exec
  have hb := B.bytes
  have hr := B.returns
  have hts := atoms_spec (ws := (Cond.code yX0_has cX0_has 2 (some .boolean) :: es_T)) B.pre
  have hw : ∀ w ∈ es_T, w.before _ s = true := fun w h => hts w (List.mem_cons_of_mem _ h)
  have hown : s.vm.findClass RX0 = some m.cls := findClass_of_methodNamed B.named
  have hlocks := B.notSynchronized
  have hRm : 0 ≤ (headSpec (Cond.code yX0_has cX0_has 2 (some .boolean) :: es_T) { frames := 0, cells := 0, slots := 0, locals := 0 }).room.frames ∧ 0 ≤ (headSpec (Cond.code yX0_has cX0_has 2 (some .boolean) :: es_T) { frames := 0, cells := 0, slots := 0, locals := 0 }).room.locals := ⟨Nat.le_refl _, Nat.le_refl _⟩
  have hRc : 0 ≤ (headSpec (Cond.code yX0_has cX0_has 2 (some .boolean) :: es_T) { frames := 0, cells := 0, slots := 0, locals := 0 }).room.cells ∧ 0 ≤ (headSpec (Cond.code yX0_has cX0_has 2 (some .boolean) :: es_T) { frames := 0, cells := 0, slots := 0, locals := 0 }).room.slots := ⟨Nat.le_refl _, Nat.le_refl _⟩
  have hl := lv_entry ([.ref f, .int x]) (n := 2) (Nat.le_of_ble_eq_true rfl)
  rw [lg_entry_eq]
  generalize (lg_sl ([.ref f, .int x]) ++ List.replicate (2 - (lg_sl ([.ref f, .int x])).length) Slot.unset).toArray = ls at hl ⊢
  have hl : lv_has ls 2 [(0, .ref f), (1, .int x)] := hl
  refine lv_iload_n hx hb dX0_has_0 rfl (lv_at hl 1 rfl) ?_
  refine lv_if_lt (tgt := 16) hx hb dX0_has_1 (by decide) (fun c_1 => ?_) (fun c_1 => ?_)
  ·
    refine lv_iconst (v := nI 0) hx hb dX0_has_16 (by decide) ?_
    exact W.zret (v := nI 0) hx hb hr rfl (fun zt ht hW => ⟨_, rfl, (by show _ = _; first | (rw [if_pos ⟨Int32.not_lt.mp c_1, Int32.not_le.mp c_9⟩]; rfl) | (rw [if_neg (fun h => absurd c_1 (Int32.not_lt.mpr h.1))]; rfl) | (rw [if_neg (fun h => absurd h.2 (Int32.not_lt.mpr c_9))]; rfl)), ht⟩) (fun _ h => by cases h) dX0_has_17
  ·
    refine lv_iload_n hx hb dX0_has_4 rfl (lv_at hl 1 rfl) ?_
    refine lv_aload_n hx hb dX0_has_5 rfl (lv_at hl 0 rfl) ?_
    refine va_get (D := D) (ci := 0) (v := .int (nI n)) (C := RX0) (T := TX0) (N := 5) hx hb hw iwX0 hown hK.1 hP 0 rfl rfl 4 (by decide) (hw _ xw_77) (fun _ h9 => h9) rfl dX0_has_6 ?_
    refine lv_icmp_ge (tgt := 16) hx hb dX0_has_9 (by decide) (fun c_9 => ?_) (fun c_9 => ?_)
    ·
      refine lv_iconst (v := nI 0) hx hb dX0_has_16 (by decide) ?_
      exact W.zret (v := nI 0) hx hb hr rfl (fun zt ht hW => ⟨_, rfl, (by show _ = _; first | (rw [if_pos ⟨Int32.not_lt.mp c_1, Int32.not_le.mp c_9⟩]; rfl) | (rw [if_neg (fun h => absurd c_1 (Int32.not_lt.mpr h.1))]; rfl) | (rw [if_neg (fun h => absurd h.2 (Int32.not_lt.mpr c_9))]; rfl)), ht⟩) (fun _ h => by cases h) dX0_has_17
    ·
      refine lv_iconst (v := nI 1) hx hb dX0_has_12 (by decide) ?_
      refine lv_goto (tgt := 17) hx hb dX0_has_13 (by decide) ?_
      exact W.zret (v := nI 1) hx hb hr rfl (fun zt ht hW => ⟨_, rfl, (by show _ = _; first | (rw [if_pos ⟨Int32.not_lt.mp c_1, Int32.not_le.mp c_9⟩]; rfl) | (rw [if_neg (fun h => absurd c_1 (Int32.not_lt.mpr h.1))]; rfl) | (rw [if_neg (fun h => absurd h.2 (Int32.not_lt.mpr c_9))]; rfl)), ht⟩) (fun _ h => by cases h) dX0_has_17
set_option maxHeartbeats 1000000 in
set_option maxRecDepth 100000 in
/-- X0.failed  -/
theorem c_X0_failed (l : Launch) (D : va_G) (cI : ClassId) (f : Nat) (b0 : Nat) (b1 : Nat) (b2 : Nat) (b3 : Nat) (F : Nat → Nat → Int32) (n : Nat) (hn : n ≤ 400) : Met l yX0_failed (Cond.code yX0_failed cX0_failed 1 (some .boolean) :: es_T) { frames := 0, cells := 0, slots := 0, locals := 0 } (va_Pc [.ref f] (es_R D cI [(f, .inr (0, [.ref b0, .ref b1, .ref b2, .ref b3, .int (nI n)])), (b0, .inl (cI, 400, .inl (F 0))), (b1, .inl (cI, 400, .inl (F 1))), (b2, .inl (cI, 400, .inl (F 2))), (b3, .inl (cI, 400, .inl (F 3)))])) (vp_Si (fun r => r = if 0 < n ∧ F 1 (n - 1) = 0 then (1 : Int32) else 0)) 0 0 (fun _ => False) := by
  refine Met.ofW (cc := cX0_failed) (maxL := 1) (ret := (some .boolean)) (by decide) rfl ?_
  intro p e s m args below meth c s₁ B hml hv
  obtain ⟨rfl, hP, hK⟩ := hv
  have hx := B.exec
  have hb := B.bytes
  have hr := B.returns
  have hts := atoms_spec (ws := (Cond.code yX0_failed cX0_failed 1 (some .boolean) :: es_T)) B.pre
  have hw : ∀ w ∈ es_T, w.before _ s = true := fun w h => hts w (List.mem_cons_of_mem _ h)
  have hown : s.vm.findClass RX0 = some m.cls := findClass_of_methodNamed B.named
  have hlocks := B.notSynchronized
  have hRm : 0 ≤ (headSpec (Cond.code yX0_failed cX0_failed 1 (some .boolean) :: es_T) { frames := 0, cells := 0, slots := 0, locals := 0 }).room.frames ∧ 0 ≤ (headSpec (Cond.code yX0_failed cX0_failed 1 (some .boolean) :: es_T) { frames := 0, cells := 0, slots := 0, locals := 0 }).room.locals := ⟨Nat.le_refl _, Nat.le_refl _⟩
  have hRc : 0 ≤ (headSpec (Cond.code yX0_failed cX0_failed 1 (some .boolean) :: es_T) { frames := 0, cells := 0, slots := 0, locals := 0 }).room.cells ∧ 0 ≤ (headSpec (Cond.code yX0_failed cX0_failed 1 (some .boolean) :: es_T) { frames := 0, cells := 0, slots := 0, locals := 0 }).room.slots := ⟨Nat.le_refl _, Nat.le_refl _⟩
  have hl := lv_entry ([.ref f]) (n := 1) (Nat.le_of_ble_eq_true rfl)
  rw [lg_entry_eq]
  generalize (lg_sl ([.ref f]) ++ List.replicate (1 - (lg_sl ([.ref f])).length) Slot.unset).toArray = ls at hl ⊢
  have hl : lv_has ls 1 [(0, .ref f)] := hl
  refine lv_aload_n hx hb dX0_failed_0 rfl (lv_at hl 0 rfl) ?_
  refine va_get (D := D) (ci := 0) (v := .int (nI n)) (C := RX0) (T := TX0) (N := 5) hx hb hw iwX0 hown hK.1 hP 0 rfl rfl 4 (by decide) (hw _ xw_77) (fun _ h9 => h9) rfl dX0_failed_1 ?_
  refine lv_if_le (tgt := 25) hx hb dX0_failed_4 (by decide) (fun c_4 => ?_) (fun c_4 => ?_)
  ·
    have c_4 := (nI_leI (a := n) (b := 0) (by omega) (by omega)).mp c_4
    refine lv_iconst (v := nI 0) hx hb dX0_failed_25 (by decide) ?_
    exact W.zret (v := nI 0) hx hb hr rfl (fun zt ht hW => ⟨_, rfl, (by show _ = _; first | (rw [if_pos ⟨by omega, c_18⟩]; rfl) | (rw [if_neg (fun h => by omega)]; rfl) | (rw [if_neg (fun h => absurd h.2 c_18)]; rfl)), ht⟩) (fun _ h => by cases h) dX0_failed_26
  ·
    have c_4 := (mt (nI_leI (a := n) (b := 0) (by omega) (by omega)).mpr c_4)
    refine lv_aload_n hx hb dX0_failed_7 rfl (lv_at hl 0 rfl) ?_
    refine va_get (D := D) (ci := 0) (v := .ref b1) (C := RX0) (T := TX0) (N := 5) hx hb hw iwX0 hown hK.1 hP 0 rfl rfl 1 (by decide) (hw _ xw_79) (fun _ h9 => h9) rfl dX0_failed_8 ?_
    refine lv_aload_n hx hb dX0_failed_11 rfl (lv_at hl 0 rfl) ?_
    refine va_get (D := D) (ci := 0) (v := .int (nI n)) (C := RX0) (T := TX0) (N := 5) hx hb hw iwX0 hown hK.1 hP 0 rfl rfl 4 (by decide) (hw _ xw_77) (fun _ h9 => h9) rfl dX0_failed_12 ?_
    refine lv_iconst (v := nI 1) hx hb dX0_failed_15 (by decide) ?_
    refine lv_isub hx hb dX0_failed_16 ?_
    refine es_top (y := nI (n - 1)) (pk_sub (by omega)) ?_
    refine es_iald hx hb hK.1 hP 2 0 rfl rfl (by omega) (Nat.le_of_ble_eq_true rfl) dX0_failed_17 ?_
    refine lv_if_ne (tgt := 25) hx hb dX0_failed_18 (by decide) (fun c_18 => ?_) (fun c_18 => ?_)
    ·
      refine lv_iconst (v := nI 0) hx hb dX0_failed_25 (by decide) ?_
      exact W.zret (v := nI 0) hx hb hr rfl (fun zt ht hW => ⟨_, rfl, (by show _ = _; first | (rw [if_pos ⟨by omega, c_18⟩]; rfl) | (rw [if_neg (fun h => by omega)]; rfl) | (rw [if_neg (fun h => absurd h.2 c_18)]; rfl)), ht⟩) (fun _ h => by cases h) dX0_failed_26
    ·
      refine lv_iconst (v := nI 1) hx hb dX0_failed_21 (by decide) ?_
      refine lv_goto (tgt := 26) hx hb dX0_failed_22 (by decide) ?_
      exact W.zret (v := nI 1) hx hb hr rfl (fun zt ht hW => ⟨_, rfl, (by show _ = _; first | (rw [if_pos ⟨by omega, c_18⟩]; rfl) | (rw [if_neg (fun h => by omega)]; rfl) | (rw [if_neg (fun h => absurd h.2 c_18)]; rfl)), ht⟩) (fun _ h => by cases h) dX0_failed_26
set_option maxHeartbeats 1000000 in
set_option maxRecDepth 100000 in
/-- X0.tokens  -/
theorem c_X0_tokens (l : Launch) (D : va_G) (cI : ClassId) (f : Nat) (b0 : Nat) (b1 : Nat) (b2 : Nat) (b3 : Nat) (F : Nat → Nat → Int32) (n : Nat) (hn : n ≤ 400) : Met l yX0_tokens (Cond.code yX0_tokens cX0_tokens 1 (some .int) :: es_T) { frames := 1, cells := 0, slots := 0, locals := 20 } (va_Pc [.ref f] (es_R D cI [(f, .inr (0, [.ref b0, .ref b1, .ref b2, .ref b3, .int (nI n)])), (b0, .inl (cI, 400, .inl (F 0))), (b1, .inl (cI, 400, .inl (F 1))), (b2, .inl (cI, 400, .inl (F 2))), (b3, .inl (cI, 400, .inl (F 3)))])) (vp_Si (fun r => r = nI (es_tk F n))) 0 0 (fun _ => False) := by
  refine Met.ofW (cc := cX0_tokens) (maxL := 1) (ret := (some .int)) (by decide) rfl ?_
  intro p e s m args below meth c s₁ B hml hv
  obtain ⟨rfl, hP, hK⟩ := hv
  have hx := B.exec
  have hb := B.bytes
  have hr := B.returns
  have hts := atoms_spec (ws := (Cond.code yX0_tokens cX0_tokens 1 (some .int) :: es_T)) B.pre
  have hw : ∀ w ∈ es_T, w.before _ s = true := fun w h => hts w (List.mem_cons_of_mem _ h)
  have hown : s.vm.findClass RX0 = some m.cls := findClass_of_methodNamed B.named
  have hlocks := B.notSynchronized
  have hRm : 1 ≤ (headSpec (Cond.code yX0_tokens cX0_tokens 1 (some .int) :: es_T) { frames := 1, cells := 0, slots := 0, locals := 20 }).room.frames ∧ 20 ≤ (headSpec (Cond.code yX0_tokens cX0_tokens 1 (some .int) :: es_T) { frames := 1, cells := 0, slots := 0, locals := 20 }).room.locals := ⟨Nat.le_refl _, Nat.le_refl _⟩
  have hRc : 0 ≤ (headSpec (Cond.code yX0_tokens cX0_tokens 1 (some .int) :: es_T) { frames := 1, cells := 0, slots := 0, locals := 20 }).room.cells ∧ 0 ≤ (headSpec (Cond.code yX0_tokens cX0_tokens 1 (some .int) :: es_T) { frames := 1, cells := 0, slots := 0, locals := 20 }).room.slots := ⟨Nat.le_refl _, Nat.le_refl _⟩
  have hl := lv_entry ([.ref f]) (n := 1) (Nat.le_of_ble_eq_true rfl)
  rw [lg_entry_eq]
  generalize (lg_sl ([.ref f]) ++ List.replicate (1 - (lg_sl ([.ref f])).length) Slot.unset).toArray = ls at hl ⊢
  have hl : lv_has ls 1 [(0, .ref f)] := hl
  refine lv_aload_n hx hb dX0_tokens_0 rfl (lv_at hl 0 rfl) ?_
  refine vp_callSi (va_Run.run (va_runV (As := []) (rest := []) ⟨hx, hb, hml, hown, hw⟩ (c_X0_failed l D cI f b0 b1 b2 b3 F n (by first | assumption | omega)) (cwV 0 hw (es_v xw_99 xw_100 xw_101 xw_102 xw_83) rfl rfl rfl kv_X0_failed ⟨Nat.le_trans (Nat.le_of_ble_eq_true rfl) hRm.1, Nat.le_trans (Nat.le_of_ble_eq_true rfl) hRm.2⟩) (es_RV hK (hP.sub (ws' := [(f, .inr (0, [.ref b0, .ref b1, .ref b2, .ref b3, .int (nI n)])), (b0, .inl (cI, 400, .inl (F 0))), (b1, .inl (cI, 400, .inl (F 1))), (b2, .inl (cI, 400, .inl (F 2))), (b3, .inl (cI, 400, .inl (F 3)))]) [0, 1, 2, 3, 4] rfl) rfl rfl) rfl rfl hl.1 rfl (lv_room (Nat.le_of_ble_eq_true rfl)) dX0_tokens_1 ⟨(Nat.zero_le _), (Nat.zero_le _)⟩)) (fun r_1 er_1 => ?_)
  obtain rfl : r_1 = if 0 < n ∧ F 1 (n - 1) = 0 then (1 : Int32) else 0 := er_1
  refine lv_if_eq (tgt := 16) hx hb dX0_tokens_4 (by decide) (fun c_4 => ?_) (fun c_4 => ?_)
  ·
    have c_4 := es_if0 c_4
    refine lv_aload_n hx hb dX0_tokens_16 rfl (lv_at hl 0 rfl) ?_
    refine va_get (D := D) (ci := 0) (v := .int (nI n)) (C := RX0) (T := TX0) (N := 5) hx hb hw iwX0 hown hK.1 hP 0 rfl rfl 4 (by decide) (hw _ xw_77) (fun _ h9 => h9) rfl dX0_tokens_17 ?_
    exact W.iret (v := nI n) hx hb hr (fun zt ht hW => ⟨_, rfl, (by show _ = _; unfold es_tk; first | (rw [if_pos c_4]; done) | (rw [if_neg c_4]; done)), ht⟩) (fun _ h => by cases h) dX0_tokens_20
  ·
    have c_4 := es_if1 c_4
    refine lv_aload_n hx hb dX0_tokens_7 rfl (lv_at hl 0 rfl) ?_
    refine va_get (D := D) (ci := 0) (v := .int (nI n)) (C := RX0) (T := TX0) (N := 5) hx hb hw iwX0 hown hK.1 hP 0 rfl rfl 4 (by decide) (hw _ xw_77) (fun _ h9 => h9) rfl dX0_tokens_8 ?_
    refine lv_iconst (v := nI 1) hx hb dX0_tokens_11 (by decide) ?_
    refine lv_isub hx hb dX0_tokens_12 ?_
    refine es_top (y := nI (n - 1)) (pk_sub (by omega)) ?_
    refine lv_goto (tgt := 20) hx hb dX0_tokens_13 (by decide) ?_
    exact W.iret (v := nI (n - 1)) hx hb hr (fun zt ht hW => ⟨_, rfl, (by show _ = _; unfold es_tk; first | (rw [if_pos c_4]; done) | (rw [if_neg c_4]; done)), ht⟩) (fun _ h => by cases h) dX0_tokens_20
set_option maxHeartbeats 1000000 in
set_option maxRecDepth 100000 in
/-- X0.begin  -/
theorem c_X0_begin (l : Launch) (D : va_G) (cI : ClassId) (f : Nat) (b0 : Nat) (b1 : Nat) (b2 : Nat) (b3 : Nat) (F : Nat → Nat → Int32) (n : Nat) (x : Int32) (hn : n ≤ 400) : Met l yX0_begin (Cond.code yX0_begin cX0_begin 2 (some .int) :: es_T) { frames := 1, cells := 0, slots := 0, locals := 21 } (va_Pc [.ref f, .int x] (es_R D cI [(f, .inr (0, [.ref b0, .ref b1, .ref b2, .ref b3, .int (nI n)])), (b0, .inl (cI, 400, .inl (F 0))), (b1, .inl (cI, 400, .inl (F 1))), (b2, .inl (cI, 400, .inl (F 2))), (b3, .inl (cI, 400, .inl (F 3)))])) (vp_Si (fun r => r = if 0 ≤ x ∧ x < nI n then F 0 x.toNatClampNeg else -1)) 0 0 (fun _ => False) := by
  refine Met.ofW (cc := cX0_begin) (maxL := 2) (ret := (some .int)) (by decide) rfl ?_
  intro p e s m args below meth c s₁ B hml hv
  obtain ⟨rfl, hP, hK⟩ := hv
  have hx := B.exec
  have hb := B.bytes
  have hr := B.returns
  have hts := atoms_spec (ws := (Cond.code yX0_begin cX0_begin 2 (some .int) :: es_T)) B.pre
  have hw : ∀ w ∈ es_T, w.before _ s = true := fun w h => hts w (List.mem_cons_of_mem _ h)
  have hown : s.vm.findClass RX0 = some m.cls := findClass_of_methodNamed B.named
  have hlocks := B.notSynchronized
  have hRm : 1 ≤ (headSpec (Cond.code yX0_begin cX0_begin 2 (some .int) :: es_T) { frames := 1, cells := 0, slots := 0, locals := 21 }).room.frames ∧ 21 ≤ (headSpec (Cond.code yX0_begin cX0_begin 2 (some .int) :: es_T) { frames := 1, cells := 0, slots := 0, locals := 21 }).room.locals := ⟨Nat.le_refl _, Nat.le_refl _⟩
  have hRc : 0 ≤ (headSpec (Cond.code yX0_begin cX0_begin 2 (some .int) :: es_T) { frames := 1, cells := 0, slots := 0, locals := 21 }).room.cells ∧ 0 ≤ (headSpec (Cond.code yX0_begin cX0_begin 2 (some .int) :: es_T) { frames := 1, cells := 0, slots := 0, locals := 21 }).room.slots := ⟨Nat.le_refl _, Nat.le_refl _⟩
  have hl := lv_entry ([.ref f, .int x]) (n := 2) (Nat.le_of_ble_eq_true rfl)
  rw [lg_entry_eq]
  generalize (lg_sl ([.ref f, .int x]) ++ List.replicate (2 - (lg_sl ([.ref f, .int x])).length) Slot.unset).toArray = ls at hl ⊢
  have hl : lv_has ls 2 [(0, .ref f), (1, .int x)] := hl
  refine lv_aload_n hx hb dX0_begin_0 rfl (lv_at hl 0 rfl) ?_
  refine lv_iload_n hx hb dX0_begin_1 rfl (lv_at hl 1 rfl) ?_
  refine vp_callSi (va_Run.run (va_runV (As := [.int x]) (rest := []) ⟨hx, hb, hml, hown, hw⟩ (c_X0_has l D cI f b0 b1 b2 b3 F n x ) (cwV 1 hw (es_v xw_82 xw_84 xw_85 xw_86 xw_83) rfl rfl rfl kv_X0_has ⟨Nat.le_trans (Nat.le_of_ble_eq_true rfl) hRm.1, Nat.le_trans (Nat.le_of_ble_eq_true rfl) hRm.2⟩) (es_RV hK (hP.sub (ws' := [(f, .inr (0, [.ref b0, .ref b1, .ref b2, .ref b3, .int (nI n)])), (b0, .inl (cI, 400, .inl (F 0))), (b1, .inl (cI, 400, .inl (F 1))), (b2, .inl (cI, 400, .inl (F 2))), (b3, .inl (cI, 400, .inl (F 3)))]) [0, 1, 2, 3, 4] rfl) rfl rfl) rfl rfl hl.1 rfl (lv_room (Nat.le_of_ble_eq_true rfl)) dX0_begin_2 ⟨(Nat.zero_le _), (Nat.zero_le _)⟩)) (fun r_1 er_1 => ?_)
  obtain rfl : r_1 = if 0 ≤ x ∧ x < nI n then (1 : Int32) else 0 := er_1
  refine lv_if_eq (tgt := 17) hx hb dX0_begin_5 (by decide) (fun c_5 => ?_) (fun c_5 => ?_)
  ·
    have c_5 := es_if0 c_5
    refine lv_iconst (v := (-1)) hx hb dX0_begin_17 (by decide) ?_
    exact W.iret (v := (-1)) hx hb hr (fun zt ht hW => ⟨_, rfl, (by show _ = _; first | (rw [if_pos c_5]; done) | (rw [if_neg c_5]; done)), ht⟩) (fun _ h => by cases h) dX0_begin_18
  ·
    have c_5 := es_if1 c_5
    refine lv_aload_n hx hb dX0_begin_8 rfl (lv_at hl 0 rfl) ?_
    refine va_get (D := D) (ci := 0) (v := .ref b0) (C := RX0) (T := TX0) (N := 5) hx hb hw iwX0 hown hK.1 hP 0 rfl rfl 0 (by decide) (hw _ xw_78) (fun _ h9 => h9) rfl dX0_begin_9 ?_
    refine lv_iload_n hx hb dX0_begin_12 rfl (lv_at hl 1 rfl) ?_
    refine va_iald hx hb hK.1 hP 1 0 rfl rfl (es_vin c_5 hn (by decide)) dX0_begin_13 ?_
    refine lv_goto (tgt := 18) hx hb dX0_begin_14 (by decide) ?_
    exact W.iret (v := (F 0) (x).toNatClampNeg) hx hb hr (fun zt ht hW => ⟨_, rfl, (by show _ = _; first | (rw [if_pos c_5]; done) | (rw [if_neg c_5]; done)), ht⟩) (fun _ h => by cases h) dX0_begin_18
set_option maxHeartbeats 1000000 in
set_option maxRecDepth 100000 in
/-- X0.length  -/
theorem c_X0_length (l : Launch) (D : va_G) (cI : ClassId) (f : Nat) (b0 : Nat) (b1 : Nat) (b2 : Nat) (b3 : Nat) (F : Nat → Nat → Int32) (n : Nat) (x : Int32) (hn : n ≤ 400) : Met l yX0_length (Cond.code yX0_length cX0_length 2 (some .int) :: es_T) { frames := 1, cells := 0, slots := 0, locals := 21 } (va_Pc [.ref f, .int x] (es_R D cI [(f, .inr (0, [.ref b0, .ref b1, .ref b2, .ref b3, .int (nI n)])), (b0, .inl (cI, 400, .inl (F 0))), (b1, .inl (cI, 400, .inl (F 1))), (b2, .inl (cI, 400, .inl (F 2))), (b3, .inl (cI, 400, .inl (F 3)))])) (vp_Si (fun r => r = if 0 ≤ x ∧ x < nI n then F 1 x.toNatClampNeg else -1)) 0 0 (fun _ => False) := by
  refine Met.ofW (cc := cX0_length) (maxL := 2) (ret := (some .int)) (by decide) rfl ?_
  intro p e s m args below meth c s₁ B hml hv
  obtain ⟨rfl, hP, hK⟩ := hv
  have hx := B.exec
  have hb := B.bytes
  have hr := B.returns
  have hts := atoms_spec (ws := (Cond.code yX0_length cX0_length 2 (some .int) :: es_T)) B.pre
  have hw : ∀ w ∈ es_T, w.before _ s = true := fun w h => hts w (List.mem_cons_of_mem _ h)
  have hown : s.vm.findClass RX0 = some m.cls := findClass_of_methodNamed B.named
  have hlocks := B.notSynchronized
  have hRm : 1 ≤ (headSpec (Cond.code yX0_length cX0_length 2 (some .int) :: es_T) { frames := 1, cells := 0, slots := 0, locals := 21 }).room.frames ∧ 21 ≤ (headSpec (Cond.code yX0_length cX0_length 2 (some .int) :: es_T) { frames := 1, cells := 0, slots := 0, locals := 21 }).room.locals := ⟨Nat.le_refl _, Nat.le_refl _⟩
  have hRc : 0 ≤ (headSpec (Cond.code yX0_length cX0_length 2 (some .int) :: es_T) { frames := 1, cells := 0, slots := 0, locals := 21 }).room.cells ∧ 0 ≤ (headSpec (Cond.code yX0_length cX0_length 2 (some .int) :: es_T) { frames := 1, cells := 0, slots := 0, locals := 21 }).room.slots := ⟨Nat.le_refl _, Nat.le_refl _⟩
  have hl := lv_entry ([.ref f, .int x]) (n := 2) (Nat.le_of_ble_eq_true rfl)
  rw [lg_entry_eq]
  generalize (lg_sl ([.ref f, .int x]) ++ List.replicate (2 - (lg_sl ([.ref f, .int x])).length) Slot.unset).toArray = ls at hl ⊢
  have hl : lv_has ls 2 [(0, .ref f), (1, .int x)] := hl
  refine lv_aload_n hx hb dX0_length_0 rfl (lv_at hl 0 rfl) ?_
  refine lv_iload_n hx hb dX0_length_1 rfl (lv_at hl 1 rfl) ?_
  refine vp_callSi (va_Run.run (va_runV (As := [.int x]) (rest := []) ⟨hx, hb, hml, hown, hw⟩ (c_X0_has l D cI f b0 b1 b2 b3 F n x ) (cwV 1 hw (es_v xw_82 xw_84 xw_85 xw_86 xw_83) rfl rfl rfl kv_X0_has ⟨Nat.le_trans (Nat.le_of_ble_eq_true rfl) hRm.1, Nat.le_trans (Nat.le_of_ble_eq_true rfl) hRm.2⟩) (es_RV hK (hP.sub (ws' := [(f, .inr (0, [.ref b0, .ref b1, .ref b2, .ref b3, .int (nI n)])), (b0, .inl (cI, 400, .inl (F 0))), (b1, .inl (cI, 400, .inl (F 1))), (b2, .inl (cI, 400, .inl (F 2))), (b3, .inl (cI, 400, .inl (F 3)))]) [0, 1, 2, 3, 4] rfl) rfl rfl) rfl rfl hl.1 rfl (lv_room (Nat.le_of_ble_eq_true rfl)) dX0_length_2 ⟨(Nat.zero_le _), (Nat.zero_le _)⟩)) (fun r_1 er_1 => ?_)
  obtain rfl : r_1 = if 0 ≤ x ∧ x < nI n then (1 : Int32) else 0 := er_1
  refine lv_if_eq (tgt := 17) hx hb dX0_length_5 (by decide) (fun c_5 => ?_) (fun c_5 => ?_)
  ·
    have c_5 := es_if0 c_5
    refine lv_iconst (v := (-1)) hx hb dX0_length_17 (by decide) ?_
    exact W.iret (v := (-1)) hx hb hr (fun zt ht hW => ⟨_, rfl, (by show _ = _; first | (rw [if_pos c_5]; done) | (rw [if_neg c_5]; done)), ht⟩) (fun _ h => by cases h) dX0_length_18
  ·
    have c_5 := es_if1 c_5
    refine lv_aload_n hx hb dX0_length_8 rfl (lv_at hl 0 rfl) ?_
    refine va_get (D := D) (ci := 0) (v := .ref b1) (C := RX0) (T := TX0) (N := 5) hx hb hw iwX0 hown hK.1 hP 0 rfl rfl 1 (by decide) (hw _ xw_79) (fun _ h9 => h9) rfl dX0_length_9 ?_
    refine lv_iload_n hx hb dX0_length_12 rfl (lv_at hl 1 rfl) ?_
    refine va_iald hx hb hK.1 hP 2 0 rfl rfl (es_vin c_5 hn (by decide)) dX0_length_13 ?_
    refine lv_goto (tgt := 18) hx hb dX0_length_14 (by decide) ?_
    exact W.iret (v := (F 1) (x).toNatClampNeg) hx hb hr (fun zt ht hW => ⟨_, rfl, (by show _ = _; first | (rw [if_pos c_5]; done) | (rw [if_neg c_5]; done)), ht⟩) (fun _ h => by cases h) dX0_length_18
set_option maxHeartbeats 1000000 in
set_option maxRecDepth 100000 in
/-- X0.kindFound  -/
theorem c_X0_kindFound (l : Launch) (D : va_G) (cI : ClassId) (f : Nat) (b0 : Nat) (b1 : Nat) (b2 : Nat) (b3 : Nat) (F : Nat → Nat → Int32) (n : Nat) (x : Int32) (hn : n ≤ 400) : Met l yX0_kindFound (Cond.code yX0_kindFound cX0_kindFound 2 (some .int) :: es_T) { frames := 1, cells := 0, slots := 0, locals := 21 } (va_Pc [.ref f, .int x] (es_R D cI [(f, .inr (0, [.ref b0, .ref b1, .ref b2, .ref b3, .int (nI n)])), (b0, .inl (cI, 400, .inl (F 0))), (b1, .inl (cI, 400, .inl (F 1))), (b2, .inl (cI, 400, .inl (F 2))), (b3, .inl (cI, 400, .inl (F 3)))])) (vp_Si (fun r => r = if 0 ≤ x ∧ x < nI n then F 2 x.toNatClampNeg else -1)) 0 0 (fun _ => False) := by
  refine Met.ofW (cc := cX0_kindFound) (maxL := 2) (ret := (some .int)) (by decide) rfl ?_
  intro p e s m args below meth c s₁ B hml hv
  obtain ⟨rfl, hP, hK⟩ := hv
  have hx := B.exec
  have hb := B.bytes
  have hr := B.returns
  have hts := atoms_spec (ws := (Cond.code yX0_kindFound cX0_kindFound 2 (some .int) :: es_T)) B.pre
  have hw : ∀ w ∈ es_T, w.before _ s = true := fun w h => hts w (List.mem_cons_of_mem _ h)
  have hown : s.vm.findClass RX0 = some m.cls := findClass_of_methodNamed B.named
  have hlocks := B.notSynchronized
  have hRm : 1 ≤ (headSpec (Cond.code yX0_kindFound cX0_kindFound 2 (some .int) :: es_T) { frames := 1, cells := 0, slots := 0, locals := 21 }).room.frames ∧ 21 ≤ (headSpec (Cond.code yX0_kindFound cX0_kindFound 2 (some .int) :: es_T) { frames := 1, cells := 0, slots := 0, locals := 21 }).room.locals := ⟨Nat.le_refl _, Nat.le_refl _⟩
  have hRc : 0 ≤ (headSpec (Cond.code yX0_kindFound cX0_kindFound 2 (some .int) :: es_T) { frames := 1, cells := 0, slots := 0, locals := 21 }).room.cells ∧ 0 ≤ (headSpec (Cond.code yX0_kindFound cX0_kindFound 2 (some .int) :: es_T) { frames := 1, cells := 0, slots := 0, locals := 21 }).room.slots := ⟨Nat.le_refl _, Nat.le_refl _⟩
  have hl := lv_entry ([.ref f, .int x]) (n := 2) (Nat.le_of_ble_eq_true rfl)
  rw [lg_entry_eq]
  generalize (lg_sl ([.ref f, .int x]) ++ List.replicate (2 - (lg_sl ([.ref f, .int x])).length) Slot.unset).toArray = ls at hl ⊢
  have hl : lv_has ls 2 [(0, .ref f), (1, .int x)] := hl
  refine lv_aload_n hx hb dX0_kindFound_0 rfl (lv_at hl 0 rfl) ?_
  refine lv_iload_n hx hb dX0_kindFound_1 rfl (lv_at hl 1 rfl) ?_
  refine vp_callSi (va_Run.run (va_runV (As := [.int x]) (rest := []) ⟨hx, hb, hml, hown, hw⟩ (c_X0_has l D cI f b0 b1 b2 b3 F n x ) (cwV 1 hw (es_v xw_82 xw_84 xw_85 xw_86 xw_83) rfl rfl rfl kv_X0_has ⟨Nat.le_trans (Nat.le_of_ble_eq_true rfl) hRm.1, Nat.le_trans (Nat.le_of_ble_eq_true rfl) hRm.2⟩) (es_RV hK (hP.sub (ws' := [(f, .inr (0, [.ref b0, .ref b1, .ref b2, .ref b3, .int (nI n)])), (b0, .inl (cI, 400, .inl (F 0))), (b1, .inl (cI, 400, .inl (F 1))), (b2, .inl (cI, 400, .inl (F 2))), (b3, .inl (cI, 400, .inl (F 3)))]) [0, 1, 2, 3, 4] rfl) rfl rfl) rfl rfl hl.1 rfl (lv_room (Nat.le_of_ble_eq_true rfl)) dX0_kindFound_2 ⟨(Nat.zero_le _), (Nat.zero_le _)⟩)) (fun r_1 er_1 => ?_)
  obtain rfl : r_1 = if 0 ≤ x ∧ x < nI n then (1 : Int32) else 0 := er_1
  refine lv_if_eq (tgt := 17) hx hb dX0_kindFound_5 (by decide) (fun c_5 => ?_) (fun c_5 => ?_)
  ·
    have c_5 := es_if0 c_5
    refine lv_iconst (v := (-1)) hx hb dX0_kindFound_17 (by decide) ?_
    exact W.iret (v := (-1)) hx hb hr (fun zt ht hW => ⟨_, rfl, (by show _ = _; first | (rw [if_pos c_5]; done) | (rw [if_neg c_5]; done)), ht⟩) (fun _ h => by cases h) dX0_kindFound_18
  ·
    have c_5 := es_if1 c_5
    refine lv_aload_n hx hb dX0_kindFound_8 rfl (lv_at hl 0 rfl) ?_
    refine va_get (D := D) (ci := 0) (v := .ref b2) (C := RX0) (T := TX0) (N := 5) hx hb hw iwX0 hown hK.1 hP 0 rfl rfl 2 (by decide) (hw _ xw_80) (fun _ h9 => h9) rfl dX0_kindFound_9 ?_
    refine lv_iload_n hx hb dX0_kindFound_12 rfl (lv_at hl 1 rfl) ?_
    refine va_iald hx hb hK.1 hP 3 0 rfl rfl (es_vin c_5 hn (by decide)) dX0_kindFound_13 ?_
    refine lv_goto (tgt := 18) hx hb dX0_kindFound_14 (by decide) ?_
    exact W.iret (v := (F 2) (x).toNatClampNeg) hx hb hr (fun zt ht hW => ⟨_, rfl, (by show _ = _; first | (rw [if_pos c_5]; done) | (rw [if_neg c_5]; done)), ht⟩) (fun _ h => by cases h) dX0_kindFound_18
set_option maxHeartbeats 1000000 in
set_option maxRecDepth 100000 in
/-- X0.looked  -/
theorem c_X0_looked (l : Launch) (D : va_G) (cI : ClassId) (f : Nat) (b0 : Nat) (b1 : Nat) (b2 : Nat) (b3 : Nat) (F : Nat → Nat → Int32) (n : Nat) (x : Int32) (hn : n ≤ 400) : Met l yX0_looked (Cond.code yX0_looked cX0_looked 2 (some .int) :: es_T) { frames := 1, cells := 0, slots := 0, locals := 21 } (va_Pc [.ref f, .int x] (es_R D cI [(f, .inr (0, [.ref b0, .ref b1, .ref b2, .ref b3, .int (nI n)])), (b0, .inl (cI, 400, .inl (F 0))), (b1, .inl (cI, 400, .inl (F 1))), (b2, .inl (cI, 400, .inl (F 2))), (b3, .inl (cI, 400, .inl (F 3)))])) (vp_Si (fun r => r = if 0 ≤ x ∧ x < nI n then F 3 x.toNatClampNeg else -1)) 0 0 (fun _ => False) := by
  refine Met.ofW (cc := cX0_looked) (maxL := 2) (ret := (some .int)) (by decide) rfl ?_
  intro p e s m args below meth c s₁ B hml hv
  obtain ⟨rfl, hP, hK⟩ := hv
  have hx := B.exec
  have hb := B.bytes
  have hr := B.returns
  have hts := atoms_spec (ws := (Cond.code yX0_looked cX0_looked 2 (some .int) :: es_T)) B.pre
  have hw : ∀ w ∈ es_T, w.before _ s = true := fun w h => hts w (List.mem_cons_of_mem _ h)
  have hown : s.vm.findClass RX0 = some m.cls := findClass_of_methodNamed B.named
  have hlocks := B.notSynchronized
  have hRm : 1 ≤ (headSpec (Cond.code yX0_looked cX0_looked 2 (some .int) :: es_T) { frames := 1, cells := 0, slots := 0, locals := 21 }).room.frames ∧ 21 ≤ (headSpec (Cond.code yX0_looked cX0_looked 2 (some .int) :: es_T) { frames := 1, cells := 0, slots := 0, locals := 21 }).room.locals := ⟨Nat.le_refl _, Nat.le_refl _⟩
  have hRc : 0 ≤ (headSpec (Cond.code yX0_looked cX0_looked 2 (some .int) :: es_T) { frames := 1, cells := 0, slots := 0, locals := 21 }).room.cells ∧ 0 ≤ (headSpec (Cond.code yX0_looked cX0_looked 2 (some .int) :: es_T) { frames := 1, cells := 0, slots := 0, locals := 21 }).room.slots := ⟨Nat.le_refl _, Nat.le_refl _⟩
  have hl := lv_entry ([.ref f, .int x]) (n := 2) (Nat.le_of_ble_eq_true rfl)
  rw [lg_entry_eq]
  generalize (lg_sl ([.ref f, .int x]) ++ List.replicate (2 - (lg_sl ([.ref f, .int x])).length) Slot.unset).toArray = ls at hl ⊢
  have hl : lv_has ls 2 [(0, .ref f), (1, .int x)] := hl
  refine lv_aload_n hx hb dX0_looked_0 rfl (lv_at hl 0 rfl) ?_
  refine lv_iload_n hx hb dX0_looked_1 rfl (lv_at hl 1 rfl) ?_
  refine vp_callSi (va_Run.run (va_runV (As := [.int x]) (rest := []) ⟨hx, hb, hml, hown, hw⟩ (c_X0_has l D cI f b0 b1 b2 b3 F n x ) (cwV 1 hw (es_v xw_82 xw_84 xw_85 xw_86 xw_83) rfl rfl rfl kv_X0_has ⟨Nat.le_trans (Nat.le_of_ble_eq_true rfl) hRm.1, Nat.le_trans (Nat.le_of_ble_eq_true rfl) hRm.2⟩) (es_RV hK (hP.sub (ws' := [(f, .inr (0, [.ref b0, .ref b1, .ref b2, .ref b3, .int (nI n)])), (b0, .inl (cI, 400, .inl (F 0))), (b1, .inl (cI, 400, .inl (F 1))), (b2, .inl (cI, 400, .inl (F 2))), (b3, .inl (cI, 400, .inl (F 3)))]) [0, 1, 2, 3, 4] rfl) rfl rfl) rfl rfl hl.1 rfl (lv_room (Nat.le_of_ble_eq_true rfl)) dX0_looked_2 ⟨(Nat.zero_le _), (Nat.zero_le _)⟩)) (fun r_1 er_1 => ?_)
  obtain rfl : r_1 = if 0 ≤ x ∧ x < nI n then (1 : Int32) else 0 := er_1
  refine lv_if_eq (tgt := 17) hx hb dX0_looked_5 (by decide) (fun c_5 => ?_) (fun c_5 => ?_)
  ·
    have c_5 := es_if0 c_5
    refine lv_iconst (v := (-1)) hx hb dX0_looked_17 (by decide) ?_
    exact W.iret (v := (-1)) hx hb hr (fun zt ht hW => ⟨_, rfl, (by show _ = _; first | (rw [if_pos c_5]; done) | (rw [if_neg c_5]; done)), ht⟩) (fun _ h => by cases h) dX0_looked_18
  ·
    have c_5 := es_if1 c_5
    refine lv_aload_n hx hb dX0_looked_8 rfl (lv_at hl 0 rfl) ?_
    refine va_get (D := D) (ci := 0) (v := .ref b3) (C := RX0) (T := TX0) (N := 5) hx hb hw iwX0 hown hK.1 hP 0 rfl rfl 3 (by decide) (hw _ xw_81) (fun _ h9 => h9) rfl dX0_looked_9 ?_
    refine lv_iload_n hx hb dX0_looked_12 rfl (lv_at hl 1 rfl) ?_
    refine va_iald hx hb hK.1 hP 4 0 rfl rfl (es_vin c_5 hn (by decide)) dX0_looked_13 ?_
    refine lv_goto (tgt := 18) hx hb dX0_looked_14 (by decide) ?_
    exact W.iret (v := (F 3) (x).toNatClampNeg) hx hb hr (fun zt ht hW => ⟨_, rfl, (by show _ = _; first | (rw [if_pos c_5]; done) | (rw [if_neg c_5]; done)), ht⟩) (fun _ h => by cases h) dX0_looked_18
set_option maxHeartbeats 1000000 in
set_option maxRecDepth 100000 in
/-- X0.nextBegin  -/
theorem c_X0_nextBegin (l : Launch) (D : va_G) (cI : ClassId) (f : Nat) (b0 : Nat) (b1 : Nat) (b2 : Nat) (b3 : Nat) (F : Nat → Nat → Int32) (n : Nat) (hn : n ≤ 400) : Met l yX0_nextBegin (Cond.code yX0_nextBegin cX0_nextBegin 1 (some .int) :: es_T) { frames := 0, cells := 0, slots := 0, locals := 0 } (va_Pc [.ref f] (es_R D cI [(f, .inr (0, [.ref b0, .ref b1, .ref b2, .ref b3, .int (nI n)])), (b0, .inl (cI, 400, .inl (F 0))), (b1, .inl (cI, 400, .inl (F 1))), (b2, .inl (cI, 400, .inl (F 2))), (b3, .inl (cI, 400, .inl (F 3)))])) (vp_Si (fun r => r = if 0 < n then F 0 (n - 1) + F 1 (n - 1) else 0)) 0 0 (fun _ => False) := by
  refine Met.ofW (cc := cX0_nextBegin) (maxL := 1) (ret := (some .int)) (by decide) rfl ?_
  intro p e s m args below meth c s₁ B hml hv
  obtain ⟨rfl, hP, hK⟩ := hv
  have hx := B.exec
  have hb := B.bytes
  have hr := B.returns
  have hts := atoms_spec (ws := (Cond.code yX0_nextBegin cX0_nextBegin 1 (some .int) :: es_T)) B.pre
  have hw : ∀ w ∈ es_T, w.before _ s = true := fun w h => hts w (List.mem_cons_of_mem _ h)
  have hown : s.vm.findClass RX0 = some m.cls := findClass_of_methodNamed B.named
  have hlocks := B.notSynchronized
  have hRm : 0 ≤ (headSpec (Cond.code yX0_nextBegin cX0_nextBegin 1 (some .int) :: es_T) { frames := 0, cells := 0, slots := 0, locals := 0 }).room.frames ∧ 0 ≤ (headSpec (Cond.code yX0_nextBegin cX0_nextBegin 1 (some .int) :: es_T) { frames := 0, cells := 0, slots := 0, locals := 0 }).room.locals := ⟨Nat.le_refl _, Nat.le_refl _⟩
  have hRc : 0 ≤ (headSpec (Cond.code yX0_nextBegin cX0_nextBegin 1 (some .int) :: es_T) { frames := 0, cells := 0, slots := 0, locals := 0 }).room.cells ∧ 0 ≤ (headSpec (Cond.code yX0_nextBegin cX0_nextBegin 1 (some .int) :: es_T) { frames := 0, cells := 0, slots := 0, locals := 0 }).room.slots := ⟨Nat.le_refl _, Nat.le_refl _⟩
  have hl := lv_entry ([.ref f]) (n := 1) (Nat.le_of_ble_eq_true rfl)
  rw [lg_entry_eq]
  generalize (lg_sl ([.ref f]) ++ List.replicate (1 - (lg_sl ([.ref f])).length) Slot.unset).toArray = ls at hl ⊢
  have hl : lv_has ls 1 [(0, .ref f)] := hl
  refine lv_aload_n hx hb dX0_nextBegin_0 rfl (lv_at hl 0 rfl) ?_
  refine va_get (D := D) (ci := 0) (v := .int (nI n)) (C := RX0) (T := TX0) (N := 5) hx hb hw iwX0 hown hK.1 hP 0 rfl rfl 4 (by decide) (hw _ xw_77) (fun _ h9 => h9) rfl dX0_nextBegin_1 ?_
  refine lv_if_le (tgt := 33) hx hb dX0_nextBegin_4 (by decide) (fun c_4 => ?_) (fun c_4 => ?_)
  ·
    have c_4 := (nI_leI (a := n) (b := 0) (by omega) (by omega)).mp c_4
    refine lv_iconst (v := nI 0) hx hb dX0_nextBegin_33 (by decide) ?_
    exact W.iret (v := nI 0) hx hb hr (fun zt ht hW => ⟨_, rfl, (by show _ = _; first | (rw [if_pos (by omega)]; done) | (rw [if_neg (by omega)]; rfl)), ht⟩) (fun _ h => by cases h) dX0_nextBegin_34
  ·
    have c_4 := (mt (nI_leI (a := n) (b := 0) (by omega) (by omega)).mpr c_4)
    refine lv_aload_n hx hb dX0_nextBegin_7 rfl (lv_at hl 0 rfl) ?_
    refine va_get (D := D) (ci := 0) (v := .ref b0) (C := RX0) (T := TX0) (N := 5) hx hb hw iwX0 hown hK.1 hP 0 rfl rfl 0 (by decide) (hw _ xw_78) (fun _ h9 => h9) rfl dX0_nextBegin_8 ?_
    refine lv_aload_n hx hb dX0_nextBegin_11 rfl (lv_at hl 0 rfl) ?_
    refine va_get (D := D) (ci := 0) (v := .int (nI n)) (C := RX0) (T := TX0) (N := 5) hx hb hw iwX0 hown hK.1 hP 0 rfl rfl 4 (by decide) (hw _ xw_77) (fun _ h9 => h9) rfl dX0_nextBegin_12 ?_
    refine lv_iconst (v := nI 1) hx hb dX0_nextBegin_15 (by decide) ?_
    refine lv_isub hx hb dX0_nextBegin_16 ?_
    refine es_top (y := nI (n - 1)) (pk_sub (by omega)) ?_
    refine es_iald hx hb hK.1 hP 1 0 rfl rfl (by omega) (Nat.le_of_ble_eq_true rfl) dX0_nextBegin_17 ?_
    refine lv_aload_n hx hb dX0_nextBegin_18 rfl (lv_at hl 0 rfl) ?_
    refine va_get (D := D) (ci := 0) (v := .ref b1) (C := RX0) (T := TX0) (N := 5) hx hb hw iwX0 hown hK.1 hP 0 rfl rfl 1 (by decide) (hw _ xw_79) (fun _ h9 => h9) rfl dX0_nextBegin_19 ?_
    refine lv_aload_n hx hb dX0_nextBegin_22 rfl (lv_at hl 0 rfl) ?_
    refine va_get (D := D) (ci := 0) (v := .int (nI n)) (C := RX0) (T := TX0) (N := 5) hx hb hw iwX0 hown hK.1 hP 0 rfl rfl 4 (by decide) (hw _ xw_77) (fun _ h9 => h9) rfl dX0_nextBegin_23 ?_
    refine lv_iconst (v := nI 1) hx hb dX0_nextBegin_26 (by decide) ?_
    refine lv_isub hx hb dX0_nextBegin_27 ?_
    refine es_top (y := nI (n - 1)) (pk_sub (by omega)) ?_
    refine es_iald hx hb hK.1 hP 2 0 rfl rfl (by omega) (Nat.le_of_ble_eq_true rfl) dX0_nextBegin_28 ?_
    refine lv_iadd hx hb dX0_nextBegin_29 ?_
    refine lv_goto (tgt := 34) hx hb dX0_nextBegin_30 (by decide) ?_
    exact W.iret (v := ((F 0) (n - 1)) + ((F 1) (n - 1))) hx hb hr (fun zt ht hW => ⟨_, rfl, (by show _ = _; first | (rw [if_pos (by omega)]; done) | (rw [if_neg (by omega)]; rfl)), ht⟩) (fun _ h => by cases h) dX0_nextBegin_34
set_option maxHeartbeats 1000000 in
set_option maxRecDepth 100000 in
theorem lp_tokenAround {p : Program} {l : Launch} {e : Env} {R : Room} {s : State} {m : MethodId} {args : Array Value} {below : List Frame} {meth : Method} {c : Code} {Q : State → Prop} {H : Heap} {locs : List Loc} (D : va_G) (cI : ClassId) (f : Nat) (b0 : Nat) (b1 : Nat) (b2 : Nat) (b3 : Nat) (F : Nat → Nat → Int32) (n : Nat) (x : Int32) (hx : p.tables.exec = Jvm.exec) (hb : c.code = cX0_tokenAround) (hml : c.maxLocals = 3) (hown : s.vm.findClass RX0 = some m.cls) (hw : ∀ w ∈ es_T, w.before args s = true) (hK : es_K D cI s) (hRm : 0 ≤ R.frames ∧ 0 ≤ R.locals) (hP : va_P D vwCl [(f, .inr (0, [.ref b0, .ref b1, .ref b2, .ref b3, .int (nI n)])), (b0, .inl (cI, 400, .inl (F 0))), (b1, .inl (cI, 400, .inl (F 1))), (b2, .inl (cI, 400, .inl (F 2))), (b3, .inl (cI, 400, .inl (F 3)))] H) (hn : n ≤ 400) (hx1 : ∀ (i : Nat), (i < n) → (∀ j, j < i → ¬ (F 0 j ≤ x ∧ x < F 0 j + F 1 j)) → (F 0 i ≤ x ∧ x < F 0 i + F 1 i) → ∀ (ls : Array Slot), lv_has ls 3 [(0, .ref f)] →  W p l e R s m args below meth c H locs 0 0 Q (F0 m 38 ls [.int (nI i)])) (hx2 : ∀ (_ : Unit), (∀ j, j < n → ¬ (F 0 j ≤ x ∧ x < F 0 j + F 1 j)) → ∀ (ls : Array Slot), lv_has ls 3 [(0, .ref f)] →  W p l e R s m args below meth c H locs 0 0 Q (F0 m 45 ls [])) : ∀ (N : Nat) (i : Nat), (i ≤ n) → (∀ j, j < i → ¬ (F 0 j ≤ x ∧ x < F 0 j + F 1 j)) → (n - i) < N → ∀ (ls : Array Slot), lv_has ls 3 [(0, .ref f), (1, .int x), (2, .int (nI i))] →  W p l e R s m args below meth c H locs 0 0 Q (F0 m 2 ls []) := by
  intro N
  induction N with
  | zero =>
    intro i hi hj hN
    exact absurd hN (Nat.not_lt_zero _)
  | succ N ih =>
    intro i hi hj hN ls hl
    refine lv_iload_n hx hb dX0_tokenAround_2 rfl (lv_at hl 2 rfl) ?_
    refine lv_aload_n hx hb dX0_tokenAround_3 rfl (lv_at hl 0 rfl) ?_
    refine va_get (D := D) (ci := 0) (v := .int (nI n)) (C := RX0) (T := TX0) (N := 5) hx hb hw iwX0 hown hK.1 hP 0 rfl rfl 4 (by decide) (hw _ xw_77) (fun _ h9 => h9) rfl dX0_tokenAround_4 ?_
    refine lv_icmp_ge (tgt := 45) hx hb dX0_tokenAround_7 (by decide) (fun c_7 => ?_) (fun c_7 => ?_)
    ·
      have c_7 := (nI_leI (by omega) (by omega)).mp c_7
      exact hx2 () (fun j h => hj j (by omega))  ls (lv_sub hl [0] rfl)
    ·
      have c_7 := (mt (nI_leI (by omega) (by omega)).mpr c_7)
      refine lv_iload_n hx hb dX0_tokenAround_10 rfl (lv_at hl 1 rfl) ?_
      refine lv_aload_n hx hb dX0_tokenAround_11 rfl (lv_at hl 0 rfl) ?_
      refine va_get (D := D) (ci := 0) (v := .ref b0) (C := RX0) (T := TX0) (N := 5) hx hb hw iwX0 hown hK.1 hP 0 rfl rfl 0 (by decide) (hw _ xw_78) (fun _ h9 => h9) rfl dX0_tokenAround_12 ?_
      refine lv_iload_n hx hb dX0_tokenAround_15 rfl (lv_at hl 2 rfl) ?_
      refine es_iald hx hb hK.1 hP 1 0 rfl rfl (by omega) (Nat.le_of_ble_eq_true rfl) dX0_tokenAround_16 ?_
      refine lv_icmp_lt (tgt := 39) hx hb dX0_tokenAround_17 (by decide) (fun c_17 => ?_) (fun c_17 => ?_)
      ·
        refine lv_iinc (v := nI (i + 1)) (lv' := [(2, .int (nI (i + 1))), (0, .ref f), (1, .int x)]) hx hb dX0_tokenAround_39 hl (k := 2) rfl (nI_1 _) (by decide) rfl (fun ls hl => ?_)
        refine lv_goto (tgt := 2) hx hb dX0_tokenAround_42 (by decide) ?_
        exact ih (i + 1) (by first | assumption | omega) (lt_s hj (fun h => by first | exact absurd c_17 (Int32.not_lt.mpr h.1) | exact absurd h.2 (Int32.not_lt.mpr c_34))) (by omega) ls (lv_sub hl [1, 2, 0] rfl)
      ·
        refine lv_iload_n hx hb dX0_tokenAround_20 rfl (lv_at hl 1 rfl) ?_
        refine lv_aload_n hx hb dX0_tokenAround_21 rfl (lv_at hl 0 rfl) ?_
        refine va_get (D := D) (ci := 0) (v := .ref b0) (C := RX0) (T := TX0) (N := 5) hx hb hw iwX0 hown hK.1 hP 0 rfl rfl 0 (by decide) (hw _ xw_78) (fun _ h9 => h9) rfl dX0_tokenAround_22 ?_
        refine lv_iload_n hx hb dX0_tokenAround_25 rfl (lv_at hl 2 rfl) ?_
        refine es_iald hx hb hK.1 hP 1 0 rfl rfl (by omega) (Nat.le_of_ble_eq_true rfl) dX0_tokenAround_26 ?_
        refine lv_aload_n hx hb dX0_tokenAround_27 rfl (lv_at hl 0 rfl) ?_
        refine va_get (D := D) (ci := 0) (v := .ref b1) (C := RX0) (T := TX0) (N := 5) hx hb hw iwX0 hown hK.1 hP 0 rfl rfl 1 (by decide) (hw _ xw_79) (fun _ h9 => h9) rfl dX0_tokenAround_28 ?_
        refine lv_iload_n hx hb dX0_tokenAround_31 rfl (lv_at hl 2 rfl) ?_
        refine es_iald hx hb hK.1 hP 2 0 rfl rfl (by omega) (Nat.le_of_ble_eq_true rfl) dX0_tokenAround_32 ?_
        refine lv_iadd hx hb dX0_tokenAround_33 ?_
        refine lv_icmp_ge (tgt := 39) hx hb dX0_tokenAround_34 (by decide) (fun c_34 => ?_) (fun c_34 => ?_)
        ·
          refine lv_iinc (v := nI (i + 1)) (lv' := [(2, .int (nI (i + 1))), (0, .ref f), (1, .int x)]) hx hb dX0_tokenAround_39 hl (k := 2) rfl (nI_1 _) (by decide) rfl (fun ls hl => ?_)
          refine lv_goto (tgt := 2) hx hb dX0_tokenAround_42 (by decide) ?_
          exact ih (i + 1) (by first | assumption | omega) (lt_s hj (fun h => by first | exact absurd c_17 (Int32.not_lt.mpr h.1) | exact absurd h.2 (Int32.not_lt.mpr c_34))) (by omega) ls (lv_sub hl [1, 2, 0] rfl)
        ·
          refine lv_iload_n hx hb dX0_tokenAround_37 rfl (lv_at hl 2 rfl) ?_
          exact hx1 i (by first | assumption | omega) (by first | assumption | omega) ⟨Int32.not_lt.mp c_17, Int32.not_le.mp c_34⟩  ls (lv_sub hl [0] rfl)
set_option maxHeartbeats 1000000 in
set_option maxRecDepth 100000 in
/-- X0.tokenAround  -/
theorem c_X0_tokenAround (l : Launch) (D : va_G) (cI : ClassId) (f : Nat) (b0 : Nat) (b1 : Nat) (b2 : Nat) (b3 : Nat) (F : Nat → Nat → Int32) (n : Nat) (x : Int32) (hn : n ≤ 400) : Met l yX0_tokenAround (Cond.code yX0_tokenAround cX0_tokenAround 3 (some .int) :: es_T) { frames := 0, cells := 0, slots := 0, locals := 0 } (va_Pc [.ref f, .int x] (es_R D cI [(f, .inr (0, [.ref b0, .ref b1, .ref b2, .ref b3, .int (nI n)])), (b0, .inl (cI, 400, .inl (F 0))), (b1, .inl (cI, 400, .inl (F 1))), (b2, .inl (cI, 400, .inl (F 2))), (b3, .inl (cI, 400, .inl (F 3)))])) (vp_Si (fun r => ∃ i : Nat, i ≤ n ∧ (∀ j, j < i → ¬ (F 0 j ≤ x ∧ x < F 0 j + F 1 j)) ∧ ((i = n ∧ r = -1) ∨ (i < n ∧ (F 0 i ≤ x ∧ x < F 0 i + F 1 i) ∧ r = nI i)))) 0 0 (fun _ => False) := by
  refine Met.ofW (cc := cX0_tokenAround) (maxL := 3) (ret := (some .int)) (by decide) rfl ?_
  intro p e s m args below meth c s₁ B hml hv
  obtain ⟨rfl, hP, hK⟩ := hv
  have hx := B.exec
  have hb := B.bytes
  have hr := B.returns
  have hts := atoms_spec (ws := (Cond.code yX0_tokenAround cX0_tokenAround 3 (some .int) :: es_T)) B.pre
  have hw : ∀ w ∈ es_T, w.before _ s = true := fun w h => hts w (List.mem_cons_of_mem _ h)
  have hown : s.vm.findClass RX0 = some m.cls := findClass_of_methodNamed B.named
  have hlocks := B.notSynchronized
  have hRm : 0 ≤ (headSpec (Cond.code yX0_tokenAround cX0_tokenAround 3 (some .int) :: es_T) { frames := 0, cells := 0, slots := 0, locals := 0 }).room.frames ∧ 0 ≤ (headSpec (Cond.code yX0_tokenAround cX0_tokenAround 3 (some .int) :: es_T) { frames := 0, cells := 0, slots := 0, locals := 0 }).room.locals := ⟨Nat.le_refl _, Nat.le_refl _⟩
  have hRc : 0 ≤ (headSpec (Cond.code yX0_tokenAround cX0_tokenAround 3 (some .int) :: es_T) { frames := 0, cells := 0, slots := 0, locals := 0 }).room.cells ∧ 0 ≤ (headSpec (Cond.code yX0_tokenAround cX0_tokenAround 3 (some .int) :: es_T) { frames := 0, cells := 0, slots := 0, locals := 0 }).room.slots := ⟨Nat.le_refl _, Nat.le_refl _⟩
  have hl := lv_entry ([.ref f, .int x]) (n := 3) (Nat.le_of_ble_eq_true rfl)
  rw [lg_entry_eq]
  generalize (lg_sl ([.ref f, .int x]) ++ List.replicate (3 - (lg_sl ([.ref f, .int x])).length) Slot.unset).toArray = ls at hl ⊢
  have hl : lv_has ls 3 [(0, .ref f), (1, .int x)] := hl
  refine lv_iconst (v := nI 0) hx hb dX0_tokenAround_0 (by decide) ?_
  refine lv_istore_n (lv' := [(2, .int (nI 0)), (0, .ref f), (1, .int x)]) hx hb dX0_tokenAround_1 rfl hl (by decide) rfl (fun ls hl => ?_)
  refine lp_tokenAround D cI f b0 b1 b2 b3 F n x hx hb hml hown hw hK ⟨Nat.le_trans (Nat.le_of_ble_eq_true rfl) hRm.1, Nat.le_trans (Nat.le_of_ble_eq_true rfl) hRm.2⟩ hP (by first | assumption | omega) (fun i hi hj hc ls hl => ?_) (fun _ hj ls hl => ?_) ((n - 0) + 1) 0 (by first | assumption | omega) (fun j h => absurd h (Nat.not_lt_zero _)) (Nat.lt_succ_self _) ls (lv_sub hl [1, 2, 0] rfl)
  ·
    exact W.iret (v := nI i) hx hb hr (fun zt ht hW => ⟨_, rfl, ⟨i, Nat.le_of_lt hi, hj, Or.inr ⟨hi, hc, rfl⟩⟩, ht⟩) (fun _ h => by cases h) dX0_tokenAround_38
  ·
    refine lv_iconst (v := (-1)) hx hb dX0_tokenAround_45 (by decide) ?_
    exact W.iret (v := (-1)) hx hb hr (fun zt ht hW => ⟨_, rfl, ⟨n, Nat.le_refl n, hj, Or.inl ⟨rfl, rfl⟩⟩, ht⟩) (fun _ h => by cases h) dX0_tokenAround_46
set_option maxHeartbeats 1000000 in
set_option maxRecDepth 100000 in
theorem lp_firstThat {p : Program} {l : Launch} {e : Env} {R : Room} {s : State} {m : MethodId} {args : Array Value} {below : List Frame} {meth : Method} {c : Code} {Q : State → Prop} {H : Heap} {locs : List Loc} (D : va_G) (cI : ClassId) (f : Nat) (b0 : Nat) (b1 : Nat) (b2 : Nat) (b3 : Nat) (F : Nat → Nat → Int32) (n : Nat) (x : Int32) (hx : p.tables.exec = Jvm.exec) (hb : c.code = cX0_firstThatLookedAt) (hml : c.maxLocals = 3) (hown : s.vm.findClass RX0 = some m.cls) (hw : ∀ w ∈ es_T, w.before args s = true) (hK : es_K D cI s) (hRm : 0 ≤ R.frames ∧ 0 ≤ R.locals) (hP : va_P D vwCl [(f, .inr (0, [.ref b0, .ref b1, .ref b2, .ref b3, .int (nI n)])), (b0, .inl (cI, 400, .inl (F 0))), (b1, .inl (cI, 400, .inl (F 1))), (b2, .inl (cI, 400, .inl (F 2))), (b3, .inl (cI, 400, .inl (F 3)))] H) (hn : n ≤ 400) (hx1 : ∀ (i : Nat), (i < n) → (∀ j, j < i → ¬ x < F 0 j + F 3 j) → (x < F 0 i + F 3 i) → ∀ (ls : Array Slot), lv_has ls 3 [(0, .ref f)] →  W p l e R s m args below meth c H locs 0 0 Q (F0 m 28 ls [.int (nI i)])) (hx2 : ∀ (_ : Unit), (∀ j, j < n → ¬ x < F 0 j + F 3 j) → ∀ (ls : Array Slot), lv_has ls 3 [(0, .ref f)] →  W p l e R s m args below meth c H locs 0 0 Q (F0 m 35 ls [])) : ∀ (N : Nat) (i : Nat), (i ≤ n) → (∀ j, j < i → ¬ x < F 0 j + F 3 j) → (n - i) < N → ∀ (ls : Array Slot), lv_has ls 3 [(0, .ref f), (1, .int x), (2, .int (nI i))] →  W p l e R s m args below meth c H locs 0 0 Q (F0 m 2 ls []) := by
  intro N
  induction N with
  | zero =>
    intro i hi hj hN
    exact absurd hN (Nat.not_lt_zero _)
  | succ N ih =>
    intro i hi hj hN ls hl
    refine lv_iload_n hx hb dX0_firstThatLookedAt_2 rfl (lv_at hl 2 rfl) ?_
    refine lv_aload_n hx hb dX0_firstThatLookedAt_3 rfl (lv_at hl 0 rfl) ?_
    refine va_get (D := D) (ci := 0) (v := .int (nI n)) (C := RX0) (T := TX0) (N := 5) hx hb hw iwX0 hown hK.1 hP 0 rfl rfl 4 (by decide) (hw _ xw_77) (fun _ h9 => h9) rfl dX0_firstThatLookedAt_4 ?_
    refine lv_icmp_ge (tgt := 35) hx hb dX0_firstThatLookedAt_7 (by decide) (fun c_7 => ?_) (fun c_7 => ?_)
    ·
      have c_7 := (nI_leI (by omega) (by omega)).mp c_7
      exact hx2 () (fun j h => hj j (by omega))  ls (lv_sub hl [0] rfl)
    ·
      have c_7 := (mt (nI_leI (by omega) (by omega)).mpr c_7)
      refine lv_aload_n hx hb dX0_firstThatLookedAt_10 rfl (lv_at hl 0 rfl) ?_
      refine va_get (D := D) (ci := 0) (v := .ref b0) (C := RX0) (T := TX0) (N := 5) hx hb hw iwX0 hown hK.1 hP 0 rfl rfl 0 (by decide) (hw _ xw_78) (fun _ h9 => h9) rfl dX0_firstThatLookedAt_11 ?_
      refine lv_iload_n hx hb dX0_firstThatLookedAt_14 rfl (lv_at hl 2 rfl) ?_
      refine es_iald hx hb hK.1 hP 1 0 rfl rfl (by omega) (Nat.le_of_ble_eq_true rfl) dX0_firstThatLookedAt_15 ?_
      refine lv_aload_n hx hb dX0_firstThatLookedAt_16 rfl (lv_at hl 0 rfl) ?_
      refine va_get (D := D) (ci := 0) (v := .ref b3) (C := RX0) (T := TX0) (N := 5) hx hb hw iwX0 hown hK.1 hP 0 rfl rfl 3 (by decide) (hw _ xw_81) (fun _ h9 => h9) rfl dX0_firstThatLookedAt_17 ?_
      refine lv_iload_n hx hb dX0_firstThatLookedAt_20 rfl (lv_at hl 2 rfl) ?_
      refine es_iald hx hb hK.1 hP 4 0 rfl rfl (by omega) (Nat.le_of_ble_eq_true rfl) dX0_firstThatLookedAt_21 ?_
      refine lv_iadd hx hb dX0_firstThatLookedAt_22 ?_
      refine lv_iload_n hx hb dX0_firstThatLookedAt_23 rfl (lv_at hl 1 rfl) ?_
      refine lv_icmp_le (tgt := 29) hx hb dX0_firstThatLookedAt_24 (by decide) (fun c_24 => ?_) (fun c_24 => ?_)
      ·
        refine lv_iinc (v := nI (i + 1)) (lv' := [(2, .int (nI (i + 1))), (0, .ref f), (1, .int x)]) hx hb dX0_firstThatLookedAt_29 hl (k := 2) rfl (nI_1 _) (by decide) rfl (fun ls hl => ?_)
        refine lv_goto (tgt := 2) hx hb dX0_firstThatLookedAt_32 (by decide) ?_
        exact ih (i + 1) (by first | assumption | omega) (lt_s hj (Int32.not_lt.mpr c_24)) (by omega) ls (lv_sub hl [1, 2, 0] rfl)
      ·
        refine lv_iload_n hx hb dX0_firstThatLookedAt_27 rfl (lv_at hl 2 rfl) ?_
        exact hx1 i (by first | assumption | omega) (by first | assumption | omega) (Int32.not_le.mp c_24)  ls (lv_sub hl [0] rfl)
set_option maxHeartbeats 1000000 in
set_option maxRecDepth 100000 in
/-- X0.firstThatLookedAt  -/
theorem c_X0_firstThatLookedAt (l : Launch) (D : va_G) (cI : ClassId) (f : Nat) (b0 : Nat) (b1 : Nat) (b2 : Nat) (b3 : Nat) (F : Nat → Nat → Int32) (n : Nat) (x : Int32) (hn : n ≤ 400) : Met l yX0_firstThatLookedAt (Cond.code yX0_firstThatLookedAt cX0_firstThatLookedAt 3 (some .int) :: es_T) { frames := 0, cells := 0, slots := 0, locals := 0 } (va_Pc [.ref f, .int x] (es_R D cI [(f, .inr (0, [.ref b0, .ref b1, .ref b2, .ref b3, .int (nI n)])), (b0, .inl (cI, 400, .inl (F 0))), (b1, .inl (cI, 400, .inl (F 1))), (b2, .inl (cI, 400, .inl (F 2))), (b3, .inl (cI, 400, .inl (F 3)))])) (vp_Si (fun r => ∃ i : Nat, i ≤ n ∧ r = nI i ∧ (∀ j, j < i → ¬ x < F 0 j + F 3 j) ∧ (i < n → x < F 0 i + F 3 i))) 0 0 (fun _ => False) := by
  refine Met.ofW (cc := cX0_firstThatLookedAt) (maxL := 3) (ret := (some .int)) (by decide) rfl ?_
  intro p e s m args below meth c s₁ B hml hv
  obtain ⟨rfl, hP, hK⟩ := hv
  have hx := B.exec
  have hb := B.bytes
  have hr := B.returns
  have hts := atoms_spec (ws := (Cond.code yX0_firstThatLookedAt cX0_firstThatLookedAt 3 (some .int) :: es_T)) B.pre
  have hw : ∀ w ∈ es_T, w.before _ s = true := fun w h => hts w (List.mem_cons_of_mem _ h)
  have hown : s.vm.findClass RX0 = some m.cls := findClass_of_methodNamed B.named
  have hlocks := B.notSynchronized
  have hRm : 0 ≤ (headSpec (Cond.code yX0_firstThatLookedAt cX0_firstThatLookedAt 3 (some .int) :: es_T) { frames := 0, cells := 0, slots := 0, locals := 0 }).room.frames ∧ 0 ≤ (headSpec (Cond.code yX0_firstThatLookedAt cX0_firstThatLookedAt 3 (some .int) :: es_T) { frames := 0, cells := 0, slots := 0, locals := 0 }).room.locals := ⟨Nat.le_refl _, Nat.le_refl _⟩
  have hRc : 0 ≤ (headSpec (Cond.code yX0_firstThatLookedAt cX0_firstThatLookedAt 3 (some .int) :: es_T) { frames := 0, cells := 0, slots := 0, locals := 0 }).room.cells ∧ 0 ≤ (headSpec (Cond.code yX0_firstThatLookedAt cX0_firstThatLookedAt 3 (some .int) :: es_T) { frames := 0, cells := 0, slots := 0, locals := 0 }).room.slots := ⟨Nat.le_refl _, Nat.le_refl _⟩
  have hl := lv_entry ([.ref f, .int x]) (n := 3) (Nat.le_of_ble_eq_true rfl)
  rw [lg_entry_eq]
  generalize (lg_sl ([.ref f, .int x]) ++ List.replicate (3 - (lg_sl ([.ref f, .int x])).length) Slot.unset).toArray = ls at hl ⊢
  have hl : lv_has ls 3 [(0, .ref f), (1, .int x)] := hl
  refine lv_iconst (v := nI 0) hx hb dX0_firstThatLookedAt_0 (by decide) ?_
  refine lv_istore_n (lv' := [(2, .int (nI 0)), (0, .ref f), (1, .int x)]) hx hb dX0_firstThatLookedAt_1 rfl hl (by decide) rfl (fun ls hl => ?_)
  refine lp_firstThat D cI f b0 b1 b2 b3 F n x hx hb hml hown hw hK ⟨Nat.le_trans (Nat.le_of_ble_eq_true rfl) hRm.1, Nat.le_trans (Nat.le_of_ble_eq_true rfl) hRm.2⟩ hP (by first | assumption | omega) (fun i hi hj hc ls hl => ?_) (fun _ hj ls hl => ?_) ((n - 0) + 1) 0 (by first | assumption | omega) (fun j h => absurd h (Nat.not_lt_zero _)) (Nat.lt_succ_self _) ls (lv_sub hl [1, 2, 0] rfl)
  ·
    exact W.iret (v := nI i) hx hb hr (fun zt ht hW => ⟨_, rfl, ⟨i, Nat.le_of_lt hi, rfl, hj, fun _ => hc⟩, ht⟩) (fun _ h => by cases h) dX0_firstThatLookedAt_28
  ·
    refine lv_aload_n hx hb dX0_firstThatLookedAt_35 rfl (lv_at hl 0 rfl) ?_
    refine va_get (D := D) (ci := 0) (v := .int (nI n)) (C := RX0) (T := TX0) (N := 5) hx hb hw iwX0 hown hK.1 hP 0 rfl rfl 4 (by decide) (hw _ xw_77) (fun _ h9 => h9) rfl dX0_firstThatLookedAt_36 ?_
    exact W.iret (v := nI n) hx hb hr (fun zt ht hW => ⟨_, rfl, ⟨n, Nat.le_refl n, rfl, hj, fun h => absurd h (Nat.lt_irrefl n)⟩, ht⟩) (fun _ h => by cases h) dX0_firstThatLookedAt_39
set_option maxHeartbeats 1000000 in
set_option maxRecDepth 100000 in
theorem lp_firstFrom {p : Program} {l : Launch} {e : Env} {R : Room} {s : State} {m : MethodId} {args : Array Value} {below : List Frame} {meth : Method} {c : Code} {Q : State → Prop} {H : Heap} {locs : List Loc} (D : va_G) (cI : ClassId) (f : Nat) (b0 : Nat) (b1 : Nat) (b2 : Nat) (b3 : Nat) (F : Nat → Nat → Int32) (n : Nat) (k : Nat) (x : Int32) (hx : p.tables.exec = Jvm.exec) (hb : c.code = cX0_firstFrom) (hml : c.maxLocals = 4) (hown : s.vm.findClass RX0 = some m.cls) (hw : ∀ w ∈ es_T, w.before args s = true) (hK : es_K D cI s) (hRm : 1 ≤ R.frames ∧ 21 ≤ R.locals) (hP : va_P D vwCl [(f, .inr (0, [.ref b0, .ref b1, .ref b2, .ref b3, .int (nI n)])), (b0, .inl (cI, 400, .inl (F 0))), (b1, .inl (cI, 400, .inl (F 1))), (b2, .inl (cI, 400, .inl (F 2))), (b3, .inl (cI, 400, .inl (F 3)))] H) (hn : n ≤ 400) (hx1 : ∀ (i : Nat), (k ≤ i) → (i < n) → (∀ j, k ≤ j → j < i → F 0 j < x) → (x ≤ F 0 i) → ∀ (ls : Array Slot), lv_has ls 4 [(0, .ref f)] →  W p l e R s m args below meth c H locs 0 0 Q (F0 m 25 ls [.int (nI i)])) (hx2 : ∀ (_ : Unit), (∀ j, k ≤ j → j < n → F 0 j < x) → ∀ (ls : Array Slot), lv_has ls 4 [(0, .ref f)] →  W p l e R s m args below meth c H locs 0 0 Q (F0 m 32 ls [])) : ∀ (N : Nat) (i : Nat), (k ≤ i) → (i ≤ n) → (∀ j, k ≤ j → j < i → F 0 j < x) → (n - i) < N → ∀ (ls : Array Slot), lv_has ls 4 [(0, .ref f), (2, .int x), (3, .int (nI i))] →  W p l e R s m args below meth c H locs 0 0 Q (F0 m 6 ls []) := by
  intro N
  induction N with
  | zero =>
    intro i hk hi hj hN
    exact absurd hN (Nat.not_lt_zero _)
  | succ N ih =>
    intro i hk hi hj hN ls hl
    refine lv_iload_n hx hb dX0_firstFrom_6 rfl (lv_at hl 2 rfl) ?_
    refine lv_aload_n hx hb dX0_firstFrom_7 rfl (lv_at hl 0 rfl) ?_
    refine va_get (D := D) (ci := 0) (v := .int (nI n)) (C := RX0) (T := TX0) (N := 5) hx hb hw iwX0 hown hK.1 hP 0 rfl rfl 4 (by decide) (hw _ xw_77) (fun _ h9 => h9) rfl dX0_firstFrom_8 ?_
    refine lv_icmp_ge (tgt := 32) hx hb dX0_firstFrom_11 (by decide) (fun c_11 => ?_) (fun c_11 => ?_)
    ·
      have c_11 := (nI_leI (by omega) (by omega)).mp c_11
      exact hx2 () (fun j h1 h => hj j h1 (by omega))  ls (lv_sub hl [0] rfl)
    ·
      have c_11 := (mt (nI_leI (by omega) (by omega)).mpr c_11)
      refine lv_aload_n hx hb dX0_firstFrom_14 rfl (lv_at hl 0 rfl) ?_
      refine va_get (D := D) (ci := 0) (v := .ref b0) (C := RX0) (T := TX0) (N := 5) hx hb hw iwX0 hown hK.1 hP 0 rfl rfl 0 (by decide) (hw _ xw_78) (fun _ h9 => h9) rfl dX0_firstFrom_15 ?_
      refine lv_iload_n hx hb dX0_firstFrom_18 rfl (lv_at hl 2 rfl) ?_
      refine es_iald hx hb hK.1 hP 1 0 rfl rfl (by omega) (Nat.le_of_ble_eq_true rfl) dX0_firstFrom_19 ?_
      refine lv_iload_n hx hb dX0_firstFrom_20 rfl (lv_at hl 1 rfl) ?_
      refine lv_icmp_lt (tgt := 26) hx hb dX0_firstFrom_21 (by decide) (fun c_21 => ?_) (fun c_21 => ?_)
      ·
        refine lv_iinc (v := nI (i + 1)) (lv' := [(3, .int (nI (i + 1))), (0, .ref f), (2, .int x)]) hx hb dX0_firstFrom_26 hl (k := 2) rfl (nI_1 _) (by decide) rfl (fun ls hl => ?_)
        refine lv_goto (tgt := 6) hx hb dX0_firstFrom_29 (by decide) ?_
        exact ih (i + 1) (by first | assumption | omega) (by first | assumption | omega) (fun j h1 h2 => if e : j = i then by rw [e]; exact c_21 else hj j h1 (by omega)) (by omega) ls (lv_sub hl [1, 2, 0] rfl)
      ·
        refine lv_iload_n hx hb dX0_firstFrom_24 rfl (lv_at hl 2 rfl) ?_
        exact hx1 i (by first | assumption | omega) (by first | assumption | omega) (by first | assumption | omega) (Int32.not_lt.mp c_21)  ls (lv_sub hl [0] rfl)
set_option maxHeartbeats 1000000 in
set_option maxRecDepth 100000 in
/-- X0.firstFrom  -/
theorem c_X0_firstFrom (l : Launch) (D : va_G) (cI : ClassId) (f : Nat) (b0 : Nat) (b1 : Nat) (b2 : Nat) (b3 : Nat) (F : Nat → Nat → Int32) (n : Nat) (k : Nat) (x : Int32) (hn : n ≤ 400) (hk : k ≤ n) : Met l yX0_firstFrom (Cond.code yX0_firstFrom cX0_firstFrom 4 (some .int) :: es_T) { frames := 1, cells := 0, slots := 0, locals := 21 } (va_Pc [.ref f, .int (nI k), .int x] (es_R D cI [(f, .inr (0, [.ref b0, .ref b1, .ref b2, .ref b3, .int (nI n)])), (b0, .inl (cI, 400, .inl (F 0))), (b1, .inl (cI, 400, .inl (F 1))), (b2, .inl (cI, 400, .inl (F 2))), (b3, .inl (cI, 400, .inl (F 3)))])) (vp_Si (fun r => ∃ i : Nat, k ≤ i ∧ i ≤ n ∧ r = nI i ∧ (∀ j, k ≤ j → j < i → F 0 j < x) ∧ (i < n → x ≤ F 0 i))) 0 0 (fun _ => False) := by
  refine Met.ofW (cc := cX0_firstFrom) (maxL := 4) (ret := (some .int)) (by decide) rfl ?_
  intro p e s m args below meth c s₁ B hml hv
  obtain ⟨rfl, hP, hK⟩ := hv
  have hx := B.exec
  have hb := B.bytes
  have hr := B.returns
  have hts := atoms_spec (ws := (Cond.code yX0_firstFrom cX0_firstFrom 4 (some .int) :: es_T)) B.pre
  have hw : ∀ w ∈ es_T, w.before _ s = true := fun w h => hts w (List.mem_cons_of_mem _ h)
  have hown : s.vm.findClass RX0 = some m.cls := findClass_of_methodNamed B.named
  have hlocks := B.notSynchronized
  have hRm : 1 ≤ (headSpec (Cond.code yX0_firstFrom cX0_firstFrom 4 (some .int) :: es_T) { frames := 1, cells := 0, slots := 0, locals := 21 }).room.frames ∧ 21 ≤ (headSpec (Cond.code yX0_firstFrom cX0_firstFrom 4 (some .int) :: es_T) { frames := 1, cells := 0, slots := 0, locals := 21 }).room.locals := ⟨Nat.le_refl _, Nat.le_refl _⟩
  have hRc : 0 ≤ (headSpec (Cond.code yX0_firstFrom cX0_firstFrom 4 (some .int) :: es_T) { frames := 1, cells := 0, slots := 0, locals := 21 }).room.cells ∧ 0 ≤ (headSpec (Cond.code yX0_firstFrom cX0_firstFrom 4 (some .int) :: es_T) { frames := 1, cells := 0, slots := 0, locals := 21 }).room.slots := ⟨Nat.le_refl _, Nat.le_refl _⟩
  have hl := lv_entry ([.ref f, .int (nI k), .int x]) (n := 4) (Nat.le_of_ble_eq_true rfl)
  rw [lg_entry_eq]
  generalize (lg_sl ([.ref f, .int (nI k), .int x]) ++ List.replicate (4 - (lg_sl ([.ref f, .int (nI k), .int x])).length) Slot.unset).toArray = ls at hl ⊢
  have hl : lv_has ls 4 [(0, .ref f), (1, .int (nI k)), (2, .int x)] := hl
  refine lv_iload_n hx hb dX0_firstFrom_0 rfl (lv_at hl 1 rfl) ?_
  refine lv_iconst (v := nI 0) hx hb dX0_firstFrom_1 (by decide) ?_
  refine va_mmax hx hb (by rw [hml]; exact hl.1.symm) hown (hw _ xw_87) (hw _ xw_88) (hw _ xw_89) (hw _ xw_90) (Nat.le_trans (Nat.le_of_ble_eq_true rfl) hRm.1) (Nat.le_trans (Nat.le_of_ble_eq_true rfl) hRm.2) (Nat.zero_le _) (Nat.zero_le _) dX0_firstFrom_2 ?_
  refine es_top (y := nI k) (if_neg (fun h => absurd h (nI_pos (by omega)))) ?_
  refine lv_istore_n (lv' := [(3, .int (nI k)), (0, .ref f), (1, .int (nI k)), (2, .int x)]) hx hb dX0_firstFrom_5 rfl hl (by decide) rfl (fun ls hl => ?_)
  refine lp_firstFrom D cI f b0 b1 b2 b3 F n k x hx hb hml hown hw hK ⟨Nat.le_trans (Nat.le_of_ble_eq_true rfl) hRm.1, Nat.le_trans (Nat.le_of_ble_eq_true rfl) hRm.2⟩ hP (by first | assumption | omega) (fun i hk hi hj hc ls hl => ?_) (fun _ hj ls hl => ?_) ((n - k) + 1) k (by first | assumption | omega) (by first | assumption | omega) (fun j h1 h2 => absurd h2 (Nat.not_lt.mpr h1)) (Nat.lt_succ_self _) ls (lv_sub hl [1, 3, 0] rfl)
  ·
    exact W.iret (v := nI i) hx hb hr (fun zt ht hW => ⟨_, rfl, ⟨i, hk, Nat.le_of_lt hi, rfl, hj, fun _ => hc⟩, ht⟩) (fun _ h => by cases h) dX0_firstFrom_25
  ·
    refine lv_aload_n hx hb dX0_firstFrom_32 rfl (lv_at hl 0 rfl) ?_
    refine va_get (D := D) (ci := 0) (v := .int (nI n)) (C := RX0) (T := TX0) (N := 5) hx hb hw iwX0 hown hK.1 hP 0 rfl rfl 4 (by decide) (hw _ xw_77) (fun _ h9 => h9) rfl dX0_firstFrom_33 ?_
    exact W.iret (v := nI n) hx hb hr (fun zt ht hW => ⟨_, rfl, ⟨n, by assumption, Nat.le_refl n, rfl, hj, fun h => absurd h (Nat.lt_irrefl n)⟩, ht⟩) (fun _ h => by cases h) dX0_firstFrom_36
set_option maxHeartbeats 1000000 in
set_option maxRecDepth 100000 in
/-- X0.add  -/
theorem c_X0_add (l : Launch) (D : va_G) (cI : ClassId) (sz : Nat) (f : Nat) (b0 : Nat) (b1 : Nat) (b2 : Nat) (b3 : Nat) (F : Nat → Nat → Int32) (n : Nat) (v0 : Int32) (v1 : Int32) (v2 : Int32) (v3 : Int32) (hn : n < 400) : Met l yX0_add (Cond.code yX0_add cX0_add 5 none :: es_T) { frames := 0, cells := 0, slots := 0, locals := 0 } (va_Pc [.ref f, .int v0, .int v1, .int v2, .int v3] (es_W D cI sz [(f, .inr (0, [.ref b0, .ref b1, .ref b2, .ref b3, .int (nI n)])), (b0, .inl (cI, 400, .inl (F 0))), (b1, .inl (cI, 400, .inl (F 1))), (b2, .inl (cI, 400, .inl (F 2))), (b3, .inl (cI, 400, .inl (F 3)))])) (va_Qv (fun _ => True) (fun (u : Unit) zt => va_P D vwCl [(f, .inr (0, [.ref b0, .ref b1, .ref b2, .ref b3, .int (nI (n + 1))])), (b0, .inl (cI, 400, .inl (upd (F 0) n v0))), (b1, .inl (cI, 400, .inl (upd (F 1) n v1))), (b2, .inl (cI, 400, .inl (upd (F 2) n v2))), (b3, .inl (cI, 400, .inl (upd (F 3) n v3)))] zt.heap ∧ va_D (va_A [(f, .inr (0, [.ref b0, .ref b1, .ref b2, .ref b3, .int (nI n)])), (b0, .inl (cI, 400, .inl (F 0))), (b1, .inl (cI, 400, .inl (F 1))), (b2, .inl (cI, 400, .inl (F 2))), (b3, .inl (cI, 400, .inl (F 3)))] sz) [(f, .inr (0, [.ref b0, .ref b1, .ref b2, .ref b3, .int (nI (n + 1))])), (b0, .inl (cI, 400, .inl (upd (F 0) n v0))), (b1, .inl (cI, 400, .inl (upd (F 1) n v1))), (b2, .inl (cI, 400, .inl (upd (F 2) n v2))), (b3, .inl (cI, 400, .inl (upd (F 3) n v3)))]) (va_A [(f, .inr (0, [.ref b0, .ref b1, .ref b2, .ref b3, .int (nI n)])), (b0, .inl (cI, 400, .inl (F 0))), (b1, .inl (cI, 400, .inl (F 1))), (b2, .inl (cI, 400, .inl (F 2))), (b3, .inl (cI, 400, .inl (F 3)))] sz)) 0 0 (va_A [(f, .inr (0, [.ref b0, .ref b1, .ref b2, .ref b3, .int (nI n)])), (b0, .inl (cI, 400, .inl (F 0))), (b1, .inl (cI, 400, .inl (F 1))), (b2, .inl (cI, 400, .inl (F 2))), (b3, .inl (cI, 400, .inl (F 3)))] sz) := by
  refine Met.ofW (cc := cX0_add) (maxL := 5) (ret := none) (by decide) rfl ?_
  intro p e s m args below meth c s₁ B hml hv
  obtain ⟨rfl, hsz, hP, hK, hD0⟩ := hv
  have hx := B.exec
  have hb := B.bytes
  have hr := B.returns
  have hts := atoms_spec (ws := (Cond.code yX0_add cX0_add 5 none :: es_T)) B.pre
  have hw : ∀ w ∈ es_T, w.before _ s = true := fun w h => hts w (List.mem_cons_of_mem _ h)
  have hown : s.vm.findClass RX0 = some m.cls := findClass_of_methodNamed B.named
  have hlocks := B.notSynchronized
  have hRm : 0 ≤ (headSpec (Cond.code yX0_add cX0_add 5 none :: es_T) { frames := 0, cells := 0, slots := 0, locals := 0 }).room.frames ∧ 0 ≤ (headSpec (Cond.code yX0_add cX0_add 5 none :: es_T) { frames := 0, cells := 0, slots := 0, locals := 0 }).room.locals := ⟨Nat.le_refl _, Nat.le_refl _⟩
  have hRc : 0 ≤ (headSpec (Cond.code yX0_add cX0_add 5 none :: es_T) { frames := 0, cells := 0, slots := 0, locals := 0 }).room.cells ∧ 0 ≤ (headSpec (Cond.code yX0_add cX0_add 5 none :: es_T) { frames := 0, cells := 0, slots := 0, locals := 0 }).room.slots := ⟨Nat.le_refl _, Nat.le_refl _⟩
  subst hsz
  have hD := hD0.self (sz := s.heap.size)
  generalize hAe : va_A [(f, .inr (0, [.ref b0, .ref b1, .ref b2, .ref b3, .int (nI n)])), (b0, .inl (cI, 400, .inl (F 0))), (b1, .inl (cI, 400, .inl (F 1))), (b2, .inl (cI, 400, .inl (F 2))), (b3, .inl (cI, 400, .inl (F 3)))] s.heap.size = A at hD ⊢
  have hA : ∀ q : Nat, s.heap.size ≤ q → A q := fun q h => by rw [← hAe]; exact Or.inr h
  have hS : va_S A s.heap s.heap [] := va_S.rf
  have hl := lv_entry ([.ref f, .int v0, .int v1, .int v2, .int v3]) (n := 5) (Nat.le_of_ble_eq_true rfl)
  rw [lg_entry_eq]
  generalize (lg_sl ([.ref f, .int v0, .int v1, .int v2, .int v3]) ++ List.replicate (5 - (lg_sl ([.ref f, .int v0, .int v1, .int v2, .int v3])).length) Slot.unset).toArray = ls at hl ⊢
  have hl : lv_has ls 5 [(0, .ref f), (1, .int v0), (2, .int v1), (3, .int v2), (4, .int v3)] := hl
  refine lv_aload_n hx hb dX0_add_0 rfl (lv_at hl 0 rfl) ?_
  refine va_get (D := D) (ci := 0) (v := .int (nI n)) (C := RX0) (T := TX0) (N := 5) hx hb hw iwX0 hown hK.1 hP 0 rfl rfl 4 (by decide) (hw _ xw_77) (fun _ h9 => h9) rfl dX0_add_1 ?_
  refine lv_sipush (v := nI 400) hx hb dX0_add_4 (by decide) ?_
  refine lv_icmp_lt (tgt := 11) hx hb dX0_add_7 (by decide) (fun c_7 => ?_) (fun c_7 => ?_)
  ·
    have c_7 := (nI_ltI (by omega) (by omega)).mp c_7
    refine lv_aload_n hx hb dX0_add_11 rfl (lv_at hl 0 rfl) ?_
    refine va_get (D := D) (ci := 0) (v := .ref b0) (C := RX0) (T := TX0) (N := 5) hx hb hw iwX0 hown hK.1 hP 0 rfl rfl 0 (by decide) (hw _ xw_78) (fun _ h9 => h9) rfl dX0_add_12 ?_
    refine lv_aload_n hx hb dX0_add_15 rfl (lv_at hl 0 rfl) ?_
    refine va_get (D := D) (ci := 0) (v := .int (nI n)) (C := RX0) (T := TX0) (N := 5) hx hb hw iwX0 hown hK.1 hP 0 rfl rfl 4 (by decide) (hw _ xw_77) (fun _ h9 => h9) rfl dX0_add_16 ?_
    refine lv_iload_n hx hb dX0_add_19 rfl (lv_at hl 1 rfl) ?_
    refine es_iast hx hb hK.1 hP hD hS 1 0 rfl rfl (by omega) (Nat.le_of_ble_eq_true rfl) dX0_add_20 (fun H locs hP hD hS => ?_)
    have hP : va_P D vwCl [(f, .inr (0, [.ref b0, .ref b1, .ref b2, .ref b3, .int (nI n)])), (b0, .inl (cI, 400, .inl (upd (F 0) n v0))), (b1, .inl (cI, 400, .inl (F 1))), (b2, .inl (cI, 400, .inl (F 2))), (b3, .inl (cI, 400, .inl (F 3)))] H := hP
    have hD : va_D A [(f, .inr (0, [.ref b0, .ref b1, .ref b2, .ref b3, .int (nI n)])), (b0, .inl (cI, 400, .inl (upd (F 0) n v0))), (b1, .inl (cI, 400, .inl (F 1))), (b2, .inl (cI, 400, .inl (F 2))), (b3, .inl (cI, 400, .inl (F 3)))] := hD
    refine lv_aload_n hx hb dX0_add_21 rfl (lv_at hl 0 rfl) ?_
    refine va_get (D := D) (ci := 0) (v := .ref b1) (C := RX0) (T := TX0) (N := 5) hx hb hw iwX0 hown hK.1 hP 0 rfl rfl 1 (by decide) (hw _ xw_79) (fun _ h9 => h9) rfl dX0_add_22 ?_
    refine lv_aload_n hx hb dX0_add_25 rfl (lv_at hl 0 rfl) ?_
    refine va_get (D := D) (ci := 0) (v := .int (nI n)) (C := RX0) (T := TX0) (N := 5) hx hb hw iwX0 hown hK.1 hP 0 rfl rfl 4 (by decide) (hw _ xw_77) (fun _ h9 => h9) rfl dX0_add_26 ?_
    refine lv_iload_n hx hb dX0_add_29 rfl (lv_at hl 2 rfl) ?_
    refine es_iast hx hb hK.1 hP hD hS 2 0 rfl rfl (by omega) (Nat.le_of_ble_eq_true rfl) dX0_add_30 (fun H locs hP hD hS => ?_)
    have hP : va_P D vwCl [(f, .inr (0, [.ref b0, .ref b1, .ref b2, .ref b3, .int (nI n)])), (b0, .inl (cI, 400, .inl (upd (F 0) n v0))), (b1, .inl (cI, 400, .inl (upd (F 1) n v1))), (b2, .inl (cI, 400, .inl (F 2))), (b3, .inl (cI, 400, .inl (F 3)))] H := hP
    have hD : va_D A [(f, .inr (0, [.ref b0, .ref b1, .ref b2, .ref b3, .int (nI n)])), (b0, .inl (cI, 400, .inl (upd (F 0) n v0))), (b1, .inl (cI, 400, .inl (upd (F 1) n v1))), (b2, .inl (cI, 400, .inl (F 2))), (b3, .inl (cI, 400, .inl (F 3)))] := hD
    refine lv_aload_n hx hb dX0_add_31 rfl (lv_at hl 0 rfl) ?_
    refine va_get (D := D) (ci := 0) (v := .ref b2) (C := RX0) (T := TX0) (N := 5) hx hb hw iwX0 hown hK.1 hP 0 rfl rfl 2 (by decide) (hw _ xw_80) (fun _ h9 => h9) rfl dX0_add_32 ?_
    refine lv_aload_n hx hb dX0_add_35 rfl (lv_at hl 0 rfl) ?_
    refine va_get (D := D) (ci := 0) (v := .int (nI n)) (C := RX0) (T := TX0) (N := 5) hx hb hw iwX0 hown hK.1 hP 0 rfl rfl 4 (by decide) (hw _ xw_77) (fun _ h9 => h9) rfl dX0_add_36 ?_
    refine lv_iload_n hx hb dX0_add_39 rfl (lv_at hl 3 rfl) ?_
    refine es_iast hx hb hK.1 hP hD hS 3 0 rfl rfl (by omega) (Nat.le_of_ble_eq_true rfl) dX0_add_40 (fun H locs hP hD hS => ?_)
    have hP : va_P D vwCl [(f, .inr (0, [.ref b0, .ref b1, .ref b2, .ref b3, .int (nI n)])), (b0, .inl (cI, 400, .inl (upd (F 0) n v0))), (b1, .inl (cI, 400, .inl (upd (F 1) n v1))), (b2, .inl (cI, 400, .inl (upd (F 2) n v2))), (b3, .inl (cI, 400, .inl (F 3)))] H := hP
    have hD : va_D A [(f, .inr (0, [.ref b0, .ref b1, .ref b2, .ref b3, .int (nI n)])), (b0, .inl (cI, 400, .inl (upd (F 0) n v0))), (b1, .inl (cI, 400, .inl (upd (F 1) n v1))), (b2, .inl (cI, 400, .inl (upd (F 2) n v2))), (b3, .inl (cI, 400, .inl (F 3)))] := hD
    refine lv_aload_n hx hb dX0_add_41 rfl (lv_at hl 0 rfl) ?_
    refine va_get (D := D) (ci := 0) (v := .ref b3) (C := RX0) (T := TX0) (N := 5) hx hb hw iwX0 hown hK.1 hP 0 rfl rfl 3 (by decide) (hw _ xw_81) (fun _ h9 => h9) rfl dX0_add_42 ?_
    refine lv_aload_n hx hb dX0_add_45 rfl (lv_at hl 0 rfl) ?_
    refine va_get (D := D) (ci := 0) (v := .int (nI n)) (C := RX0) (T := TX0) (N := 5) hx hb hw iwX0 hown hK.1 hP 0 rfl rfl 4 (by decide) (hw _ xw_77) (fun _ h9 => h9) rfl dX0_add_46 ?_
    refine lv_iload hx hb dX0_add_49 (lv_at hl 4 rfl) ?_
    refine es_iast hx hb hK.1 hP hD hS 4 0 rfl rfl (by omega) (Nat.le_of_ble_eq_true rfl) dX0_add_51 (fun H locs hP hD hS => ?_)
    have hP : va_P D vwCl [(f, .inr (0, [.ref b0, .ref b1, .ref b2, .ref b3, .int (nI n)])), (b0, .inl (cI, 400, .inl (upd (F 0) n v0))), (b1, .inl (cI, 400, .inl (upd (F 1) n v1))), (b2, .inl (cI, 400, .inl (upd (F 2) n v2))), (b3, .inl (cI, 400, .inl (upd (F 3) n v3)))] H := hP
    have hD : va_D A [(f, .inr (0, [.ref b0, .ref b1, .ref b2, .ref b3, .int (nI n)])), (b0, .inl (cI, 400, .inl (upd (F 0) n v0))), (b1, .inl (cI, 400, .inl (upd (F 1) n v1))), (b2, .inl (cI, 400, .inl (upd (F 2) n v2))), (b3, .inl (cI, 400, .inl (upd (F 3) n v3)))] := hD
    refine lv_aload_n hx hb dX0_add_52 rfl (lv_at hl 0 rfl) ?_
    refine lv_dup hx hb dX0_add_53 rfl ?_
    refine va_get (D := D) (ci := 0) (v := .int (nI n)) (C := RX0) (T := TX0) (N := 5) hx hb hw iwX0 hown hK.1 hP 0 rfl rfl 4 (by decide) (hw _ xw_77) (fun _ h9 => h9) rfl dX0_add_54 ?_
    refine lv_iconst (v := nI 1) hx hb dX0_add_57 (by decide) ?_
    refine lv_iadd hx hb dX0_add_58 ?_
    refine es_top (y := nI (n + 1)) (nI_add _ _) ?_
    refine va_put (D := D) (ci := 0) (v := .int (nI (n + 1))) (ty := .int) (C := RX0) (T := TX0) (N := 5) hx hb hw iwX0 tyX0 tyX0_ok nmX0 hown hK.1 hP hD hS 0 rfl rfl 4 (by decide) (hw _ xw_77) (fun _ h9 => h9) rfl (by decide +kernel) rfl rfl (Nat.le_of_ble_eq_true rfl) dX0_add_59 (fun H locs hP hD hS => ?_)
    have hP : va_P D vwCl [(f, .inr (0, [.ref b0, .ref b1, .ref b2, .ref b3, .int (nI (n + 1))])), (b0, .inl (cI, 400, .inl (upd (F 0) n v0))), (b1, .inl (cI, 400, .inl (upd (F 1) n v1))), (b2, .inl (cI, 400, .inl (upd (F 2) n v2))), (b3, .inl (cI, 400, .inl (upd (F 3) n v3)))] H := hP
    have hD : va_D A [(f, .inr (0, [.ref b0, .ref b1, .ref b2, .ref b3, .int (nI (n + 1))])), (b0, .inl (cI, 400, .inl (upd (F 0) n v0))), (b1, .inl (cI, 400, .inl (upd (F 1) n v1))), (b2, .inl (cI, 400, .inl (upd (F 2) n v2))), (b3, .inl (cI, 400, .inl (upd (F 3) n v3)))] := hD
    exact W.vret hx hb hr (fun zt ht hW => ⟨⟨(), rfl, trivial, ⟨by rw [ht]; exact hP.sub [0, 1, 2, 3, 4] rfl, hD.sub [0, 1, 2, 3, 4] (by decide) rfl⟩⟩, hS.F ht⟩) hS.2.2 dX0_add_62
  ·
    have c_7 := (mt (nI_ltI (by omega) (by omega)).mpr c_7)
    exact absurd hn (by omega)
set_option maxHeartbeats 1000000 in
set_option maxRecDepth 100000 in
theorem lp_takeUpTo {p : Program} {l : Launch} {e : Env} {R : Room} {s : State} {m : MethodId} {args : Array Value} {below : List Frame} {meth : Method} {c : Code} {Q : State → Prop} {A : Nat → Prop} {H0 : Heap} (D : va_G) (cI : ClassId) (f : Nat) (b0 : Nat) (b1 : Nat) (b2 : Nat) (b3 : Nat) (g : Nat) (g0 : Nat) (g1 : Nat) (g2 : Nat) (g3 : Nat) (G : Nat → Nat → Int32) (gn : Nat) (k : Nat) (hx : p.tables.exec = Jvm.exec) (hb : c.code = cX0_takeUpTo) (hml : c.maxLocals = 4) (hown : s.vm.findClass RX0 = some m.cls) (hw : ∀ w ∈ es_T, w.before args s = true) (hK : es_K D cI s) (hRm : 1 ≤ R.frames ∧ 24 ≤ R.locals) (hA : ∀ q : Nat, H0.size ≤ q → A q) (hgn : gn ≤ 400) (hk : k ≤ gn) (hex : ∀ (i : Nat) (E : Nat → Nat → Int32), (i = k) → (∀ a, a < 4 → ∀ j, j < k → E a j = G a j) → ∀ (H : Heap) (locs : List Loc), va_P D vwCl [(f, .inr (0, [.ref b0, .ref b1, .ref b2, .ref b3, .int (nI i)])), (b0, .inl (cI, 400, .inl (E 0))), (b1, .inl (cI, 400, .inl (E 1))), (b2, .inl (cI, 400, .inl (E 2))), (b3, .inl (cI, 400, .inl (E 3))), (g, .inr (0, [.ref g0, .ref g1, .ref g2, .ref g3, .int (nI gn)])), (g0, .inl (cI, 400, .inl (G 0))), (g1, .inl (cI, 400, .inl (G 1))), (g2, .inl (cI, 400, .inl (G 2))), (g3, .inl (cI, 400, .inl (G 3)))] H → va_D A [(f, .inr (0, [.ref b0, .ref b1, .ref b2, .ref b3, .int (nI i)])), (b0, .inl (cI, 400, .inl (E 0))), (b1, .inl (cI, 400, .inl (E 1))), (b2, .inl (cI, 400, .inl (E 2))), (b3, .inl (cI, 400, .inl (E 3))), (g, .inr (0, [.ref g0, .ref g1, .ref g2, .ref g3, .int (nI gn)])), (g0, .inl (cI, 400, .inl (G 0))), (g1, .inl (cI, 400, .inl (G 1))), (g2, .inl (cI, 400, .inl (G 2))), (g3, .inl (cI, 400, .inl (G 3)))] → va_S A H0 H locs → ∀ (ls : Array Slot), lv_has ls 4 [(0, .ref f), (3, .int (nI i))] →  W p l e R s m args below meth c H locs 0 0 Q (F0 m 54 ls [])) : ∀ (N : Nat) (i : Nat) (E : Nat → Nat → Int32), (i ≤ k) → (∀ a, a < 4 → ∀ j, j < i → E a j = G a j) → (k - i) < N → ∀ (H : Heap) (locs : List Loc), va_P D vwCl [(f, .inr (0, [.ref b0, .ref b1, .ref b2, .ref b3, .int (nI i)])), (b0, .inl (cI, 400, .inl (E 0))), (b1, .inl (cI, 400, .inl (E 1))), (b2, .inl (cI, 400, .inl (E 2))), (b3, .inl (cI, 400, .inl (E 3))), (g, .inr (0, [.ref g0, .ref g1, .ref g2, .ref g3, .int (nI gn)])), (g0, .inl (cI, 400, .inl (G 0))), (g1, .inl (cI, 400, .inl (G 1))), (g2, .inl (cI, 400, .inl (G 2))), (g3, .inl (cI, 400, .inl (G 3)))] H → va_D A [(f, .inr (0, [.ref b0, .ref b1, .ref b2, .ref b3, .int (nI i)])), (b0, .inl (cI, 400, .inl (E 0))), (b1, .inl (cI, 400, .inl (E 1))), (b2, .inl (cI, 400, .inl (E 2))), (b3, .inl (cI, 400, .inl (E 3))), (g, .inr (0, [.ref g0, .ref g1, .ref g2, .ref g3, .int (nI gn)])), (g0, .inl (cI, 400, .inl (G 0))), (g1, .inl (cI, 400, .inl (G 1))), (g2, .inl (cI, 400, .inl (G 2))), (g3, .inl (cI, 400, .inl (G 3)))] → va_S A H0 H locs → ∀ (ls : Array Slot), lv_has ls 4 [(0, .ref f), (1, .ref g), (2, .int (nI k)), (3, .int (nI i))] →  W p l e R s m args below meth c H locs 0 0 Q (F0 m 7 ls []) := by
  intro N
  induction N with
  | zero =>
    intro i E hi hj hN
    exact absurd hN (Nat.not_lt_zero _)
  | succ N ih =>
    intro i E hi hj hN H locs hP hD hS ls hl
    refine lv_iload_n hx hb dX0_takeUpTo_7 rfl (lv_at hl 3 rfl) ?_
    refine lv_iload_n hx hb dX0_takeUpTo_8 rfl (lv_at hl 2 rfl) ?_
    refine lv_icmp_ge (tgt := 54) hx hb dX0_takeUpTo_9 (by decide) (fun c_9 => ?_) (fun c_9 => ?_)
    ·
      have c_9 := (nI_leI (by omega) (by omega)).mp c_9
      exact hex i E (by omega) (fun a ha j h => hj a ha j (by omega))  H locs (hP.sub [0, 1, 2, 3, 4, 5, 6, 7, 8, 9] rfl) (hD.sub [0, 1, 2, 3, 4, 5, 6, 7, 8, 9] (by decide) rfl) hS ls (lv_sub hl [0, 3] rfl)
    ·
      have c_9 := (mt (nI_leI (by omega) (by omega)).mpr c_9)
      refine lv_iload_n hx hb dX0_takeUpTo_12 rfl (lv_at hl 3 rfl) ?_
      refine lv_aload_n hx hb dX0_takeUpTo_13 rfl (lv_at hl 1 rfl) ?_
      refine va_get (D := D) (ci := 0) (v := .int (nI gn)) (C := RX0) (T := TX0) (N := 5) hx hb hw iwX0 hown hK.1 hP 5 rfl rfl 4 (by decide) (hw _ xw_77) (fun _ h9 => h9) rfl dX0_takeUpTo_14 ?_
      refine lv_icmp_ge (tgt := 54) hx hb dX0_takeUpTo_17 (by decide) (fun c_17 => ?_) (fun c_17 => ?_)
      ·
        have c_17 := (nI_leI (by omega) (by omega)).mp c_17
        exact hex i E (by omega) (fun a ha j h => hj a ha j (by omega))  H locs (hP.sub [0, 1, 2, 3, 4, 5, 6, 7, 8, 9] rfl) (hD.sub [0, 1, 2, 3, 4, 5, 6, 7, 8, 9] (by decide) rfl) hS ls (lv_sub hl [0, 3] rfl)
      ·
        have c_17 := (mt (nI_leI (by omega) (by omega)).mpr c_17)
        refine lv_aload_n hx hb dX0_takeUpTo_20 rfl (lv_at hl 0 rfl) ?_
        refine lv_aload_n hx hb dX0_takeUpTo_21 rfl (lv_at hl 1 rfl) ?_
        refine va_get (D := D) (ci := 0) (v := .ref g0) (C := RX0) (T := TX0) (N := 5) hx hb hw iwX0 hown hK.1 hP 5 rfl rfl 0 (by decide) (hw _ xw_78) (fun _ h9 => h9) rfl dX0_takeUpTo_22 ?_
        refine lv_iload_n hx hb dX0_takeUpTo_25 rfl (lv_at hl 3 rfl) ?_
        refine es_iald hx hb hK.1 hP 6 0 rfl rfl (by omega) (Nat.le_of_ble_eq_true rfl) dX0_takeUpTo_26 ?_
        refine lv_aload_n hx hb dX0_takeUpTo_27 rfl (lv_at hl 1 rfl) ?_
        refine va_get (D := D) (ci := 0) (v := .ref g1) (C := RX0) (T := TX0) (N := 5) hx hb hw iwX0 hown hK.1 hP 5 rfl rfl 1 (by decide) (hw _ xw_79) (fun _ h9 => h9) rfl dX0_takeUpTo_28 ?_
        refine lv_iload_n hx hb dX0_takeUpTo_31 rfl (lv_at hl 3 rfl) ?_
        refine es_iald hx hb hK.1 hP 7 0 rfl rfl (by omega) (Nat.le_of_ble_eq_true rfl) dX0_takeUpTo_32 ?_
        refine lv_aload_n hx hb dX0_takeUpTo_33 rfl (lv_at hl 1 rfl) ?_
        refine va_get (D := D) (ci := 0) (v := .ref g2) (C := RX0) (T := TX0) (N := 5) hx hb hw iwX0 hown hK.1 hP 5 rfl rfl 2 (by decide) (hw _ xw_80) (fun _ h9 => h9) rfl dX0_takeUpTo_34 ?_
        refine lv_iload_n hx hb dX0_takeUpTo_37 rfl (lv_at hl 3 rfl) ?_
        refine es_iald hx hb hK.1 hP 8 0 rfl rfl (by omega) (Nat.le_of_ble_eq_true rfl) dX0_takeUpTo_38 ?_
        refine lv_aload_n hx hb dX0_takeUpTo_39 rfl (lv_at hl 1 rfl) ?_
        refine va_get (D := D) (ci := 0) (v := .ref g3) (C := RX0) (T := TX0) (N := 5) hx hb hw iwX0 hown hK.1 hP 5 rfl rfl 3 (by decide) (hw _ xw_81) (fun _ h9 => h9) rfl dX0_takeUpTo_40 ?_
        refine lv_iload_n hx hb dX0_takeUpTo_43 rfl (lv_at hl 3 rfl) ?_
        refine es_iald hx hb hK.1 hP 9 0 rfl rfl (by omega) (Nat.le_of_ble_eq_true rfl) dX0_takeUpTo_44 ?_
        refine es_cv (wr := [(g, .inr (0, [.ref g0, .ref g1, .ref g2, .ref g3, .int (nI gn)])), (g0, .inl (cI, 400, .inl (G 0))), (g1, .inl (cI, 400, .inl (G 1))), (g2, .inl (cI, 400, .inl (G 2))), (g3, .inl (cI, 400, .inl (G 3)))]) (va_runV (As := [.int ((G 0) i), .int ((G 1) i), .int ((G 2) i), .int ((G 3) i)]) (rest := []) ⟨hx, hb, hml, hown, hw⟩ (c_X0_add l D cI H.size f b0 b1 b2 b3 E i ((G 0) i) ((G 1) i) ((G 2) i) ((G 3) i) (by first | assumption | omega)) (cwV 4 hw (es_v xw_95 xw_96 xw_97 xw_98 xw_83) rfl rfl rfl kv_X0_add ⟨Nat.le_trans (Nat.le_of_ble_eq_true rfl) hRm.1, Nat.le_trans (Nat.le_of_ble_eq_true rfl) hRm.2⟩) (es_WV hK (hP.sub (ws' := [(f, .inr (0, [.ref b0, .ref b1, .ref b2, .ref b3, .int (nI i)])), (b0, .inl (cI, 400, .inl (E 0))), (b1, .inl (cI, 400, .inl (E 1))), (b2, .inl (cI, 400, .inl (E 2))), (b3, .inl (cI, 400, .inl (E 3)))]) [0, 1, 2, 3, 4] rfl) (hD.sub (ws' := [(f, .inr (0, [.ref b0, .ref b1, .ref b2, .ref b3, .int (nI i)])), (b0, .inl (cI, 400, .inl (E 0))), (b1, .inl (cI, 400, .inl (E 1))), (b2, .inl (cI, 400, .inl (E 2))), (b3, .inl (cI, 400, .inl (E 3)))]) [0, 1, 2, 3, 4] (by decide) rfl) rfl rfl) rfl rfl hl.1 rfl (lv_room (Nat.le_of_ble_eq_true rfl)) dX0_takeUpTo_45 ⟨(Nat.zero_le _), (Nat.zero_le _)⟩) hP hD hS hA [0, 1, 2, 3, 4] [5, 6, 7, 8, 9] rfl rfl (by decide) (by decide) (fun u_1 H locs hu_1 hP hD hS => ?_)
        have hP : va_P D vwCl [(g, .inr (0, [.ref g0, .ref g1, .ref g2, .ref g3, .int (nI gn)])), (g0, .inl (cI, 400, .inl (G 0))), (g1, .inl (cI, 400, .inl (G 1))), (g2, .inl (cI, 400, .inl (G 2))), (g3, .inl (cI, 400, .inl (G 3))), (f, .inr (0, [.ref b0, .ref b1, .ref b2, .ref b3, .int (nI (i + 1))])), (b0, .inl (cI, 400, .inl (upd (E 0) i ((G 0) i)))), (b1, .inl (cI, 400, .inl (upd (E 1) i ((G 1) i)))), (b2, .inl (cI, 400, .inl (upd (E 2) i ((G 2) i)))), (b3, .inl (cI, 400, .inl (upd (E 3) i ((G 3) i))))] H := hP
        have hD : va_D A [(g, .inr (0, [.ref g0, .ref g1, .ref g2, .ref g3, .int (nI gn)])), (g0, .inl (cI, 400, .inl (G 0))), (g1, .inl (cI, 400, .inl (G 1))), (g2, .inl (cI, 400, .inl (G 2))), (g3, .inl (cI, 400, .inl (G 3))), (f, .inr (0, [.ref b0, .ref b1, .ref b2, .ref b3, .int (nI (i + 1))])), (b0, .inl (cI, 400, .inl (upd (E 0) i ((G 0) i)))), (b1, .inl (cI, 400, .inl (upd (E 1) i ((G 1) i)))), (b2, .inl (cI, 400, .inl (upd (E 2) i ((G 2) i)))), (b3, .inl (cI, 400, .inl (upd (E 3) i ((G 3) i))))] := hD
        refine lv_iinc (v := nI (i + 1)) (lv' := [(3, .int (nI (i + 1))), (0, .ref f), (1, .ref g), (2, .int (nI k))]) hx hb dX0_takeUpTo_48 hl (k := 3) rfl (nI_1 _) (by decide) rfl (fun ls hl => ?_)
        refine lv_goto (tgt := 7) hx hb dX0_takeUpTo_51 (by decide) ?_
        exact ih (i + 1) (es_row4 (upd (E 0) i ((G 0) i)) (upd (E 1) i ((G 1) i)) (upd (E 2) i ((G 2) i)) (upd (E 3) i ((G 3) i))) (by first | assumption | omega) (es_row_ext hj) (by omega) H locs (hP.sub [5, 6, 7, 8, 9, 0, 1, 2, 3, 4] rfl) (hD.sub [5, 6, 7, 8, 9, 0, 1, 2, 3, 4] (by decide) rfl) hS ls (lv_sub hl [1, 2, 3, 0] rfl)
set_option maxHeartbeats 1000000 in
set_option maxRecDepth 100000 in
/-- X0.takeUpTo  -/
theorem c_X0_takeUpTo (l : Launch) (D : va_G) (cI : ClassId) (sz : Nat) (f : Nat) (b0 : Nat) (b1 : Nat) (b2 : Nat) (b3 : Nat) (F : Nat → Nat → Int32) (n : Nat) (g : Nat) (g0 : Nat) (g1 : Nat) (g2 : Nat) (g3 : Nat) (G : Nat → Nat → Int32) (gn : Nat) (k : Nat) (hgn : gn ≤ 400) (hk : k ≤ gn) : Met l yX0_takeUpTo (Cond.code yX0_takeUpTo cX0_takeUpTo 4 none :: es_T) { frames := 1, cells := 0, slots := 0, locals := 24 } (va_Pc [.ref f, .ref g, .int (nI k)] (es_W D cI sz [(f, .inr (0, [.ref b0, .ref b1, .ref b2, .ref b3, .int (nI n)])), (b0, .inl (cI, 400, .inl (F 0))), (b1, .inl (cI, 400, .inl (F 1))), (b2, .inl (cI, 400, .inl (F 2))), (b3, .inl (cI, 400, .inl (F 3))), (g, .inr (0, [.ref g0, .ref g1, .ref g2, .ref g3, .int (nI gn)])), (g0, .inl (cI, 400, .inl (G 0))), (g1, .inl (cI, 400, .inl (G 1))), (g2, .inl (cI, 400, .inl (G 2))), (g3, .inl (cI, 400, .inl (G 3)))])) (va_Qv (fun u => ∀ a, a < 4 → ∀ j, j < k → u a j = G a j) (fun (u : Nat → Nat → Int32) zt => va_P D vwCl [(f, .inr (0, [.ref b0, .ref b1, .ref b2, .ref b3, .int (nI k)])), (b0, .inl (cI, 400, .inl (u 0))), (b1, .inl (cI, 400, .inl (u 1))), (b2, .inl (cI, 400, .inl (u 2))), (b3, .inl (cI, 400, .inl (u 3))), (g, .inr (0, [.ref g0, .ref g1, .ref g2, .ref g3, .int (nI gn)])), (g0, .inl (cI, 400, .inl (G 0))), (g1, .inl (cI, 400, .inl (G 1))), (g2, .inl (cI, 400, .inl (G 2))), (g3, .inl (cI, 400, .inl (G 3)))] zt.heap ∧ va_D (va_A [(f, .inr (0, [.ref b0, .ref b1, .ref b2, .ref b3, .int (nI n)])), (b0, .inl (cI, 400, .inl (F 0))), (b1, .inl (cI, 400, .inl (F 1))), (b2, .inl (cI, 400, .inl (F 2))), (b3, .inl (cI, 400, .inl (F 3))), (g, .inr (0, [.ref g0, .ref g1, .ref g2, .ref g3, .int (nI gn)])), (g0, .inl (cI, 400, .inl (G 0))), (g1, .inl (cI, 400, .inl (G 1))), (g2, .inl (cI, 400, .inl (G 2))), (g3, .inl (cI, 400, .inl (G 3)))] sz) [(f, .inr (0, [.ref b0, .ref b1, .ref b2, .ref b3, .int (nI k)])), (b0, .inl (cI, 400, .inl (u 0))), (b1, .inl (cI, 400, .inl (u 1))), (b2, .inl (cI, 400, .inl (u 2))), (b3, .inl (cI, 400, .inl (u 3))), (g, .inr (0, [.ref g0, .ref g1, .ref g2, .ref g3, .int (nI gn)])), (g0, .inl (cI, 400, .inl (G 0))), (g1, .inl (cI, 400, .inl (G 1))), (g2, .inl (cI, 400, .inl (G 2))), (g3, .inl (cI, 400, .inl (G 3)))]) (va_A [(f, .inr (0, [.ref b0, .ref b1, .ref b2, .ref b3, .int (nI n)])), (b0, .inl (cI, 400, .inl (F 0))), (b1, .inl (cI, 400, .inl (F 1))), (b2, .inl (cI, 400, .inl (F 2))), (b3, .inl (cI, 400, .inl (F 3))), (g, .inr (0, [.ref g0, .ref g1, .ref g2, .ref g3, .int (nI gn)])), (g0, .inl (cI, 400, .inl (G 0))), (g1, .inl (cI, 400, .inl (G 1))), (g2, .inl (cI, 400, .inl (G 2))), (g3, .inl (cI, 400, .inl (G 3)))] sz)) 0 0 (va_A [(f, .inr (0, [.ref b0, .ref b1, .ref b2, .ref b3, .int (nI n)])), (b0, .inl (cI, 400, .inl (F 0))), (b1, .inl (cI, 400, .inl (F 1))), (b2, .inl (cI, 400, .inl (F 2))), (b3, .inl (cI, 400, .inl (F 3))), (g, .inr (0, [.ref g0, .ref g1, .ref g2, .ref g3, .int (nI gn)])), (g0, .inl (cI, 400, .inl (G 0))), (g1, .inl (cI, 400, .inl (G 1))), (g2, .inl (cI, 400, .inl (G 2))), (g3, .inl (cI, 400, .inl (G 3)))] sz) := by
  refine Met.ofW (cc := cX0_takeUpTo) (maxL := 4) (ret := none) (by decide) rfl ?_
  intro p e s m args below meth c s₁ B hml hv
  obtain ⟨rfl, hsz, hP, hK, hD0⟩ := hv
  have hx := B.exec
  have hb := B.bytes
  have hr := B.returns
  have hts := atoms_spec (ws := (Cond.code yX0_takeUpTo cX0_takeUpTo 4 none :: es_T)) B.pre
  have hw : ∀ w ∈ es_T, w.before _ s = true := fun w h => hts w (List.mem_cons_of_mem _ h)
  have hown : s.vm.findClass RX0 = some m.cls := findClass_of_methodNamed B.named
  have hlocks := B.notSynchronized
  have hRm : 1 ≤ (headSpec (Cond.code yX0_takeUpTo cX0_takeUpTo 4 none :: es_T) { frames := 1, cells := 0, slots := 0, locals := 24 }).room.frames ∧ 24 ≤ (headSpec (Cond.code yX0_takeUpTo cX0_takeUpTo 4 none :: es_T) { frames := 1, cells := 0, slots := 0, locals := 24 }).room.locals := ⟨Nat.le_refl _, Nat.le_refl _⟩
  have hRc : 0 ≤ (headSpec (Cond.code yX0_takeUpTo cX0_takeUpTo 4 none :: es_T) { frames := 1, cells := 0, slots := 0, locals := 24 }).room.cells ∧ 0 ≤ (headSpec (Cond.code yX0_takeUpTo cX0_takeUpTo 4 none :: es_T) { frames := 1, cells := 0, slots := 0, locals := 24 }).room.slots := ⟨Nat.le_refl _, Nat.le_refl _⟩
  subst hsz
  have hD := hD0.self (sz := s.heap.size)
  generalize hAe : va_A [(f, .inr (0, [.ref b0, .ref b1, .ref b2, .ref b3, .int (nI n)])), (b0, .inl (cI, 400, .inl (F 0))), (b1, .inl (cI, 400, .inl (F 1))), (b2, .inl (cI, 400, .inl (F 2))), (b3, .inl (cI, 400, .inl (F 3))), (g, .inr (0, [.ref g0, .ref g1, .ref g2, .ref g3, .int (nI gn)])), (g0, .inl (cI, 400, .inl (G 0))), (g1, .inl (cI, 400, .inl (G 1))), (g2, .inl (cI, 400, .inl (G 2))), (g3, .inl (cI, 400, .inl (G 3)))] s.heap.size = A at hD ⊢
  have hA : ∀ q : Nat, s.heap.size ≤ q → A q := fun q h => by rw [← hAe]; exact Or.inr h
  have hS : va_S A s.heap s.heap [] := va_S.rf
  have hl := lv_entry ([.ref f, .ref g, .int (nI k)]) (n := 4) (Nat.le_of_ble_eq_true rfl)
  rw [lg_entry_eq]
  generalize (lg_sl ([.ref f, .ref g, .int (nI k)]) ++ List.replicate (4 - (lg_sl ([.ref f, .ref g, .int (nI k)])).length) Slot.unset).toArray = ls at hl ⊢
  have hl : lv_has ls 4 [(0, .ref f), (1, .ref g), (2, .int (nI k))] := hl
  refine lv_aload_n hx hb dX0_takeUpTo_0 rfl (lv_at hl 0 rfl) ?_
  refine lv_iconst (v := nI 0) hx hb dX0_takeUpTo_1 (by decide) ?_
  refine va_put (D := D) (ci := 0) (v := .int (nI 0)) (ty := .int) (C := RX0) (T := TX0) (N := 5) hx hb hw iwX0 tyX0 tyX0_ok nmX0 hown hK.1 hP hD hS 0 rfl rfl 4 (by decide) (hw _ xw_77) (fun _ h9 => h9) rfl (by decide +kernel) rfl rfl (Nat.le_of_ble_eq_true rfl) dX0_takeUpTo_2 (fun H locs hP hD hS => ?_)
  have hP : va_P D vwCl [(f, .inr (0, [.ref b0, .ref b1, .ref b2, .ref b3, .int (nI 0)])), (b0, .inl (cI, 400, .inl (F 0))), (b1, .inl (cI, 400, .inl (F 1))), (b2, .inl (cI, 400, .inl (F 2))), (b3, .inl (cI, 400, .inl (F 3))), (g, .inr (0, [.ref g0, .ref g1, .ref g2, .ref g3, .int (nI gn)])), (g0, .inl (cI, 400, .inl (G 0))), (g1, .inl (cI, 400, .inl (G 1))), (g2, .inl (cI, 400, .inl (G 2))), (g3, .inl (cI, 400, .inl (G 3)))] H := hP
  have hD : va_D A [(f, .inr (0, [.ref b0, .ref b1, .ref b2, .ref b3, .int (nI 0)])), (b0, .inl (cI, 400, .inl (F 0))), (b1, .inl (cI, 400, .inl (F 1))), (b2, .inl (cI, 400, .inl (F 2))), (b3, .inl (cI, 400, .inl (F 3))), (g, .inr (0, [.ref g0, .ref g1, .ref g2, .ref g3, .int (nI gn)])), (g0, .inl (cI, 400, .inl (G 0))), (g1, .inl (cI, 400, .inl (G 1))), (g2, .inl (cI, 400, .inl (G 2))), (g3, .inl (cI, 400, .inl (G 3)))] := hD
  refine lv_iconst (v := nI 0) hx hb dX0_takeUpTo_5 (by decide) ?_
  refine lv_istore_n (lv' := [(3, .int (nI 0)), (0, .ref f), (1, .ref g), (2, .int (nI k))]) hx hb dX0_takeUpTo_6 rfl hl (by decide) rfl (fun ls hl => ?_)
  refine lp_takeUpTo D cI f b0 b1 b2 b3 g g0 g1 g2 g3 G gn k hx hb hml hown hw hK ⟨Nat.le_trans (Nat.le_of_ble_eq_true rfl) hRm.1, Nat.le_trans (Nat.le_of_ble_eq_true rfl) hRm.2⟩ hA (by first | assumption | omega) (by first | assumption | omega) (fun i E hi hj H locs hP hD hS ls hl => ?_) ((k - 0) + 1) 0 F (by first | assumption | omega) (fun a ha j h => absurd h (Nat.not_lt_zero _)) (Nat.lt_succ_self _) H locs (hP.sub [0, 1, 2, 3, 4, 5, 6, 7, 8, 9] rfl) (hD.sub [0, 1, 2, 3, 4, 5, 6, 7, 8, 9] (by decide) rfl) hS ls (lv_sub hl [1, 2, 3, 0] rfl)
  subst hi
  exact W.vret hx hb hr (fun zt ht hW => ⟨⟨E, rfl, hj, ⟨by rw [ht]; exact hP.sub [0, 1, 2, 3, 4, 5, 6, 7, 8, 9] rfl, hD.sub [0, 1, 2, 3, 4, 5, 6, 7, 8, 9] (by decide) rfl⟩⟩, hS.F ht⟩) hS.2.2 dX0_takeUpTo_54
set_option maxHeartbeats 1000000 in
set_option maxRecDepth 100000 in
theorem lp_takeMoved {p : Program} {l : Launch} {e : Env} {R : Room} {s : State} {m : MethodId} {args : Array Value} {below : List Frame} {meth : Method} {c : Code} {Q : State → Prop} {A : Nat → Prop} {H0 : Heap} (D : va_G) (cI : ClassId) (f : Nat) (b0 : Nat) (b1 : Nat) (b2 : Nat) (b3 : Nat) (F : Nat → Nat → Int32) (n : Nat) (g : Nat) (g0 : Nat) (g1 : Nat) (g2 : Nat) (g3 : Nat) (G : Nat → Nat → Int32) (gn : Nat) (k : Nat) (x : Int32) (hx : p.tables.exec = Jvm.exec) (hb : c.code = cX0_takeMoved) (hml : c.maxLocals = 5) (hown : s.vm.findClass RX0 = some m.cls) (hw : ∀ w ∈ es_T, w.before args s = true) (hK : es_K D cI s) (hRm : 1 ≤ R.frames ∧ 24 ≤ R.locals) (hA : ∀ q : Nat, H0.size ≤ q → A q) (hgn : gn ≤ 400) (hk : k ≤ gn) (hs : n + (gn - k) ≤ 400) (hex : ∀ (i : Nat) (E : Nat → Nat → Int32), (i = gn - k) → (es_mvd F G E n k x i) → ∀ (H : Heap) (locs : List Loc), va_P D vwCl [(f, .inr (0, [.ref b0, .ref b1, .ref b2, .ref b3, .int (nI (n + i))])), (b0, .inl (cI, 400, .inl (E 0))), (b1, .inl (cI, 400, .inl (E 1))), (b2, .inl (cI, 400, .inl (E 2))), (b3, .inl (cI, 400, .inl (E 3))), (g, .inr (0, [.ref g0, .ref g1, .ref g2, .ref g3, .int (nI gn)])), (g0, .inl (cI, 400, .inl (G 0))), (g1, .inl (cI, 400, .inl (G 1))), (g2, .inl (cI, 400, .inl (G 2))), (g3, .inl (cI, 400, .inl (G 3)))] H → va_D A [(f, .inr (0, [.ref b0, .ref b1, .ref b2, .ref b3, .int (nI (n + i))])), (b0, .inl (cI, 400, .inl (E 0))), (b1, .inl (cI, 400, .inl (E 1))), (b2, .inl (cI, 400, .inl (E 2))), (b3, .inl (cI, 400, .inl (E 3))), (g, .inr (0, [.ref g0, .ref g1, .ref g2, .ref g3, .int (nI gn)])), (g0, .inl (cI, 400, .inl (G 0))), (g1, .inl (cI, 400, .inl (G 1))), (g2, .inl (cI, 400, .inl (G 2))), (g3, .inl (cI, 400, .inl (G 3)))] → va_S A H0 H locs → ∀ (ls : Array Slot), lv_has ls 5 [(0, .ref f), (4, .int (nI (k + i)))] →  W p l e R s m args below meth c H locs 0 0 Q (F0 m 56 ls [])) : ∀ (N : Nat) (i : Nat) (E : Nat → Nat → Int32), (i ≤ gn - k) → (es_mvd F G E n k x i) → (gn - k - i) < N → ∀ (H : Heap) (locs : List Loc), va_P D vwCl [(f, .inr (0, [.ref b0, .ref b1, .ref b2, .ref b3, .int (nI (n + i))])), (b0, .inl (cI, 400, .inl (E 0))), (b1, .inl (cI, 400, .inl (E 1))), (b2, .inl (cI, 400, .inl (E 2))), (b3, .inl (cI, 400, .inl (E 3))), (g, .inr (0, [.ref g0, .ref g1, .ref g2, .ref g3, .int (nI gn)])), (g0, .inl (cI, 400, .inl (G 0))), (g1, .inl (cI, 400, .inl (G 1))), (g2, .inl (cI, 400, .inl (G 2))), (g3, .inl (cI, 400, .inl (G 3)))] H → va_D A [(f, .inr (0, [.ref b0, .ref b1, .ref b2, .ref b3, .int (nI (n + i))])), (b0, .inl (cI, 400, .inl (E 0))), (b1, .inl (cI, 400, .inl (E 1))), (b2, .inl (cI, 400, .inl (E 2))), (b3, .inl (cI, 400, .inl (E 3))), (g, .inr (0, [.ref g0, .ref g1, .ref g2, .ref g3, .int (nI gn)])), (g0, .inl (cI, 400, .inl (G 0))), (g1, .inl (cI, 400, .inl (G 1))), (g2, .inl (cI, 400, .inl (G 2))), (g3, .inl (cI, 400, .inl (G 3)))] → va_S A H0 H locs → ∀ (ls : Array Slot), lv_has ls 5 [(0, .ref f), (1, .ref g), (3, .int x), (4, .int (nI (k + i)))] →  W p l e R s m args below meth c H locs 0 0 Q (F0 m 7 ls []) := by
  intro N
  induction N with
  | zero =>
    intro i E hi hj hN
    exact absurd hN (Nat.not_lt_zero _)
  | succ N ih =>
    intro i E hi hj hN H locs hP hD hS ls hl
    refine lv_iload hx hb dX0_takeMoved_7 (lv_at hl 3 rfl) ?_
    refine lv_aload_n hx hb dX0_takeMoved_9 rfl (lv_at hl 1 rfl) ?_
    refine va_get (D := D) (ci := 0) (v := .int (nI gn)) (C := RX0) (T := TX0) (N := 5) hx hb hw iwX0 hown hK.1 hP 5 rfl rfl 4 (by decide) (hw _ xw_77) (fun _ h9 => h9) rfl dX0_takeMoved_10 ?_
    refine lv_icmp_ge (tgt := 56) hx hb dX0_takeMoved_13 (by decide) (fun c_13 => ?_) (fun c_13 => ?_)
    ·
      have c_13 := (nI_leI (by omega) (by omega)).mp c_13
      exact hex i E (by omega) (by first | assumption | omega)  H locs (hP.sub [0, 1, 2, 3, 4, 5, 6, 7, 8, 9] rfl) (hD.sub [0, 1, 2, 3, 4, 5, 6, 7, 8, 9] (by decide) rfl) hS ls (lv_sub hl [0, 3] rfl)
    ·
      have c_13 := (mt (nI_leI (by omega) (by omega)).mpr c_13)
      refine lv_aload_n hx hb dX0_takeMoved_16 rfl (lv_at hl 0 rfl) ?_
      refine lv_aload_n hx hb dX0_takeMoved_17 rfl (lv_at hl 1 rfl) ?_
      refine va_get (D := D) (ci := 0) (v := .ref g0) (C := RX0) (T := TX0) (N := 5) hx hb hw iwX0 hown hK.1 hP 5 rfl rfl 0 (by decide) (hw _ xw_78) (fun _ h9 => h9) rfl dX0_takeMoved_18 ?_
      refine lv_iload hx hb dX0_takeMoved_21 (lv_at hl 3 rfl) ?_
      refine es_iald hx hb hK.1 hP 6 0 rfl rfl (by omega) (Nat.le_of_ble_eq_true rfl) dX0_takeMoved_23 ?_
      refine lv_iload_n hx hb dX0_takeMoved_24 rfl (lv_at hl 2 rfl) ?_
      refine lv_iadd hx hb dX0_takeMoved_25 ?_
      refine lv_aload_n hx hb dX0_takeMoved_26 rfl (lv_at hl 1 rfl) ?_
      refine va_get (D := D) (ci := 0) (v := .ref g1) (C := RX0) (T := TX0) (N := 5) hx hb hw iwX0 hown hK.1 hP 5 rfl rfl 1 (by decide) (hw _ xw_79) (fun _ h9 => h9) rfl dX0_takeMoved_27 ?_
      refine lv_iload hx hb dX0_takeMoved_30 (lv_at hl 3 rfl) ?_
      refine es_iald hx hb hK.1 hP 7 0 rfl rfl (by omega) (Nat.le_of_ble_eq_true rfl) dX0_takeMoved_32 ?_
      refine lv_aload_n hx hb dX0_takeMoved_33 rfl (lv_at hl 1 rfl) ?_
      refine va_get (D := D) (ci := 0) (v := .ref g2) (C := RX0) (T := TX0) (N := 5) hx hb hw iwX0 hown hK.1 hP 5 rfl rfl 2 (by decide) (hw _ xw_80) (fun _ h9 => h9) rfl dX0_takeMoved_34 ?_
      refine lv_iload hx hb dX0_takeMoved_37 (lv_at hl 3 rfl) ?_
      refine es_iald hx hb hK.1 hP 8 0 rfl rfl (by omega) (Nat.le_of_ble_eq_true rfl) dX0_takeMoved_39 ?_
      refine lv_aload_n hx hb dX0_takeMoved_40 rfl (lv_at hl 1 rfl) ?_
      refine va_get (D := D) (ci := 0) (v := .ref g3) (C := RX0) (T := TX0) (N := 5) hx hb hw iwX0 hown hK.1 hP 5 rfl rfl 3 (by decide) (hw _ xw_81) (fun _ h9 => h9) rfl dX0_takeMoved_41 ?_
      refine lv_iload hx hb dX0_takeMoved_44 (lv_at hl 3 rfl) ?_
      refine es_iald hx hb hK.1 hP 9 0 rfl rfl (by omega) (Nat.le_of_ble_eq_true rfl) dX0_takeMoved_46 ?_
      refine es_cv (wr := [(g, .inr (0, [.ref g0, .ref g1, .ref g2, .ref g3, .int (nI gn)])), (g0, .inl (cI, 400, .inl (G 0))), (g1, .inl (cI, 400, .inl (G 1))), (g2, .inl (cI, 400, .inl (G 2))), (g3, .inl (cI, 400, .inl (G 3)))]) (va_runV (As := [.int (((G 0) (k + i)) + x), .int ((G 1) (k + i)), .int ((G 2) (k + i)), .int ((G 3) (k + i))]) (rest := []) ⟨hx, hb, hml, hown, hw⟩ (c_X0_add l D cI H.size f b0 b1 b2 b3 E (n + i) (((G 0) (k + i)) + x) ((G 1) (k + i)) ((G 2) (k + i)) ((G 3) (k + i)) (by first | assumption | omega)) (cwV 4 hw (es_v xw_95 xw_96 xw_97 xw_98 xw_83) rfl rfl rfl kv_X0_add ⟨Nat.le_trans (Nat.le_of_ble_eq_true rfl) hRm.1, Nat.le_trans (Nat.le_of_ble_eq_true rfl) hRm.2⟩) (es_WV hK (hP.sub (ws' := [(f, .inr (0, [.ref b0, .ref b1, .ref b2, .ref b3, .int (nI (n + i))])), (b0, .inl (cI, 400, .inl (E 0))), (b1, .inl (cI, 400, .inl (E 1))), (b2, .inl (cI, 400, .inl (E 2))), (b3, .inl (cI, 400, .inl (E 3)))]) [0, 1, 2, 3, 4] rfl) (hD.sub (ws' := [(f, .inr (0, [.ref b0, .ref b1, .ref b2, .ref b3, .int (nI (n + i))])), (b0, .inl (cI, 400, .inl (E 0))), (b1, .inl (cI, 400, .inl (E 1))), (b2, .inl (cI, 400, .inl (E 2))), (b3, .inl (cI, 400, .inl (E 3)))]) [0, 1, 2, 3, 4] (by decide) rfl) rfl rfl) rfl rfl hl.1 rfl (lv_room (Nat.le_of_ble_eq_true rfl)) dX0_takeMoved_47 ⟨(Nat.zero_le _), (Nat.zero_le _)⟩) hP hD hS hA [0, 1, 2, 3, 4] [5, 6, 7, 8, 9] rfl rfl (by decide) (by decide) (fun u_1 H locs hu_1 hP hD hS => ?_)
      have hP : va_P D vwCl [(g, .inr (0, [.ref g0, .ref g1, .ref g2, .ref g3, .int (nI gn)])), (g0, .inl (cI, 400, .inl (G 0))), (g1, .inl (cI, 400, .inl (G 1))), (g2, .inl (cI, 400, .inl (G 2))), (g3, .inl (cI, 400, .inl (G 3))), (f, .inr (0, [.ref b0, .ref b1, .ref b2, .ref b3, .int (nI ((n + i) + 1))])), (b0, .inl (cI, 400, .inl (upd (E 0) (n + i) (((G 0) (k + i)) + x)))), (b1, .inl (cI, 400, .inl (upd (E 1) (n + i) ((G 1) (k + i))))), (b2, .inl (cI, 400, .inl (upd (E 2) (n + i) ((G 2) (k + i))))), (b3, .inl (cI, 400, .inl (upd (E 3) (n + i) ((G 3) (k + i)))))] H := hP
      have hD : va_D A [(g, .inr (0, [.ref g0, .ref g1, .ref g2, .ref g3, .int (nI gn)])), (g0, .inl (cI, 400, .inl (G 0))), (g1, .inl (cI, 400, .inl (G 1))), (g2, .inl (cI, 400, .inl (G 2))), (g3, .inl (cI, 400, .inl (G 3))), (f, .inr (0, [.ref b0, .ref b1, .ref b2, .ref b3, .int (nI ((n + i) + 1))])), (b0, .inl (cI, 400, .inl (upd (E 0) (n + i) (((G 0) (k + i)) + x)))), (b1, .inl (cI, 400, .inl (upd (E 1) (n + i) ((G 1) (k + i))))), (b2, .inl (cI, 400, .inl (upd (E 2) (n + i) ((G 2) (k + i))))), (b3, .inl (cI, 400, .inl (upd (E 3) (n + i) ((G 3) (k + i)))))] := hD
      refine lv_iinc (v := nI ((k + i) + 1)) (lv' := [(4, .int (nI ((k + i) + 1))), (0, .ref f), (1, .ref g), (3, .int x)]) hx hb dX0_takeMoved_50 hl (k := 3) rfl (nI_1 _) (by decide) rfl (fun ls hl => ?_)
      refine lv_goto (tgt := 7) hx hb dX0_takeMoved_53 (by decide) ?_
      exact ih (i + 1) (es_row4 (upd (E 0) (n + i) (((G 0) (k + i)) + x)) (upd (E 1) (n + i) ((G 1) (k + i))) (upd (E 2) (n + i) ((G 2) (k + i))) (upd (E 3) (n + i) ((G 3) (k + i)))) (by omega) (es_mvd_s hj) (by omega) H locs (hP.sub [5, 6, 7, 8, 9, 0, 1, 2, 3, 4] rfl) (hD.sub [5, 6, 7, 8, 9, 0, 1, 2, 3, 4] (by decide) rfl) hS ls (lv_sub hl [1, 2, 3, 0] rfl)
set_option maxHeartbeats 1000000 in
set_option maxRecDepth 100000 in
/-- X0.takeMoved  -/
theorem c_X0_takeMoved (l : Launch) (D : va_G) (cI : ClassId) (sz : Nat) (f : Nat) (b0 : Nat) (b1 : Nat) (b2 : Nat) (b3 : Nat) (F : Nat → Nat → Int32) (n : Nat) (g : Nat) (g0 : Nat) (g1 : Nat) (g2 : Nat) (g3 : Nat) (G : Nat → Nat → Int32) (gn : Nat) (k : Nat) (x : Int32) (hgn : gn ≤ 400) (hk : k ≤ gn) (hs : n + (gn - k) ≤ 400) : Met l yX0_takeMoved (Cond.code yX0_takeMoved cX0_takeMoved 5 none :: es_T) { frames := 1, cells := 0, slots := 0, locals := 24 } (va_Pc [.ref f, .ref g, .int (nI k), .int x] (es_W D cI sz [(f, .inr (0, [.ref b0, .ref b1, .ref b2, .ref b3, .int (nI n)])), (b0, .inl (cI, 400, .inl (F 0))), (b1, .inl (cI, 400, .inl (F 1))), (b2, .inl (cI, 400, .inl (F 2))), (b3, .inl (cI, 400, .inl (F 3))), (g, .inr (0, [.ref g0, .ref g1, .ref g2, .ref g3, .int (nI gn)])), (g0, .inl (cI, 400, .inl (G 0))), (g1, .inl (cI, 400, .inl (G 1))), (g2, .inl (cI, 400, .inl (G 2))), (g3, .inl (cI, 400, .inl (G 3)))])) (va_Qv (fun u => es_mvd F G u n k x (gn - k)) (fun (u : Nat → Nat → Int32) zt => va_P D vwCl [(f, .inr (0, [.ref b0, .ref b1, .ref b2, .ref b3, .int (nI (n + (gn - k)))])), (b0, .inl (cI, 400, .inl (u 0))), (b1, .inl (cI, 400, .inl (u 1))), (b2, .inl (cI, 400, .inl (u 2))), (b3, .inl (cI, 400, .inl (u 3))), (g, .inr (0, [.ref g0, .ref g1, .ref g2, .ref g3, .int (nI gn)])), (g0, .inl (cI, 400, .inl (G 0))), (g1, .inl (cI, 400, .inl (G 1))), (g2, .inl (cI, 400, .inl (G 2))), (g3, .inl (cI, 400, .inl (G 3)))] zt.heap ∧ va_D (va_A [(f, .inr (0, [.ref b0, .ref b1, .ref b2, .ref b3, .int (nI n)])), (b0, .inl (cI, 400, .inl (F 0))), (b1, .inl (cI, 400, .inl (F 1))), (b2, .inl (cI, 400, .inl (F 2))), (b3, .inl (cI, 400, .inl (F 3))), (g, .inr (0, [.ref g0, .ref g1, .ref g2, .ref g3, .int (nI gn)])), (g0, .inl (cI, 400, .inl (G 0))), (g1, .inl (cI, 400, .inl (G 1))), (g2, .inl (cI, 400, .inl (G 2))), (g3, .inl (cI, 400, .inl (G 3)))] sz) [(f, .inr (0, [.ref b0, .ref b1, .ref b2, .ref b3, .int (nI (n + (gn - k)))])), (b0, .inl (cI, 400, .inl (u 0))), (b1, .inl (cI, 400, .inl (u 1))), (b2, .inl (cI, 400, .inl (u 2))), (b3, .inl (cI, 400, .inl (u 3))), (g, .inr (0, [.ref g0, .ref g1, .ref g2, .ref g3, .int (nI gn)])), (g0, .inl (cI, 400, .inl (G 0))), (g1, .inl (cI, 400, .inl (G 1))), (g2, .inl (cI, 400, .inl (G 2))), (g3, .inl (cI, 400, .inl (G 3)))]) (va_A [(f, .inr (0, [.ref b0, .ref b1, .ref b2, .ref b3, .int (nI n)])), (b0, .inl (cI, 400, .inl (F 0))), (b1, .inl (cI, 400, .inl (F 1))), (b2, .inl (cI, 400, .inl (F 2))), (b3, .inl (cI, 400, .inl (F 3))), (g, .inr (0, [.ref g0, .ref g1, .ref g2, .ref g3, .int (nI gn)])), (g0, .inl (cI, 400, .inl (G 0))), (g1, .inl (cI, 400, .inl (G 1))), (g2, .inl (cI, 400, .inl (G 2))), (g3, .inl (cI, 400, .inl (G 3)))] sz)) 0 0 (va_A [(f, .inr (0, [.ref b0, .ref b1, .ref b2, .ref b3, .int (nI n)])), (b0, .inl (cI, 400, .inl (F 0))), (b1, .inl (cI, 400, .inl (F 1))), (b2, .inl (cI, 400, .inl (F 2))), (b3, .inl (cI, 400, .inl (F 3))), (g, .inr (0, [.ref g0, .ref g1, .ref g2, .ref g3, .int (nI gn)])), (g0, .inl (cI, 400, .inl (G 0))), (g1, .inl (cI, 400, .inl (G 1))), (g2, .inl (cI, 400, .inl (G 2))), (g3, .inl (cI, 400, .inl (G 3)))] sz) := by
  refine Met.ofW (cc := cX0_takeMoved) (maxL := 5) (ret := none) (by decide) rfl ?_
  intro p e s m args below meth c s₁ B hml hv
  obtain ⟨rfl, hsz, hP, hK, hD0⟩ := hv
  have hx := B.exec
  have hb := B.bytes
  have hr := B.returns
  have hts := atoms_spec (ws := (Cond.code yX0_takeMoved cX0_takeMoved 5 none :: es_T)) B.pre
  have hw : ∀ w ∈ es_T, w.before _ s = true := fun w h => hts w (List.mem_cons_of_mem _ h)
  have hown : s.vm.findClass RX0 = some m.cls := findClass_of_methodNamed B.named
  have hlocks := B.notSynchronized
  have hRm : 1 ≤ (headSpec (Cond.code yX0_takeMoved cX0_takeMoved 5 none :: es_T) { frames := 1, cells := 0, slots := 0, locals := 24 }).room.frames ∧ 24 ≤ (headSpec (Cond.code yX0_takeMoved cX0_takeMoved 5 none :: es_T) { frames := 1, cells := 0, slots := 0, locals := 24 }).room.locals := ⟨Nat.le_refl _, Nat.le_refl _⟩
  have hRc : 0 ≤ (headSpec (Cond.code yX0_takeMoved cX0_takeMoved 5 none :: es_T) { frames := 1, cells := 0, slots := 0, locals := 24 }).room.cells ∧ 0 ≤ (headSpec (Cond.code yX0_takeMoved cX0_takeMoved 5 none :: es_T) { frames := 1, cells := 0, slots := 0, locals := 24 }).room.slots := ⟨Nat.le_refl _, Nat.le_refl _⟩
  subst hsz
  have hD := hD0.self (sz := s.heap.size)
  generalize hAe : va_A [(f, .inr (0, [.ref b0, .ref b1, .ref b2, .ref b3, .int (nI n)])), (b0, .inl (cI, 400, .inl (F 0))), (b1, .inl (cI, 400, .inl (F 1))), (b2, .inl (cI, 400, .inl (F 2))), (b3, .inl (cI, 400, .inl (F 3))), (g, .inr (0, [.ref g0, .ref g1, .ref g2, .ref g3, .int (nI gn)])), (g0, .inl (cI, 400, .inl (G 0))), (g1, .inl (cI, 400, .inl (G 1))), (g2, .inl (cI, 400, .inl (G 2))), (g3, .inl (cI, 400, .inl (G 3)))] s.heap.size = A at hD ⊢
  have hA : ∀ q : Nat, s.heap.size ≤ q → A q := fun q h => by rw [← hAe]; exact Or.inr h
  have hS : va_S A s.heap s.heap [] := va_S.rf
  have hl := lv_entry ([.ref f, .ref g, .int (nI k), .int x]) (n := 5) (Nat.le_of_ble_eq_true rfl)
  rw [lg_entry_eq]
  generalize (lg_sl ([.ref f, .ref g, .int (nI k), .int x]) ++ List.replicate (5 - (lg_sl ([.ref f, .ref g, .int (nI k), .int x])).length) Slot.unset).toArray = ls at hl ⊢
  have hl : lv_has ls 5 [(0, .ref f), (1, .ref g), (2, .int (nI k)), (3, .int x)] := hl
  refine lv_iload_n hx hb dX0_takeMoved_0 rfl (lv_at hl 2 rfl) ?_
  refine lv_iconst (v := nI 0) hx hb dX0_takeMoved_1 (by decide) ?_
  refine va_mmax hx hb (by rw [hml]; exact hl.1.symm) hown (hw _ xw_87) (hw _ xw_88) (hw _ xw_89) (hw _ xw_90) (Nat.le_trans (Nat.le_of_ble_eq_true rfl) hRm.1) (Nat.le_trans (Nat.le_of_ble_eq_true rfl) hRm.2) (Nat.zero_le _) (Nat.zero_le _) dX0_takeMoved_2 ?_
  refine es_top (y := nI k) (if_neg (fun h => absurd h (nI_pos (by omega)))) ?_
  refine lv_istore (lv' := [(4, .int (nI k)), (0, .ref f), (1, .ref g), (2, .int (nI k)), (3, .int x)]) hx hb dX0_takeMoved_5 hl (by decide) rfl (fun ls hl => ?_)
  refine lp_takeMoved D cI f b0 b1 b2 b3 F n g g0 g1 g2 g3 G gn k x hx hb hml hown hw hK ⟨Nat.le_trans (Nat.le_of_ble_eq_true rfl) hRm.1, Nat.le_trans (Nat.le_of_ble_eq_true rfl) hRm.2⟩ hA (by first | assumption | omega) (by first | assumption | omega) (by first | assumption | omega) (fun i E hi hj H locs hP hD hS ls hl => ?_) ((gn - k - 0) + 1) 0 F (by first | assumption | omega) es_mvd_0 (Nat.lt_succ_self _) s.heap [] (hP.sub [0, 1, 2, 3, 4, 5, 6, 7, 8, 9] rfl) (hD.sub [0, 1, 2, 3, 4, 5, 6, 7, 8, 9] (by decide) rfl) hS ls (lv_sub hl [1, 2, 4, 0] rfl)
  subst hi
  exact W.vret hx hb hr (fun zt ht hW => ⟨⟨E, rfl, hj, ⟨by rw [ht]; exact hP.sub [0, 1, 2, 3, 4, 5, 6, 7, 8, 9] rfl, hD.sub [0, 1, 2, 3, 4, 5, 6, 7, 8, 9] (by decide) rfl⟩⟩, hS.F ht⟩) hS.2.2 dX0_takeMoved_56
set_option maxHeartbeats 1000000 in
set_option maxRecDepth 100000 in
/-- X0.init  -/
theorem c_X0_init (l : Launch) (D : va_G) (cI : ClassId) (sz : Nat) (f : Nat)  : Met l yX0_init (Cond.code yX0_init cX0_init 1 none :: es_T) { frames := 1, cells := 4, slots := 1600, locals := 20 } (va_Pc [.ref f] (es_W D cI sz [(f, .inr (0, [.null, .null, .null, .null, .int 0]))])) (va_Qv (fun _ => True) (fun (u : Nat × Nat × Nat × Nat) zt => va_P D vwCl [(f, .inr (0, [.ref u.1, .ref u.2.1, .ref u.2.2.1, .ref u.2.2.2, .int (nI 0)])), (u.1, .inl (cI, 400, .inl (fun _ => 0))), (u.2.1, .inl (cI, 400, .inl (fun _ => 0))), (u.2.2.1, .inl (cI, 400, .inl (fun _ => 0))), (u.2.2.2, .inl (cI, 400, .inl (fun _ => 0)))] zt.heap ∧ va_D (va_A [(f, .inr (0, [.null, .null, .null, .null, .int 0]))] sz) [(f, .inr (0, [.ref u.1, .ref u.2.1, .ref u.2.2.1, .ref u.2.2.2, .int (nI 0)])), (u.1, .inl (cI, 400, .inl (fun _ => 0))), (u.2.1, .inl (cI, 400, .inl (fun _ => 0))), (u.2.2.1, .inl (cI, 400, .inl (fun _ => 0))), (u.2.2.2, .inl (cI, 400, .inl (fun _ => 0)))]) (va_A [(f, .inr (0, [.null, .null, .null, .null, .int 0]))] sz)) 4 1600 (va_A [(f, .inr (0, [.null, .null, .null, .null, .int 0]))] sz) := by
  refine Met.ofW (cc := cX0_init) (maxL := 1) (ret := none) (by decide) rfl ?_
  intro p e s m args below meth c s₁ B hml hv
  obtain ⟨rfl, hsz, hP, hK, hD0⟩ := hv
  have hx := B.exec
  have hb := B.bytes
  have hr := B.returns
  have hts := atoms_spec (ws := (Cond.code yX0_init cX0_init 1 none :: es_T)) B.pre
  have hw : ∀ w ∈ es_T, w.before _ s = true := fun w h => hts w (List.mem_cons_of_mem _ h)
  have hown : s.vm.findClass RX0 = some m.cls := findClass_of_methodNamed B.named
  have hlocks := B.notSynchronized
  have hin : meth.name = "<init>" := (name_of_methodNamed B.named B.method).1
  have hRm : 1 ≤ (headSpec (Cond.code yX0_init cX0_init 1 none :: es_T) { frames := 1, cells := 4, slots := 1600, locals := 20 }).room.frames ∧ 20 ≤ (headSpec (Cond.code yX0_init cX0_init 1 none :: es_T) { frames := 1, cells := 4, slots := 1600, locals := 20 }).room.locals := ⟨Nat.le_refl _, Nat.le_refl _⟩
  have hRc : 4 ≤ (headSpec (Cond.code yX0_init cX0_init 1 none :: es_T) { frames := 1, cells := 4, slots := 1600, locals := 20 }).room.cells ∧ 1600 ≤ (headSpec (Cond.code yX0_init cX0_init 1 none :: es_T) { frames := 1, cells := 4, slots := 1600, locals := 20 }).room.slots := ⟨Nat.le_refl _, Nat.le_refl _⟩
  subst hsz
  have hD := hD0.self (sz := s.heap.size)
  generalize hAe : va_A [(f, .inr (0, [.null, .null, .null, .null, .int 0]))] s.heap.size = A at hD ⊢
  have hA : ∀ q : Nat, s.heap.size ≤ q → A q := fun q h => by rw [← hAe]; exact Or.inr h
  have hS : va_S A s.heap s.heap [] := va_S.rf
  have hl := lv_entry ([.ref f]) (n := 1) (Nat.le_of_ble_eq_true rfl)
  rw [lg_entry_eq]
  generalize (lg_sl ([.ref f]) ++ List.replicate (1 - (lg_sl ([.ref f])).length) Slot.unset).toArray = ls at hl ⊢
  have hl : lv_has ls 1 [(0, .ref f)] := hl
  refine lv_aload_n hx hb dX0_init_0 rfl (lv_at hl 0 rfl) ?_
  refine W.objInit hx hb hown (hw _ xw_91) (hw _ xw_92) (hw _ xw_93) rfl (by rw [hml]; exact hl.1) rfl dX0_init_1 (Nat.le_trans (Nat.le_of_ble_eq_true rfl) hRm.1) (Nat.le_trans (Nat.le_of_ble_eq_true rfl) hRm.2) ?_
  refine W.eq (g2 := F0 m 4 ls []) rfl ?_
  refine lv_aload_n hx hb dX0_init_4 rfl (lv_at hl 0 rfl) ?_
  refine lv_sipush (v := nI 400) hx hb dX0_init_5 (by decide) ?_
  refine es_newa hx hb (hw _ xw_94) hK.1 hP hD hS hA (N' := 400) (by decide) (by decide) (Nat.le_trans (Nat.le_of_ble_eq_true rfl) hRc.1) (Nat.le_trans (Nat.le_of_ble_eq_true rfl) hRc.2) (by decide) dX0_init_8 (fun q_1 H hP hD hS => ?_)
  have hP : va_P D vwCl [(f, .inr (0, [.null, .null, .null, .null, .int 0])), (q_1, .inl (cI, 400, .inl (fun _ => 0)))] H := hP
  have hD : va_D A [(f, .inr (0, [.null, .null, .null, .null, .int 0])), (q_1, .inl (cI, 400, .inl (fun _ => 0)))] := hD
  refine W.widen (k := 1) (n := 400) (Nat.le_of_ble_eq_true rfl) (Nat.le_of_ble_eq_true rfl) ?_
  refine va_putF (D := D) (ci := 0) (v := .ref q_1) (ty := (.array .int)) (C := RX0) (T := TX0) (N := 5) hx hb hw iwX0 tyX0 tyX0_ok nmX0 hown hK.1 hP hD hS 0 rfl rfl 0 (by decide) (hw _ xw_78) (fun _ h9 => h9) rfl hin rfl (by decide +kernel) rfl rfl (Nat.le_of_ble_eq_true rfl) dX0_init_10 (fun H locs hP hD hS => ?_)
  have hP : va_P D vwCl [(f, .inr (0, [.ref q_1, .null, .null, .null, .int 0])), (q_1, .inl (cI, 400, .inl (fun _ => 0)))] H := hP
  have hD : va_D A [(f, .inr (0, [.ref q_1, .null, .null, .null, .int 0])), (q_1, .inl (cI, 400, .inl (fun _ => 0)))] := hD
  refine lv_aload_n hx hb dX0_init_13 rfl (lv_at hl 0 rfl) ?_
  refine lv_sipush (v := nI 400) hx hb dX0_init_14 (by decide) ?_
  refine es_newa hx hb (hw _ xw_94) hK.1 hP hD hS hA (N' := 400) (by decide) (by decide) (Nat.le_trans (Nat.le_of_ble_eq_true rfl) hRc.1) (Nat.le_trans (Nat.le_of_ble_eq_true rfl) hRc.2) (by decide) dX0_init_17 (fun q_2 H hP hD hS => ?_)
  have hP : va_P D vwCl [(f, .inr (0, [.ref q_1, .null, .null, .null, .int 0])), (q_1, .inl (cI, 400, .inl (fun _ => 0))), (q_2, .inl (cI, 400, .inl (fun _ => 0)))] H := hP
  have hD : va_D A [(f, .inr (0, [.ref q_1, .null, .null, .null, .int 0])), (q_1, .inl (cI, 400, .inl (fun _ => 0))), (q_2, .inl (cI, 400, .inl (fun _ => 0)))] := hD
  refine W.widen (k := 2) (n := 800) (Nat.le_of_ble_eq_true rfl) (Nat.le_of_ble_eq_true rfl) ?_
  refine va_putF (D := D) (ci := 0) (v := .ref q_2) (ty := (.array .int)) (C := RX0) (T := TX0) (N := 5) hx hb hw iwX0 tyX0 tyX0_ok nmX0 hown hK.1 hP hD hS 0 rfl rfl 1 (by decide) (hw _ xw_79) (fun _ h9 => h9) rfl hin rfl (by decide +kernel) rfl rfl (Nat.le_of_ble_eq_true rfl) dX0_init_19 (fun H locs hP hD hS => ?_)
  have hP : va_P D vwCl [(f, .inr (0, [.ref q_1, .ref q_2, .null, .null, .int 0])), (q_1, .inl (cI, 400, .inl (fun _ => 0))), (q_2, .inl (cI, 400, .inl (fun _ => 0)))] H := hP
  have hD : va_D A [(f, .inr (0, [.ref q_1, .ref q_2, .null, .null, .int 0])), (q_1, .inl (cI, 400, .inl (fun _ => 0))), (q_2, .inl (cI, 400, .inl (fun _ => 0)))] := hD
  refine lv_aload_n hx hb dX0_init_22 rfl (lv_at hl 0 rfl) ?_
  refine lv_sipush (v := nI 400) hx hb dX0_init_23 (by decide) ?_
  refine es_newa hx hb (hw _ xw_94) hK.1 hP hD hS hA (N' := 400) (by decide) (by decide) (Nat.le_trans (Nat.le_of_ble_eq_true rfl) hRc.1) (Nat.le_trans (Nat.le_of_ble_eq_true rfl) hRc.2) (by decide) dX0_init_26 (fun q_3 H hP hD hS => ?_)
  have hP : va_P D vwCl [(f, .inr (0, [.ref q_1, .ref q_2, .null, .null, .int 0])), (q_1, .inl (cI, 400, .inl (fun _ => 0))), (q_2, .inl (cI, 400, .inl (fun _ => 0))), (q_3, .inl (cI, 400, .inl (fun _ => 0)))] H := hP
  have hD : va_D A [(f, .inr (0, [.ref q_1, .ref q_2, .null, .null, .int 0])), (q_1, .inl (cI, 400, .inl (fun _ => 0))), (q_2, .inl (cI, 400, .inl (fun _ => 0))), (q_3, .inl (cI, 400, .inl (fun _ => 0)))] := hD
  refine W.widen (k := 3) (n := 1200) (Nat.le_of_ble_eq_true rfl) (Nat.le_of_ble_eq_true rfl) ?_
  refine va_putF (D := D) (ci := 0) (v := .ref q_3) (ty := (.array .int)) (C := RX0) (T := TX0) (N := 5) hx hb hw iwX0 tyX0 tyX0_ok nmX0 hown hK.1 hP hD hS 0 rfl rfl 2 (by decide) (hw _ xw_80) (fun _ h9 => h9) rfl hin rfl (by decide +kernel) rfl rfl (Nat.le_of_ble_eq_true rfl) dX0_init_28 (fun H locs hP hD hS => ?_)
  have hP : va_P D vwCl [(f, .inr (0, [.ref q_1, .ref q_2, .ref q_3, .null, .int 0])), (q_1, .inl (cI, 400, .inl (fun _ => 0))), (q_2, .inl (cI, 400, .inl (fun _ => 0))), (q_3, .inl (cI, 400, .inl (fun _ => 0)))] H := hP
  have hD : va_D A [(f, .inr (0, [.ref q_1, .ref q_2, .ref q_3, .null, .int 0])), (q_1, .inl (cI, 400, .inl (fun _ => 0))), (q_2, .inl (cI, 400, .inl (fun _ => 0))), (q_3, .inl (cI, 400, .inl (fun _ => 0)))] := hD
  refine lv_aload_n hx hb dX0_init_31 rfl (lv_at hl 0 rfl) ?_
  refine lv_sipush (v := nI 400) hx hb dX0_init_32 (by decide) ?_
  refine es_newa hx hb (hw _ xw_94) hK.1 hP hD hS hA (N' := 400) (by decide) (by decide) (Nat.le_trans (Nat.le_of_ble_eq_true rfl) hRc.1) (Nat.le_trans (Nat.le_of_ble_eq_true rfl) hRc.2) (by decide) dX0_init_35 (fun q_4 H hP hD hS => ?_)
  have hP : va_P D vwCl [(f, .inr (0, [.ref q_1, .ref q_2, .ref q_3, .null, .int 0])), (q_1, .inl (cI, 400, .inl (fun _ => 0))), (q_2, .inl (cI, 400, .inl (fun _ => 0))), (q_3, .inl (cI, 400, .inl (fun _ => 0))), (q_4, .inl (cI, 400, .inl (fun _ => 0)))] H := hP
  have hD : va_D A [(f, .inr (0, [.ref q_1, .ref q_2, .ref q_3, .null, .int 0])), (q_1, .inl (cI, 400, .inl (fun _ => 0))), (q_2, .inl (cI, 400, .inl (fun _ => 0))), (q_3, .inl (cI, 400, .inl (fun _ => 0))), (q_4, .inl (cI, 400, .inl (fun _ => 0)))] := hD
  refine W.widen (k := 4) (n := 1600) (Nat.le_of_ble_eq_true rfl) (Nat.le_of_ble_eq_true rfl) ?_
  refine va_putF (D := D) (ci := 0) (v := .ref q_4) (ty := (.array .int)) (C := RX0) (T := TX0) (N := 5) hx hb hw iwX0 tyX0 tyX0_ok nmX0 hown hK.1 hP hD hS 0 rfl rfl 3 (by decide) (hw _ xw_81) (fun _ h9 => h9) rfl hin rfl (by decide +kernel) rfl rfl (Nat.le_of_ble_eq_true rfl) dX0_init_37 (fun H locs hP hD hS => ?_)
  have hP : va_P D vwCl [(f, .inr (0, [.ref q_1, .ref q_2, .ref q_3, .ref q_4, .int 0])), (q_1, .inl (cI, 400, .inl (fun _ => 0))), (q_2, .inl (cI, 400, .inl (fun _ => 0))), (q_3, .inl (cI, 400, .inl (fun _ => 0))), (q_4, .inl (cI, 400, .inl (fun _ => 0)))] H := hP
  have hD : va_D A [(f, .inr (0, [.ref q_1, .ref q_2, .ref q_3, .ref q_4, .int 0])), (q_1, .inl (cI, 400, .inl (fun _ => 0))), (q_2, .inl (cI, 400, .inl (fun _ => 0))), (q_3, .inl (cI, 400, .inl (fun _ => 0))), (q_4, .inl (cI, 400, .inl (fun _ => 0)))] := hD
  refine W.widen (k := 4) (n := 1600) (Nat.le_of_ble_eq_true rfl) (Nat.le_of_ble_eq_true rfl) ?_
  exact W.vret hx hb hr (fun zt ht hW => ⟨⟨(q_1, q_2, q_3, q_4), rfl, trivial, ⟨by rw [ht]; exact hP.sub [0, 1, 2, 3, 4] rfl, hD.sub [0, 1, 2, 3, 4] (by decide) rfl⟩⟩, hS.F ht⟩) hS.2.2 dX0_init_40
end
section
abbrev es_okA (x y z : Int32) : Prop := (0 ≤ x ∧ x < nI 20) ∧ (0 ≤ y ∧ y < nI 10) ∧ (z = -1 ∨ (0 ≤ z ∧ z < nI 20))
abbrev es_okK (x y : Int32) : Prop := (0 ≤ x ∧ x < nI 20) ∧ (-1 ≤ y ∧ y < nI 100)
def uN (x : Int64) : Nat := x.toUInt64.toNat
theorem uN_shr (x : Int64) (s : UInt64) : uN (x.toUInt64 >>> s).toInt64 = uN x / 2 ^ (s.toNat % 64) := by
  show (x.toUInt64 >>> s).toNat = _
  rw [UInt64.toNat_shiftRight, Nat.shiftRight_eq_div_pow]
  rfl
theorem uN_sk (x : Int64) {k : Nat} (hk : k < 64) : uN (x.toUInt64 >>> ((nI k).toInt64.toUInt64 &&& Int64.toUInt64 63)).toInt64 = uN x / 2 ^ k := by
  have h : ((nI k).toInt64.toUInt64 &&& Int64.toUInt64 63).toNat % 64 = k := by
    rw [nI_l (by omega), UInt64.toNat_and]
    have e : (lN k).toUInt64.toNat = k % 2 ^ 64 := rfl
    have e2 : (Int64.toUInt64 63).toNat = 2 ^ 6 - 1 := by decide
    rw [e, e2, Nat.and_two_pow_sub_one_eq_mod]
    omega
  rw [uN_shr, h]
theorem es_dg_lt (sy : Int64) (k : Nat) : es_dg sy k < 16 := Nat.mod_lt _ (by decide)
theorem es_unp {sy : Int64} {k : Nat} (hk : k ≤ 15) : ((sy.toUInt64 >>> ((nI (4 * k)).toInt64.toUInt64 &&& Int64.toUInt64 63)).toInt64).toInt32 &&& nI 15 = nI (es_dg sy k) := by
  have h1 := uN_sk sy (k := 4 * k) (by omega)
  generalize (sy.toUInt64 >>> ((nI (4 * k)).toInt64.toUInt64 &&& Int64.toUInt64 63)).toInt64 = w at h1 ⊢
  rw [pk_and w.toInt32 4 (by decide)]
  have h2 : w.toInt32.toBitVec.toNat = uN w % 2 ^ 32 := by
    show (w.toBitVec.signExtend 32).toNat = _
    rw [BitVec.signExtend_eq_setWidth_of_le _ (by decide), BitVec.toNat_setWidth]
    rfl
  rw [h2, h1]
  unfold es_dg
  have e : uN sy = sy.toBitVec.toNat := rfl
  rw [e]
  congr 1
  omega
/-- the row behind an edit -/
def es_rep (tx u : Nat → Int32) (n pl ou : Nat) (sy : Int64) (cn : Nat) : Prop := (∀ j, j < pl → u j = tx j) ∧ (∀ j, j < cn → u (pl + j) = nI (es_dg sy (cn - 1 - j))) ∧ ∀ j, pl + ou ≤ j → j < n → u (j - ou + cn) = tx j
def es_rpi (cp E : Nat → Int32) (pl : Nat) (sy : Int64) (cn i : Nat) : Prop := (∀ j, (j < pl ∨ pl + cn ≤ j) → E j = cp j) ∧ ∀ j, j < i → E (pl + j) = nI (es_dg sy (cn - 1 - j))
theorem es_rpi_0 {cp : Nat → Int32} {pl : Nat} {sy : Int64} {cn : Nat} : es_rpi cp cp pl sy cn 0 := ⟨fun _ _ => rfl, fun _ h => absurd h (Nat.not_lt_zero _)⟩
theorem es_rpi_s {cp E : Nat → Int32} {pl : Nat} {sy : Int64} {cn i : Nat} (h : es_rpi cp E pl sy cn i) (hi : i < cn) : es_rpi cp (upd E (pl + i) (nI (es_dg sy (cn - 1 - i)))) pl sy cn (i + 1) := by
  refine ⟨fun j hj => (pk_un (by omega)).trans (h.1 j hj), fun j hj => ?_⟩
  by_cases e : j = i
  · rw [e]; exact pk_us
  · exact (pk_un (by omega)).trans (h.2 j (by omega))
theorem es_rep_of {tx E : Nat → Int32} {n pl ou : Nat} {sy : Int64} {cn : Nat} (h1 : pl + ou ≤ n) (h3 : n - ou + cn ≤ 400) (h : es_rpi (va_cpy tx tx (pl + ou) (pl + cn) (n - pl - ou)) E pl sy cn cn) : es_rep tx E n pl ou sy cn := by
  refine ⟨fun j hj => ?_, h.2, fun j hj hj2 => ?_⟩
  · rw [h.1 j (Or.inl hj), pk_cpy_out (by omega)]
  · rw [h.1 _ (Or.inr (by omega)), pk_cpy_in (by omega) (by omega)]
    congr 1
    omega

set_option maxHeartbeats 1000000 in
set_option maxRecDepth 100000 in
/-- X1.setArrow  -/
theorem c_X1_setArrow (l : Launch) (D : va_G) (cI : ClassId) (sz : Nat) (tb : Nat) (a : Nat) (k : Nat) (ar : Nat → Int32) (ki : Nat → Int32) (x : Int32) (y : Int32) (z : Int32)  : Met l yX1_setArrow (Cond.code yX1_setArrow cX1_setArrow 4 (some .boolean) :: es_T) { frames := 1, cells := 0, slots := 0, locals := 20 } (va_Pc [.ref tb, .int x, .int y, .int z] (es_W D cI sz [(tb, .inr (1, [.ref a, .ref k])), (a, .inl (cI, 200, .inl ar)), (k, .inl (cI, 20, .inl ki))])) (va_Qi (fun r u => (r = nI 1 ∧ es_okA x y z ∧ u = upd ar (10 * x.toNatClampNeg + y.toNatClampNeg) z) ∨ (r = nI 0 ∧ ¬ es_okA x y z ∧ u = ar)) (fun (u : Nat → Int32) zt => va_P D vwCl [(tb, .inr (1, [.ref a, .ref k])), (a, .inl (cI, 200, .inl u)), (k, .inl (cI, 20, .inl ki))] zt.heap ∧ va_D (va_A [(tb, .inr (1, [.ref a, .ref k])), (a, .inl (cI, 200, .inl ar)), (k, .inl (cI, 20, .inl ki))] sz) [(tb, .inr (1, [.ref a, .ref k])), (a, .inl (cI, 200, .inl u)), (k, .inl (cI, 20, .inl ki))]) (va_A [(tb, .inr (1, [.ref a, .ref k])), (a, .inl (cI, 200, .inl ar)), (k, .inl (cI, 20, .inl ki))] sz)) 0 0 (va_A [(tb, .inr (1, [.ref a, .ref k])), (a, .inl (cI, 200, .inl ar)), (k, .inl (cI, 20, .inl ki))] sz) := by
  refine Met.ofW (cc := cX1_setArrow) (maxL := 4) (ret := (some .boolean)) (by decide) rfl ?_
  intro p e s m args below meth c s₁ B hml hv
  obtain ⟨rfl, hsz, hP, hK, hD0⟩ := hv
  have hx := B.exec
  have hb := B.bytes
  have hr := B.returns
  have hts := atoms_spec (ws := (Cond.code yX1_setArrow cX1_setArrow 4 (some .boolean) :: es_T)) B.pre
  have hw : ∀ w ∈ es_T, w.before _ s = true := fun w h => hts w (List.mem_cons_of_mem _ h)
  have hown : s.vm.findClass RX1 = some m.cls := findClass_of_methodNamed B.named
  have hlocks := B.notSynchronized
  have hRm : 1 ≤ (headSpec (Cond.code yX1_setArrow cX1_setArrow 4 (some .boolean) :: es_T) { frames := 1, cells := 0, slots := 0, locals := 20 }).room.frames ∧ 20 ≤ (headSpec (Cond.code yX1_setArrow cX1_setArrow 4 (some .boolean) :: es_T) { frames := 1, cells := 0, slots := 0, locals := 20 }).room.locals := ⟨Nat.le_refl _, Nat.le_refl _⟩
  have hRc : 0 ≤ (headSpec (Cond.code yX1_setArrow cX1_setArrow 4 (some .boolean) :: es_T) { frames := 1, cells := 0, slots := 0, locals := 20 }).room.cells ∧ 0 ≤ (headSpec (Cond.code yX1_setArrow cX1_setArrow 4 (some .boolean) :: es_T) { frames := 1, cells := 0, slots := 0, locals := 20 }).room.slots := ⟨Nat.le_refl _, Nat.le_refl _⟩
  subst hsz
  have hD := hD0.self (sz := s.heap.size)
  generalize hAe : va_A [(tb, .inr (1, [.ref a, .ref k])), (a, .inl (cI, 200, .inl ar)), (k, .inl (cI, 20, .inl ki))] s.heap.size = A at hD ⊢
  have hA : ∀ q : Nat, s.heap.size ≤ q → A q := fun q h => by rw [← hAe]; exact Or.inr h
  have hS : va_S A s.heap s.heap [] := va_S.rf
  have hl := lv_entry ([.ref tb, .int x, .int y, .int z]) (n := 4) (Nat.le_of_ble_eq_true rfl)
  rw [lg_entry_eq]
  generalize (lg_sl ([.ref tb, .int x, .int y, .int z]) ++ List.replicate (4 - (lg_sl ([.ref tb, .int x, .int y, .int z])).length) Slot.unset).toArray = ls at hl ⊢
  have hl : lv_has ls 4 [(0, .ref tb), (1, .int x), (2, .int y), (3, .int z)] := hl
  refine lv_iload_n hx hb dX1_setArrow_0 rfl (lv_at hl 1 rfl) ?_
  refine vp_callSi (va_Run.run (va_runS (As := [.int x]) (rest := []) ⟨hx, hb, hml, hown, hw⟩ (c_X1_isState l D cI x ) (cwS 1 hw (es_s xw_115 xw_116 xw_117 xw_111) rfl rfl rfl kv_X1_isState ⟨Nat.le_trans (Nat.le_of_ble_eq_true rfl) hRm.1, Nat.le_trans (Nat.le_of_ble_eq_true rfl) hRm.2⟩) (es_RS hK (hP.sub (ws' := []) [] rfl)) rfl rfl hl.1 rfl (lv_room (Nat.le_of_ble_eq_true rfl)) dX1_setArrow_1 ⟨(Nat.zero_le _), (Nat.zero_le _)⟩)) (fun r_1 er_1 => ?_)
  obtain rfl : r_1 = if 0 ≤ x ∧ x < nI 20 then (1 : Int32) else 0 := er_1
  refine lv_if_eq (tgt := 26) hx hb dX1_setArrow_4 (by decide) (fun c_4 => ?_) (fun c_4 => ?_)
  ·
    have c_4 := es_if0 c_4
    refine lv_iconst (v := nI 0) hx hb dX1_setArrow_26 (by decide) ?_
    exact W.zret (v := nI 0) hx hb hr rfl (fun zt ht hW => ⟨⟨_, ar, rfl, Or.inr ⟨rfl, (fun h => by first | exact absurd h.1 c_4 | exact absurd h.2.1 c_11 | exact h.2.2.elim c_16 c_23), rfl⟩, ⟨by rw [ht]; exact hP.sub [0, 1, 2] rfl, hD.sub [0, 1, 2] (by decide) rfl⟩⟩, hS.F ht⟩) hS.2.2 dX1_setArrow_27
  ·
    have c_4 := es_if1 c_4
    refine lv_iload_n hx hb dX1_setArrow_7 rfl (lv_at hl 2 rfl) ?_
    refine vp_callSi (va_Run.run (va_runS (As := [.int y]) (rest := []) ⟨hx, hb, hml, hown, hw⟩ (c_X1_isSymbol l D cI y ) (cwS 1 hw (es_s xw_118 xw_119 xw_120 xw_111) rfl rfl rfl kv_X1_isSymbol ⟨Nat.le_trans (Nat.le_of_ble_eq_true rfl) hRm.1, Nat.le_trans (Nat.le_of_ble_eq_true rfl) hRm.2⟩) (es_RS hK (hP.sub (ws' := []) [] rfl)) rfl rfl hl.1 rfl (lv_room (Nat.le_of_ble_eq_true rfl)) dX1_setArrow_8 ⟨(Nat.zero_le _), (Nat.zero_le _)⟩)) (fun r_2 er_2 => ?_)
    obtain rfl : r_2 = if 0 ≤ y ∧ y < nI 10 then (1 : Int32) else 0 := er_2
    refine lv_if_eq (tgt := 26) hx hb dX1_setArrow_11 (by decide) (fun c_11 => ?_) (fun c_11 => ?_)
    ·
      have c_11 := es_if0 c_11
      refine lv_iconst (v := nI 0) hx hb dX1_setArrow_26 (by decide) ?_
      exact W.zret (v := nI 0) hx hb hr rfl (fun zt ht hW => ⟨⟨_, ar, rfl, Or.inr ⟨rfl, (fun h => by first | exact absurd h.1 c_4 | exact absurd h.2.1 c_11 | exact h.2.2.elim c_16 c_23), rfl⟩, ⟨by rw [ht]; exact hP.sub [0, 1, 2] rfl, hD.sub [0, 1, 2] (by decide) rfl⟩⟩, hS.F ht⟩) hS.2.2 dX1_setArrow_27
    ·
      have c_11 := es_if1 c_11
      refine lv_iload_n hx hb dX1_setArrow_14 rfl (lv_at hl 3 rfl) ?_
      refine lv_iconst (v := (-1)) hx hb dX1_setArrow_15 (by decide) ?_
      refine lv_icmp_eq (tgt := 28) hx hb dX1_setArrow_16 (by decide) (fun c_16 => ?_) (fun c_16 => ?_)
      ·
        obtain ⟨x0, hx0, rfl⟩ := es_nat c_4.1 c_4.2 (by decide)
        obtain ⟨y0, hy0, rfl⟩ := es_nat c_11.1 c_11.2 (by decide)
        refine lv_aload_n hx hb dX1_setArrow_28 rfl (lv_at hl 0 rfl) ?_
        refine va_get (D := D) (ci := 1) (v := .ref a) (C := RX1) (T := TX1) (N := 2) hx hb hw iwX1 hown hK.1 hP 0 rfl rfl 0 (by decide) (hw _ xw_103) (fun _ h9 => h9) rfl dX1_setArrow_29 ?_
        refine lv_iload_n hx hb dX1_setArrow_32 rfl (lv_at hl 1 rfl) ?_
        refine lv_bipush (v := nI 10) hx hb dX1_setArrow_33 (by decide) ?_
        refine lv_imul hx hb dX1_setArrow_35 ?_
        refine es_top (y := nI (x0 * 10)) (pk_mul _ _) ?_
        refine lv_iload_n hx hb dX1_setArrow_36 rfl (lv_at hl 2 rfl) ?_
        refine lv_iadd hx hb dX1_setArrow_37 ?_
        refine es_top (y := nI ((x0 * 10) + y0)) (nI_add _ _) ?_
        refine lv_iload_n hx hb dX1_setArrow_38 rfl (lv_at hl 3 rfl) ?_
        refine es_iast hx hb hK.1 hP hD hS 1 0 rfl rfl (by omega) (Nat.le_of_ble_eq_true rfl) dX1_setArrow_39 (fun H locs hP hD hS => ?_)
        have hP : va_P D vwCl [(tb, .inr (1, [.ref a, .ref k])), (a, .inl (cI, 200, .inl (upd ar ((x0 * 10) + y0) z))), (k, .inl (cI, 20, .inl ki))] H := hP
        have hD : va_D A [(tb, .inr (1, [.ref a, .ref k])), (a, .inl (cI, 200, .inl (upd ar ((x0 * 10) + y0) z))), (k, .inl (cI, 20, .inl ki))] := hD
        refine lv_iconst (v := nI 1) hx hb dX1_setArrow_40 (by decide) ?_
        exact W.zret (v := nI 1) hx hb hr rfl (fun zt ht hW => ⟨⟨_, (upd ar (x0 * 10 + y0) z), rfl, Or.inl ⟨rfl, ⟨c_4, c_11, (by first | exact Or.inl c_16 | exact Or.inr c_23)⟩, (by rw [nI_clamp (by omega), nI_clamp (by omega), Nat.mul_comm])⟩, ⟨by rw [ht]; exact hP.sub [0, 1, 2] rfl, hD.sub [0, 1, 2] (by decide) rfl⟩⟩, hS.F ht⟩) hS.2.2 dX1_setArrow_41
      ·
        refine lv_iload_n hx hb dX1_setArrow_19 rfl (lv_at hl 3 rfl) ?_
        refine vp_callSi (va_Run.run (va_runS (As := [.int z]) (rest := []) ⟨hx, hb, hml, hown, hw⟩ (c_X1_isState l D cI z ) (cwS 1 hw (es_s xw_115 xw_116 xw_117 xw_111) rfl rfl rfl kv_X1_isState ⟨Nat.le_trans (Nat.le_of_ble_eq_true rfl) hRm.1, Nat.le_trans (Nat.le_of_ble_eq_true rfl) hRm.2⟩) (es_RS hK (hP.sub (ws' := []) [] rfl)) rfl rfl hl.1 rfl (lv_room (Nat.le_of_ble_eq_true rfl)) dX1_setArrow_20 ⟨(Nat.zero_le _), (Nat.zero_le _)⟩)) (fun r_3 er_3 => ?_)
        obtain rfl : r_3 = if 0 ≤ z ∧ z < nI 20 then (1 : Int32) else 0 := er_3
        refine lv_if_ne (tgt := 28) hx hb dX1_setArrow_23 (by decide) (fun c_23 => ?_) (fun c_23 => ?_)
        ·
          have c_23 := es_if1 c_23
          obtain ⟨x0, hx0, rfl⟩ := es_nat c_4.1 c_4.2 (by decide)
          obtain ⟨y0, hy0, rfl⟩ := es_nat c_11.1 c_11.2 (by decide)
          refine lv_aload_n hx hb dX1_setArrow_28 rfl (lv_at hl 0 rfl) ?_
          refine va_get (D := D) (ci := 1) (v := .ref a) (C := RX1) (T := TX1) (N := 2) hx hb hw iwX1 hown hK.1 hP 0 rfl rfl 0 (by decide) (hw _ xw_103) (fun _ h9 => h9) rfl dX1_setArrow_29 ?_
          refine lv_iload_n hx hb dX1_setArrow_32 rfl (lv_at hl 1 rfl) ?_
          refine lv_bipush (v := nI 10) hx hb dX1_setArrow_33 (by decide) ?_
          refine lv_imul hx hb dX1_setArrow_35 ?_
          refine es_top (y := nI (x0 * 10)) (pk_mul _ _) ?_
          refine lv_iload_n hx hb dX1_setArrow_36 rfl (lv_at hl 2 rfl) ?_
          refine lv_iadd hx hb dX1_setArrow_37 ?_
          refine es_top (y := nI ((x0 * 10) + y0)) (nI_add _ _) ?_
          refine lv_iload_n hx hb dX1_setArrow_38 rfl (lv_at hl 3 rfl) ?_
          refine es_iast hx hb hK.1 hP hD hS 1 0 rfl rfl (by omega) (Nat.le_of_ble_eq_true rfl) dX1_setArrow_39 (fun H locs hP hD hS => ?_)
          have hP : va_P D vwCl [(tb, .inr (1, [.ref a, .ref k])), (a, .inl (cI, 200, .inl (upd ar ((x0 * 10) + y0) z))), (k, .inl (cI, 20, .inl ki))] H := hP
          have hD : va_D A [(tb, .inr (1, [.ref a, .ref k])), (a, .inl (cI, 200, .inl (upd ar ((x0 * 10) + y0) z))), (k, .inl (cI, 20, .inl ki))] := hD
          refine lv_iconst (v := nI 1) hx hb dX1_setArrow_40 (by decide) ?_
          exact W.zret (v := nI 1) hx hb hr rfl (fun zt ht hW => ⟨⟨_, (upd ar (x0 * 10 + y0) z), rfl, Or.inl ⟨rfl, ⟨c_4, c_11, (by first | exact Or.inl c_16 | exact Or.inr c_23)⟩, (by rw [nI_clamp (by omega), nI_clamp (by omega), Nat.mul_comm])⟩, ⟨by rw [ht]; exact hP.sub [0, 1, 2] rfl, hD.sub [0, 1, 2] (by decide) rfl⟩⟩, hS.F ht⟩) hS.2.2 dX1_setArrow_41
        ·
          have c_23 := es_if0 c_23
          refine lv_iconst (v := nI 0) hx hb dX1_setArrow_26 (by decide) ?_
          exact W.zret (v := nI 0) hx hb hr rfl (fun zt ht hW => ⟨⟨_, ar, rfl, Or.inr ⟨rfl, (fun h => by first | exact absurd h.1 c_4 | exact absurd h.2.1 c_11 | exact h.2.2.elim c_16 c_23), rfl⟩, ⟨by rw [ht]; exact hP.sub [0, 1, 2] rfl, hD.sub [0, 1, 2] (by decide) rfl⟩⟩, hS.F ht⟩) hS.2.2 dX1_setArrow_27
set_option maxHeartbeats 1000000 in
set_option maxRecDepth 100000 in
/-- X1.setKind  -/
theorem c_X1_setKind (l : Launch) (D : va_G) (cI : ClassId) (sz : Nat) (tb : Nat) (a : Nat) (k : Nat) (ar : Nat → Int32) (ki : Nat → Int32) (x : Int32) (y : Int32)  : Met l yX1_setKind (Cond.code yX1_setKind cX1_setKind 3 (some .boolean) :: es_T) { frames := 1, cells := 0, slots := 0, locals := 20 } (va_Pc [.ref tb, .int x, .int y] (es_W D cI sz [(tb, .inr (1, [.ref a, .ref k])), (a, .inl (cI, 200, .inl ar)), (k, .inl (cI, 20, .inl ki))])) (va_Qi (fun r u => (r = nI 1 ∧ es_okK x y ∧ u = upd ki x.toNatClampNeg y) ∨ (r = nI 0 ∧ ¬ es_okK x y ∧ u = ki)) (fun (u : Nat → Int32) zt => va_P D vwCl [(tb, .inr (1, [.ref a, .ref k])), (a, .inl (cI, 200, .inl ar)), (k, .inl (cI, 20, .inl u))] zt.heap ∧ va_D (va_A [(tb, .inr (1, [.ref a, .ref k])), (a, .inl (cI, 200, .inl ar)), (k, .inl (cI, 20, .inl ki))] sz) [(tb, .inr (1, [.ref a, .ref k])), (a, .inl (cI, 200, .inl ar)), (k, .inl (cI, 20, .inl u))]) (va_A [(tb, .inr (1, [.ref a, .ref k])), (a, .inl (cI, 200, .inl ar)), (k, .inl (cI, 20, .inl ki))] sz)) 0 0 (va_A [(tb, .inr (1, [.ref a, .ref k])), (a, .inl (cI, 200, .inl ar)), (k, .inl (cI, 20, .inl ki))] sz) := by
  refine Met.ofW (cc := cX1_setKind) (maxL := 3) (ret := (some .boolean)) (by decide) rfl ?_
  intro p e s m args below meth c s₁ B hml hv
  obtain ⟨rfl, hsz, hP, hK, hD0⟩ := hv
  have hx := B.exec
  have hb := B.bytes
  have hr := B.returns
  have hts := atoms_spec (ws := (Cond.code yX1_setKind cX1_setKind 3 (some .boolean) :: es_T)) B.pre
  have hw : ∀ w ∈ es_T, w.before _ s = true := fun w h => hts w (List.mem_cons_of_mem _ h)
  have hown : s.vm.findClass RX1 = some m.cls := findClass_of_methodNamed B.named
  have hlocks := B.notSynchronized
  have hRm : 1 ≤ (headSpec (Cond.code yX1_setKind cX1_setKind 3 (some .boolean) :: es_T) { frames := 1, cells := 0, slots := 0, locals := 20 }).room.frames ∧ 20 ≤ (headSpec (Cond.code yX1_setKind cX1_setKind 3 (some .boolean) :: es_T) { frames := 1, cells := 0, slots := 0, locals := 20 }).room.locals := ⟨Nat.le_refl _, Nat.le_refl _⟩
  have hRc : 0 ≤ (headSpec (Cond.code yX1_setKind cX1_setKind 3 (some .boolean) :: es_T) { frames := 1, cells := 0, slots := 0, locals := 20 }).room.cells ∧ 0 ≤ (headSpec (Cond.code yX1_setKind cX1_setKind 3 (some .boolean) :: es_T) { frames := 1, cells := 0, slots := 0, locals := 20 }).room.slots := ⟨Nat.le_refl _, Nat.le_refl _⟩
  subst hsz
  have hD := hD0.self (sz := s.heap.size)
  generalize hAe : va_A [(tb, .inr (1, [.ref a, .ref k])), (a, .inl (cI, 200, .inl ar)), (k, .inl (cI, 20, .inl ki))] s.heap.size = A at hD ⊢
  have hA : ∀ q : Nat, s.heap.size ≤ q → A q := fun q h => by rw [← hAe]; exact Or.inr h
  have hS : va_S A s.heap s.heap [] := va_S.rf
  have hl := lv_entry ([.ref tb, .int x, .int y]) (n := 3) (Nat.le_of_ble_eq_true rfl)
  rw [lg_entry_eq]
  generalize (lg_sl ([.ref tb, .int x, .int y]) ++ List.replicate (3 - (lg_sl ([.ref tb, .int x, .int y])).length) Slot.unset).toArray = ls at hl ⊢
  have hl : lv_has ls 3 [(0, .ref tb), (1, .int x), (2, .int y)] := hl
  refine lv_iload_n hx hb dX1_setKind_0 rfl (lv_at hl 1 rfl) ?_
  refine vp_callSi (va_Run.run (va_runS (As := [.int x]) (rest := []) ⟨hx, hb, hml, hown, hw⟩ (c_X1_isState l D cI x ) (cwS 1 hw (es_s xw_115 xw_116 xw_117 xw_111) rfl rfl rfl kv_X1_isState ⟨Nat.le_trans (Nat.le_of_ble_eq_true rfl) hRm.1, Nat.le_trans (Nat.le_of_ble_eq_true rfl) hRm.2⟩) (es_RS hK (hP.sub (ws' := []) [] rfl)) rfl rfl hl.1 rfl (lv_room (Nat.le_of_ble_eq_true rfl)) dX1_setKind_1 ⟨(Nat.zero_le _), (Nat.zero_le _)⟩)) (fun r_1 er_1 => ?_)
  obtain rfl : r_1 = if 0 ≤ x ∧ x < nI 20 then (1 : Int32) else 0 := er_1
  refine lv_if_eq (tgt := 18) hx hb dX1_setKind_4 (by decide) (fun c_4 => ?_) (fun c_4 => ?_)
  ·
    have c_4 := es_if0 c_4
    refine lv_iconst (v := nI 0) hx hb dX1_setKind_18 (by decide) ?_
    exact W.zret (v := nI 0) hx hb hr rfl (fun zt ht hW => ⟨⟨_, ki, rfl, Or.inr ⟨rfl, (fun h => by first | exact absurd h.1 c_4 | exact absurd c_9 (Int32.not_lt.mpr h.2.1) | exact absurd h.2.2 c_15), rfl⟩, ⟨by rw [ht]; exact hP.sub [0, 1, 2] rfl, hD.sub [0, 1, 2] (by decide) rfl⟩⟩, hS.F ht⟩) hS.2.2 dX1_setKind_19
  ·
    have c_4 := es_if1 c_4
    refine lv_iload_n hx hb dX1_setKind_7 rfl (lv_at hl 2 rfl) ?_
    refine lv_iconst (v := (-1)) hx hb dX1_setKind_8 (by decide) ?_
    refine lv_icmp_lt (tgt := 18) hx hb dX1_setKind_9 (by decide) (fun c_9 => ?_) (fun c_9 => ?_)
    ·
      refine lv_iconst (v := nI 0) hx hb dX1_setKind_18 (by decide) ?_
      exact W.zret (v := nI 0) hx hb hr rfl (fun zt ht hW => ⟨⟨_, ki, rfl, Or.inr ⟨rfl, (fun h => by first | exact absurd h.1 c_4 | exact absurd c_9 (Int32.not_lt.mpr h.2.1) | exact absurd h.2.2 c_15), rfl⟩, ⟨by rw [ht]; exact hP.sub [0, 1, 2] rfl, hD.sub [0, 1, 2] (by decide) rfl⟩⟩, hS.F ht⟩) hS.2.2 dX1_setKind_19
    ·
      refine lv_iload_n hx hb dX1_setKind_12 rfl (lv_at hl 2 rfl) ?_
      refine lv_bipush (v := nI 100) hx hb dX1_setKind_13 (by decide) ?_
      refine lv_icmp_lt (tgt := 20) hx hb dX1_setKind_15 (by decide) (fun c_15 => ?_) (fun c_15 => ?_)
      ·
        obtain ⟨x0, hx0, rfl⟩ := es_nat c_4.1 c_4.2 (by decide)
        refine lv_aload_n hx hb dX1_setKind_20 rfl (lv_at hl 0 rfl) ?_
        refine va_get (D := D) (ci := 1) (v := .ref k) (C := RX1) (T := TX1) (N := 2) hx hb hw iwX1 hown hK.1 hP 0 rfl rfl 1 (by decide) (hw _ xw_108) (fun _ h9 => h9) rfl dX1_setKind_21 ?_
        refine lv_iload_n hx hb dX1_setKind_24 rfl (lv_at hl 1 rfl) ?_
        refine lv_iload_n hx hb dX1_setKind_25 rfl (lv_at hl 2 rfl) ?_
        refine es_iast hx hb hK.1 hP hD hS 2 0 rfl rfl (by omega) (Nat.le_of_ble_eq_true rfl) dX1_setKind_26 (fun H locs hP hD hS => ?_)
        have hP : va_P D vwCl [(tb, .inr (1, [.ref a, .ref k])), (a, .inl (cI, 200, .inl ar)), (k, .inl (cI, 20, .inl (upd ki x0 y)))] H := hP
        have hD : va_D A [(tb, .inr (1, [.ref a, .ref k])), (a, .inl (cI, 200, .inl ar)), (k, .inl (cI, 20, .inl (upd ki x0 y)))] := hD
        refine lv_iconst (v := nI 1) hx hb dX1_setKind_27 (by decide) ?_
        exact W.zret (v := nI 1) hx hb hr rfl (fun zt ht hW => ⟨⟨_, (upd ki x0 y), rfl, Or.inl ⟨rfl, ⟨c_4, Int32.not_lt.mp c_9, c_15⟩, (by rw [nI_clamp (by omega)])⟩, ⟨by rw [ht]; exact hP.sub [0, 1, 2] rfl, hD.sub [0, 1, 2] (by decide) rfl⟩⟩, hS.F ht⟩) hS.2.2 dX1_setKind_28
      ·
        refine lv_iconst (v := nI 0) hx hb dX1_setKind_18 (by decide) ?_
        exact W.zret (v := nI 0) hx hb hr rfl (fun zt ht hW => ⟨⟨_, ki, rfl, Or.inr ⟨rfl, (fun h => by first | exact absurd h.1 c_4 | exact absurd c_9 (Int32.not_lt.mpr h.2.1) | exact absurd h.2.2 c_15), rfl⟩, ⟨by rw [ht]; exact hP.sub [0, 1, 2] rfl, hD.sub [0, 1, 2] (by decide) rfl⟩⟩, hS.F ht⟩) hS.2.2 dX1_setKind_19
set_option maxHeartbeats 1000000 in
set_option maxRecDepth 100000 in
/-- X1.forget  -/
theorem c_X1_forget (l : Launch) (D : va_G) (cI : ClassId) (sz : Nat) (tb : Nat) (a : Nat) (k : Nat) (ar : Nat → Int32) (ki : Nat → Int32)  : Met l yX1_forget (Cond.code yX1_forget cX1_forget 1 none :: es_T) { frames := 1, cells := 0, slots := 0, locals := 23 } (va_Pc [.ref tb] (es_W D cI sz [(tb, .inr (1, [.ref a, .ref k])), (a, .inl (cI, 200, .inl ar)), (k, .inl (cI, 20, .inl ki))])) (va_Qv (fun _ => True) (fun (u : Unit) zt => va_P D vwCl [(tb, .inr (1, [.ref a, .ref k])), (a, .inl (cI, 200, .inl (fun _ => -1))), (k, .inl (cI, 20, .inl (fun _ => -1)))] zt.heap ∧ va_D (va_A [(tb, .inr (1, [.ref a, .ref k])), (a, .inl (cI, 200, .inl ar)), (k, .inl (cI, 20, .inl ki))] sz) [(tb, .inr (1, [.ref a, .ref k])), (a, .inl (cI, 200, .inl (fun _ => -1))), (k, .inl (cI, 20, .inl (fun _ => -1)))]) (va_A [(tb, .inr (1, [.ref a, .ref k])), (a, .inl (cI, 200, .inl ar)), (k, .inl (cI, 20, .inl ki))] sz)) 0 0 (va_A [(tb, .inr (1, [.ref a, .ref k])), (a, .inl (cI, 200, .inl ar)), (k, .inl (cI, 20, .inl ki))] sz) := by
  refine Met.ofW (cc := cX1_forget) (maxL := 1) (ret := none) (by decide) rfl ?_
  intro p e s m args below meth c s₁ B hml hv
  obtain ⟨rfl, hsz, hP, hK, hD0⟩ := hv
  have hx := B.exec
  have hb := B.bytes
  have hr := B.returns
  have hts := atoms_spec (ws := (Cond.code yX1_forget cX1_forget 1 none :: es_T)) B.pre
  have hw : ∀ w ∈ es_T, w.before _ s = true := fun w h => hts w (List.mem_cons_of_mem _ h)
  have hown : s.vm.findClass RX1 = some m.cls := findClass_of_methodNamed B.named
  have hlocks := B.notSynchronized
  have hRm : 1 ≤ (headSpec (Cond.code yX1_forget cX1_forget 1 none :: es_T) { frames := 1, cells := 0, slots := 0, locals := 23 }).room.frames ∧ 23 ≤ (headSpec (Cond.code yX1_forget cX1_forget 1 none :: es_T) { frames := 1, cells := 0, slots := 0, locals := 23 }).room.locals := ⟨Nat.le_refl _, Nat.le_refl _⟩
  have hRc : 0 ≤ (headSpec (Cond.code yX1_forget cX1_forget 1 none :: es_T) { frames := 1, cells := 0, slots := 0, locals := 23 }).room.cells ∧ 0 ≤ (headSpec (Cond.code yX1_forget cX1_forget 1 none :: es_T) { frames := 1, cells := 0, slots := 0, locals := 23 }).room.slots := ⟨Nat.le_refl _, Nat.le_refl _⟩
  subst hsz
  have hD := hD0.self (sz := s.heap.size)
  generalize hAe : va_A [(tb, .inr (1, [.ref a, .ref k])), (a, .inl (cI, 200, .inl ar)), (k, .inl (cI, 20, .inl ki))] s.heap.size = A at hD ⊢
  have hA : ∀ q : Nat, s.heap.size ≤ q → A q := fun q h => by rw [← hAe]; exact Or.inr h
  have hS : va_S A s.heap s.heap [] := va_S.rf
  have hl := lv_entry ([.ref tb]) (n := 1) (Nat.le_of_ble_eq_true rfl)
  rw [lg_entry_eq]
  generalize (lg_sl ([.ref tb]) ++ List.replicate (1 - (lg_sl ([.ref tb])).length) Slot.unset).toArray = ls at hl ⊢
  have hl : lv_has ls 1 [(0, .ref tb)] := hl
  refine lv_aload_n hx hb dX1_forget_0 rfl (lv_at hl 0 rfl) ?_
  refine va_get (D := D) (ci := 1) (v := .ref a) (C := RX1) (T := TX1) (N := 2) hx hb hw iwX1 hown hK.1 hP 0 rfl rfl 0 (by decide) (hw _ xw_103) (fun _ h9 => h9) rfl dX1_forget_1 ?_
  refine lv_iconst (v := (-1)) hx hb dX1_forget_4 (by decide) ?_
  refine es_cv (wr := [(tb, .inr (1, [.ref a, .ref k])), (k, .inl (cI, 20, .inl ki))]) (va_runS (As := [.ref a, .int (-1)]) (rest := []) ⟨hx, hb, hml, hown, hw⟩ (c_J7_fill_53178 l D cI s.heap.size a 200 ar (-1) (by first | assumption | omega)) (va_cwS 2 hw (es_so xw_104 xw_106 xw_107 xw_105) rfl rfl rfl k0_J7_fill_53178 ⟨Nat.le_trans (Nat.le_of_ble_eq_true rfl) hRm.1, Nat.le_trans (Nat.le_of_ble_eq_true rfl) hRm.2⟩) (es_WS hK (hP.sub (ws' := [(a, .inl (cI, 200, .inl ar))]) [1] rfl) (hD.sub (ws' := [(a, .inl (cI, 200, .inl ar))]) [1] (by decide) rfl)) rfl rfl hl.1 rfl (lv_room (Nat.le_of_ble_eq_true rfl)) dX1_forget_5 ⟨(Nat.zero_le _), (Nat.zero_le _)⟩) hP hD hS hA [1] [0, 2] rfl rfl (by decide) (by decide) (fun u_1 H locs hu_1 hP hD hS => ?_)
  have hP : va_P D vwCl [(tb, .inr (1, [.ref a, .ref k])), (k, .inl (cI, 20, .inl ki)), (a, .inl (cI, 200, .inl (fun _ => (-1))))] H := hP
  have hD : va_D A [(tb, .inr (1, [.ref a, .ref k])), (k, .inl (cI, 20, .inl ki)), (a, .inl (cI, 200, .inl (fun _ => (-1))))] := hD
  refine lv_aload_n hx hb dX1_forget_8 rfl (lv_at hl 0 rfl) ?_
  refine va_get (D := D) (ci := 1) (v := .ref k) (C := RX1) (T := TX1) (N := 2) hx hb hw iwX1 hown hK.1 hP 0 rfl rfl 1 (by decide) (hw _ xw_108) (fun _ h9 => h9) rfl dX1_forget_9 ?_
  refine lv_iconst (v := (-1)) hx hb dX1_forget_12 (by decide) ?_
  refine es_cv (wr := [(tb, .inr (1, [.ref a, .ref k])), (a, .inl (cI, 200, .inl (fun _ => (-1))))]) (va_runS (As := [.ref k, .int (-1)]) (rest := []) ⟨hx, hb, hml, hown, hw⟩ (c_J7_fill_53178 l D cI H.size k 20 ki (-1) (by first | assumption | omega)) (va_cwS 2 hw (es_so xw_104 xw_106 xw_107 xw_105) rfl rfl rfl k0_J7_fill_53178 ⟨Nat.le_trans (Nat.le_of_ble_eq_true rfl) hRm.1, Nat.le_trans (Nat.le_of_ble_eq_true rfl) hRm.2⟩) (es_WS hK (hP.sub (ws' := [(k, .inl (cI, 20, .inl ki))]) [1] rfl) (hD.sub (ws' := [(k, .inl (cI, 20, .inl ki))]) [1] (by decide) rfl)) rfl rfl hl.1 rfl (lv_room (Nat.le_of_ble_eq_true rfl)) dX1_forget_13 ⟨(Nat.zero_le _), (Nat.zero_le _)⟩) hP hD hS hA [1] [0, 2] rfl rfl (by decide) (by decide) (fun u_3 H locs hu_3 hP hD hS => ?_)
  have hP : va_P D vwCl [(tb, .inr (1, [.ref a, .ref k])), (a, .inl (cI, 200, .inl (fun _ => (-1)))), (k, .inl (cI, 20, .inl (fun _ => (-1))))] H := hP
  have hD : va_D A [(tb, .inr (1, [.ref a, .ref k])), (a, .inl (cI, 200, .inl (fun _ => (-1)))), (k, .inl (cI, 20, .inl (fun _ => (-1))))] := hD
  exact W.vret hx hb hr (fun zt ht hW => ⟨⟨(), rfl, trivial, ⟨by rw [ht]; exact hP.sub [0, 1, 2] rfl, hD.sub [0, 1, 2] (by decide) rfl⟩⟩, hS.F ht⟩) hS.2.2 dX1_forget_16
set_option maxHeartbeats 1000000 in
set_option maxRecDepth 100000 in
/-- X1.init  -/
theorem c_X1_init (l : Launch) (D : va_G) (cI : ClassId) (sz : Nat) (tb : Nat)  : Met l yX1_init (Cond.code yX1_init cX1_init 1 none :: es_T) { frames := 2, cells := 2, slots := 220, locals := 43 } (va_Pc [.ref tb] (es_W D cI sz [(tb, .inr (1, [.null, .null]))])) (va_Qv (fun _ => True) (fun (u : Nat × Nat) zt => va_P D vwCl [(tb, .inr (1, [.ref u.1, .ref u.2])), (u.1, .inl (cI, 200, .inl (fun _ => -1))), (u.2, .inl (cI, 20, .inl (fun _ => -1)))] zt.heap ∧ va_D (va_A [(tb, .inr (1, [.null, .null]))] sz) [(tb, .inr (1, [.ref u.1, .ref u.2])), (u.1, .inl (cI, 200, .inl (fun _ => -1))), (u.2, .inl (cI, 20, .inl (fun _ => -1)))]) (va_A [(tb, .inr (1, [.null, .null]))] sz)) 2 220 (va_A [(tb, .inr (1, [.null, .null]))] sz) := by
  refine Met.ofW (cc := cX1_init) (maxL := 1) (ret := none) (by decide) rfl ?_
  intro p e s m args below meth c s₁ B hml hv
  obtain ⟨rfl, hsz, hP, hK, hD0⟩ := hv
  have hx := B.exec
  have hb := B.bytes
  have hr := B.returns
  have hts := atoms_spec (ws := (Cond.code yX1_init cX1_init 1 none :: es_T)) B.pre
  have hw : ∀ w ∈ es_T, w.before _ s = true := fun w h => hts w (List.mem_cons_of_mem _ h)
  have hown : s.vm.findClass RX1 = some m.cls := findClass_of_methodNamed B.named
  have hlocks := B.notSynchronized
  have hin : meth.name = "<init>" := (name_of_methodNamed B.named B.method).1
  have hRm : 2 ≤ (headSpec (Cond.code yX1_init cX1_init 1 none :: es_T) { frames := 2, cells := 2, slots := 220, locals := 43 }).room.frames ∧ 43 ≤ (headSpec (Cond.code yX1_init cX1_init 1 none :: es_T) { frames := 2, cells := 2, slots := 220, locals := 43 }).room.locals := ⟨Nat.le_refl _, Nat.le_refl _⟩
  have hRc : 2 ≤ (headSpec (Cond.code yX1_init cX1_init 1 none :: es_T) { frames := 2, cells := 2, slots := 220, locals := 43 }).room.cells ∧ 220 ≤ (headSpec (Cond.code yX1_init cX1_init 1 none :: es_T) { frames := 2, cells := 2, slots := 220, locals := 43 }).room.slots := ⟨Nat.le_refl _, Nat.le_refl _⟩
  subst hsz
  have hD := hD0.self (sz := s.heap.size)
  generalize hAe : va_A [(tb, .inr (1, [.null, .null]))] s.heap.size = A at hD ⊢
  have hA : ∀ q : Nat, s.heap.size ≤ q → A q := fun q h => by rw [← hAe]; exact Or.inr h
  have hS : va_S A s.heap s.heap [] := va_S.rf
  have hl := lv_entry ([.ref tb]) (n := 1) (Nat.le_of_ble_eq_true rfl)
  rw [lg_entry_eq]
  generalize (lg_sl ([.ref tb]) ++ List.replicate (1 - (lg_sl ([.ref tb])).length) Slot.unset).toArray = ls at hl ⊢
  have hl : lv_has ls 1 [(0, .ref tb)] := hl
  refine lv_aload_n hx hb dX1_init_0 rfl (lv_at hl 0 rfl) ?_
  refine W.objInit hx hb hown (hw _ xw_109) (hw _ xw_92) (hw _ xw_93) rfl (by rw [hml]; exact hl.1) rfl dX1_init_1 (Nat.le_trans (Nat.le_of_ble_eq_true rfl) hRm.1) (Nat.le_trans (Nat.le_of_ble_eq_true rfl) hRm.2) ?_
  refine W.eq (g2 := F0 m 4 ls []) rfl ?_
  refine lv_aload_n hx hb dX1_init_4 rfl (lv_at hl 0 rfl) ?_
  refine lv_sipush (v := nI 200) hx hb dX1_init_5 (by decide) ?_
  refine es_newa hx hb (hw _ xw_94) hK.1 hP hD hS hA (N' := 200) (by decide) (by decide) (Nat.le_trans (Nat.le_of_ble_eq_true rfl) hRc.1) (Nat.le_trans (Nat.le_of_ble_eq_true rfl) hRc.2) (by decide) dX1_init_8 (fun q_1 H hP hD hS => ?_)
  have hP : va_P D vwCl [(tb, .inr (1, [.null, .null])), (q_1, .inl (cI, 200, .inl (fun _ => 0)))] H := hP
  have hD : va_D A [(tb, .inr (1, [.null, .null])), (q_1, .inl (cI, 200, .inl (fun _ => 0)))] := hD
  refine W.widen (k := 1) (n := 200) (Nat.le_of_ble_eq_true rfl) (Nat.le_of_ble_eq_true rfl) ?_
  refine va_putF (D := D) (ci := 1) (v := .ref q_1) (ty := (.array .int)) (C := RX1) (T := TX1) (N := 2) hx hb hw iwX1 tyX1 tyX1_ok nmX1 hown hK.1 hP hD hS 0 rfl rfl 0 (by decide) (hw _ xw_103) (fun _ h9 => h9) rfl hin rfl (by decide +kernel) rfl rfl (Nat.le_of_ble_eq_true rfl) dX1_init_10 (fun H locs hP hD hS => ?_)
  have hP : va_P D vwCl [(tb, .inr (1, [.ref q_1, .null])), (q_1, .inl (cI, 200, .inl (fun _ => 0)))] H := hP
  have hD : va_D A [(tb, .inr (1, [.ref q_1, .null])), (q_1, .inl (cI, 200, .inl (fun _ => 0)))] := hD
  refine lv_aload_n hx hb dX1_init_13 rfl (lv_at hl 0 rfl) ?_
  refine lv_bipush (v := nI 20) hx hb dX1_init_14 (by decide) ?_
  refine es_newa hx hb (hw _ xw_94) hK.1 hP hD hS hA (N' := 20) (by decide) (by decide) (Nat.le_trans (Nat.le_of_ble_eq_true rfl) hRc.1) (Nat.le_trans (Nat.le_of_ble_eq_true rfl) hRc.2) (by decide) dX1_init_16 (fun q_2 H hP hD hS => ?_)
  have hP : va_P D vwCl [(tb, .inr (1, [.ref q_1, .null])), (q_1, .inl (cI, 200, .inl (fun _ => 0))), (q_2, .inl (cI, 20, .inl (fun _ => 0)))] H := hP
  have hD : va_D A [(tb, .inr (1, [.ref q_1, .null])), (q_1, .inl (cI, 200, .inl (fun _ => 0))), (q_2, .inl (cI, 20, .inl (fun _ => 0)))] := hD
  refine W.widen (k := 2) (n := 220) (Nat.le_of_ble_eq_true rfl) (Nat.le_of_ble_eq_true rfl) ?_
  refine va_putF (D := D) (ci := 1) (v := .ref q_2) (ty := (.array .int)) (C := RX1) (T := TX1) (N := 2) hx hb hw iwX1 tyX1 tyX1_ok nmX1 hown hK.1 hP hD hS 0 rfl rfl 1 (by decide) (hw _ xw_108) (fun _ h9 => h9) rfl hin rfl (by decide +kernel) rfl rfl (Nat.le_of_ble_eq_true rfl) dX1_init_18 (fun H locs hP hD hS => ?_)
  have hP : va_P D vwCl [(tb, .inr (1, [.ref q_1, .ref q_2])), (q_1, .inl (cI, 200, .inl (fun _ => 0))), (q_2, .inl (cI, 20, .inl (fun _ => 0)))] H := hP
  have hD : va_D A [(tb, .inr (1, [.ref q_1, .ref q_2])), (q_1, .inl (cI, 200, .inl (fun _ => 0))), (q_2, .inl (cI, 20, .inl (fun _ => 0)))] := hD
  refine lv_aload_n hx hb dX1_init_21 rfl (lv_at hl 0 rfl) ?_
  refine es_cv (wr := []) (va_runV (As := []) (rest := []) ⟨hx, hb, hml, hown, hw⟩ (c_X1_forget l D cI H.size tb q_1 q_2 (fun _ => 0) (fun _ => 0) ) (cwV 0 hw (es_v xw_110 xw_112 xw_113 xw_114 xw_111) rfl rfl rfl kv_X1_forget ⟨Nat.le_trans (Nat.le_of_ble_eq_true rfl) hRm.1, Nat.le_trans (Nat.le_of_ble_eq_true rfl) hRm.2⟩) (es_WV hK (hP.sub (ws' := [(tb, .inr (1, [.ref q_1, .ref q_2])), (q_1, .inl (cI, 200, .inl (fun _ => 0))), (q_2, .inl (cI, 20, .inl (fun _ => 0)))]) [0, 1, 2] rfl) (hD.sub (ws' := [(tb, .inr (1, [.ref q_1, .ref q_2])), (q_1, .inl (cI, 200, .inl (fun _ => 0))), (q_2, .inl (cI, 20, .inl (fun _ => 0)))]) [0, 1, 2] (by decide) rfl) rfl rfl) rfl rfl hl.1 rfl (lv_room (Nat.le_of_ble_eq_true rfl)) dX1_init_22 ⟨(Nat.le_trans (Nat.le_of_ble_eq_true rfl) hRc.1), (Nat.le_trans (Nat.le_of_ble_eq_true rfl) hRc.2)⟩) hP hD hS hA [0, 1, 2] [] rfl rfl (by decide) (by decide) (fun u_3 H locs hu_3 hP hD hS => ?_)
  have hP : va_P D vwCl [(tb, .inr (1, [.ref q_1, .ref q_2])), (q_1, .inl (cI, 200, .inl (fun _ => -1))), (q_2, .inl (cI, 20, .inl (fun _ => -1)))] H := hP
  have hD : va_D A [(tb, .inr (1, [.ref q_1, .ref q_2])), (q_1, .inl (cI, 200, .inl (fun _ => -1))), (q_2, .inl (cI, 20, .inl (fun _ => -1)))] := hD
  refine W.widen (k := 2) (n := 220) (Nat.le_of_ble_eq_true rfl) (Nat.le_of_ble_eq_true rfl) ?_
  exact W.vret hx hb hr (fun zt ht hW => ⟨⟨(q_1, q_2), rfl, trivial, ⟨by rw [ht]; exact hP.sub [0, 1, 2] rfl, hD.sub [0, 1, 2] (by decide) rfl⟩⟩, hS.F ht⟩) hS.2.2 dX1_init_25
set_option maxHeartbeats 1000000 in
set_option maxRecDepth 100000 in
/-- X2.init  -/
theorem c_X2_init (l : Launch) (D : va_G) (cI : ClassId) (sz : Nat) (t : Nat)  : Met l yX2_init (Cond.code yX2_init cX2_init 1 none :: es_T) { frames := 1, cells := 1, slots := 400, locals := 20 } (va_Pc [.ref t] (es_W D cI sz [(t, .inr (2, [.null, .int 0]))])) (va_Qv (fun _ => True) (fun (u : Nat) zt => va_P D vwCl [(t, .inr (2, [.ref u, .int (nI 0)])), (u, .inl (cI, 400, .inl (fun _ => 0)))] zt.heap ∧ va_D (va_A [(t, .inr (2, [.null, .int 0]))] sz) [(t, .inr (2, [.ref u, .int (nI 0)])), (u, .inl (cI, 400, .inl (fun _ => 0)))]) (va_A [(t, .inr (2, [.null, .int 0]))] sz)) 1 400 (va_A [(t, .inr (2, [.null, .int 0]))] sz) := by
  refine Met.ofW (cc := cX2_init) (maxL := 1) (ret := none) (by decide) rfl ?_
  intro p e s m args below meth c s₁ B hml hv
  obtain ⟨rfl, hsz, hP, hK, hD0⟩ := hv
  have hx := B.exec
  have hb := B.bytes
  have hr := B.returns
  have hts := atoms_spec (ws := (Cond.code yX2_init cX2_init 1 none :: es_T)) B.pre
  have hw : ∀ w ∈ es_T, w.before _ s = true := fun w h => hts w (List.mem_cons_of_mem _ h)
  have hown : s.vm.findClass RX2 = some m.cls := findClass_of_methodNamed B.named
  have hlocks := B.notSynchronized
  have hin : meth.name = "<init>" := (name_of_methodNamed B.named B.method).1
  have hRm : 1 ≤ (headSpec (Cond.code yX2_init cX2_init 1 none :: es_T) { frames := 1, cells := 1, slots := 400, locals := 20 }).room.frames ∧ 20 ≤ (headSpec (Cond.code yX2_init cX2_init 1 none :: es_T) { frames := 1, cells := 1, slots := 400, locals := 20 }).room.locals := ⟨Nat.le_refl _, Nat.le_refl _⟩
  have hRc : 1 ≤ (headSpec (Cond.code yX2_init cX2_init 1 none :: es_T) { frames := 1, cells := 1, slots := 400, locals := 20 }).room.cells ∧ 400 ≤ (headSpec (Cond.code yX2_init cX2_init 1 none :: es_T) { frames := 1, cells := 1, slots := 400, locals := 20 }).room.slots := ⟨Nat.le_refl _, Nat.le_refl _⟩
  subst hsz
  have hD := hD0.self (sz := s.heap.size)
  generalize hAe : va_A [(t, .inr (2, [.null, .int 0]))] s.heap.size = A at hD ⊢
  have hA : ∀ q : Nat, s.heap.size ≤ q → A q := fun q h => by rw [← hAe]; exact Or.inr h
  have hS : va_S A s.heap s.heap [] := va_S.rf
  have hl := lv_entry ([.ref t]) (n := 1) (Nat.le_of_ble_eq_true rfl)
  rw [lg_entry_eq]
  generalize (lg_sl ([.ref t]) ++ List.replicate (1 - (lg_sl ([.ref t])).length) Slot.unset).toArray = ls at hl ⊢
  have hl : lv_has ls 1 [(0, .ref t)] := hl
  refine lv_aload_n hx hb dX2_init_0 rfl (lv_at hl 0 rfl) ?_
  refine W.objInit hx hb hown (hw _ xw_123) (hw _ xw_92) (hw _ xw_93) rfl (by rw [hml]; exact hl.1) rfl dX2_init_1 (Nat.le_trans (Nat.le_of_ble_eq_true rfl) hRm.1) (Nat.le_trans (Nat.le_of_ble_eq_true rfl) hRm.2) ?_
  refine W.eq (g2 := F0 m 4 ls []) rfl ?_
  refine lv_aload_n hx hb dX2_init_4 rfl (lv_at hl 0 rfl) ?_
  refine lv_sipush (v := nI 400) hx hb dX2_init_5 (by decide) ?_
  refine es_newa hx hb (hw _ xw_94) hK.1 hP hD hS hA (N' := 400) (by decide) (by decide) (Nat.le_trans (Nat.le_of_ble_eq_true rfl) hRc.1) (Nat.le_trans (Nat.le_of_ble_eq_true rfl) hRc.2) (by decide) dX2_init_8 (fun q_1 H hP hD hS => ?_)
  have hP : va_P D vwCl [(t, .inr (2, [.null, .int 0])), (q_1, .inl (cI, 400, .inl (fun _ => 0)))] H := hP
  have hD : va_D A [(t, .inr (2, [.null, .int 0])), (q_1, .inl (cI, 400, .inl (fun _ => 0)))] := hD
  refine W.widen (k := 1) (n := 400) (Nat.le_of_ble_eq_true rfl) (Nat.le_of_ble_eq_true rfl) ?_
  refine va_putF (D := D) (ci := 2) (v := .ref q_1) (ty := (.array .int)) (C := RX2) (T := TX2) (N := 2) hx hb hw iwX2 tyX2 tyX2_ok nmX2 hown hK.1 hP hD hS 0 rfl rfl 0 (by decide) (hw _ xw_122) (fun _ h9 => h9) rfl hin rfl (by decide +kernel) rfl rfl (Nat.le_of_ble_eq_true rfl) dX2_init_10 (fun H locs hP hD hS => ?_)
  have hP : va_P D vwCl [(t, .inr (2, [.ref q_1, .int 0])), (q_1, .inl (cI, 400, .inl (fun _ => 0)))] H := hP
  have hD : va_D A [(t, .inr (2, [.ref q_1, .int 0])), (q_1, .inl (cI, 400, .inl (fun _ => 0)))] := hD
  refine W.widen (k := 1) (n := 400) (Nat.le_of_ble_eq_true rfl) (Nat.le_of_ble_eq_true rfl) ?_
  exact W.vret hx hb hr (fun zt ht hW => ⟨⟨q_1, rfl, trivial, ⟨by rw [ht]; exact hP.sub [0, 1] rfl, hD.sub [0, 1] (by decide) rfl⟩⟩, hS.F ht⟩) hS.2.2 dX2_init_13
set_option maxHeartbeats 1000000 in
set_option maxRecDepth 100000 in
/-- X2.forget  -/
theorem c_X2_forget (l : Launch) (D : va_G) (cI : ClassId) (sz : Nat) (t : Nat) (r : Nat) (tx : Nat → Int32) (n : Nat)  : Met l yX2_forget (Cond.code yX2_forget cX2_forget 1 none :: es_T) { frames := 0, cells := 0, slots := 0, locals := 0 } (va_Pc [.ref t] (es_W D cI sz [(t, .inr (2, [.ref r, .int (nI n)])), (r, .inl (cI, 400, .inl tx))])) (va_Qv (fun _ => True) (fun (u : Unit) zt => va_P D vwCl [(t, .inr (2, [.ref r, .int (nI 0)])), (r, .inl (cI, 400, .inl tx))] zt.heap ∧ va_D (va_A [(t, .inr (2, [.ref r, .int (nI n)])), (r, .inl (cI, 400, .inl tx))] sz) [(t, .inr (2, [.ref r, .int (nI 0)])), (r, .inl (cI, 400, .inl tx))]) (va_A [(t, .inr (2, [.ref r, .int (nI n)])), (r, .inl (cI, 400, .inl tx))] sz)) 0 0 (va_A [(t, .inr (2, [.ref r, .int (nI n)])), (r, .inl (cI, 400, .inl tx))] sz) := by
  refine Met.ofW (cc := cX2_forget) (maxL := 1) (ret := none) (by decide) rfl ?_
  intro p e s m args below meth c s₁ B hml hv
  obtain ⟨rfl, hsz, hP, hK, hD0⟩ := hv
  have hx := B.exec
  have hb := B.bytes
  have hr := B.returns
  have hts := atoms_spec (ws := (Cond.code yX2_forget cX2_forget 1 none :: es_T)) B.pre
  have hw : ∀ w ∈ es_T, w.before _ s = true := fun w h => hts w (List.mem_cons_of_mem _ h)
  have hown : s.vm.findClass RX2 = some m.cls := findClass_of_methodNamed B.named
  have hlocks := B.notSynchronized
  have hRm : 0 ≤ (headSpec (Cond.code yX2_forget cX2_forget 1 none :: es_T) { frames := 0, cells := 0, slots := 0, locals := 0 }).room.frames ∧ 0 ≤ (headSpec (Cond.code yX2_forget cX2_forget 1 none :: es_T) { frames := 0, cells := 0, slots := 0, locals := 0 }).room.locals := ⟨Nat.le_refl _, Nat.le_refl _⟩
  have hRc : 0 ≤ (headSpec (Cond.code yX2_forget cX2_forget 1 none :: es_T) { frames := 0, cells := 0, slots := 0, locals := 0 }).room.cells ∧ 0 ≤ (headSpec (Cond.code yX2_forget cX2_forget 1 none :: es_T) { frames := 0, cells := 0, slots := 0, locals := 0 }).room.slots := ⟨Nat.le_refl _, Nat.le_refl _⟩
  subst hsz
  have hD := hD0.self (sz := s.heap.size)
  generalize hAe : va_A [(t, .inr (2, [.ref r, .int (nI n)])), (r, .inl (cI, 400, .inl tx))] s.heap.size = A at hD ⊢
  have hA : ∀ q : Nat, s.heap.size ≤ q → A q := fun q h => by rw [← hAe]; exact Or.inr h
  have hS : va_S A s.heap s.heap [] := va_S.rf
  have hl := lv_entry ([.ref t]) (n := 1) (Nat.le_of_ble_eq_true rfl)
  rw [lg_entry_eq]
  generalize (lg_sl ([.ref t]) ++ List.replicate (1 - (lg_sl ([.ref t])).length) Slot.unset).toArray = ls at hl ⊢
  have hl : lv_has ls 1 [(0, .ref t)] := hl
  refine lv_aload_n hx hb dX2_forget_0 rfl (lv_at hl 0 rfl) ?_
  refine lv_iconst (v := nI 0) hx hb dX2_forget_1 (by decide) ?_
  refine va_put (D := D) (ci := 2) (v := .int (nI 0)) (ty := .int) (C := RX2) (T := TX2) (N := 2) hx hb hw iwX2 tyX2 tyX2_ok nmX2 hown hK.1 hP hD hS 0 rfl rfl 1 (by decide) (hw _ xw_121) (fun _ h9 => h9) rfl (by decide +kernel) rfl rfl (Nat.le_of_ble_eq_true rfl) dX2_forget_2 (fun H locs hP hD hS => ?_)
  have hP : va_P D vwCl [(t, .inr (2, [.ref r, .int (nI 0)])), (r, .inl (cI, 400, .inl tx))] H := hP
  have hD : va_D A [(t, .inr (2, [.ref r, .int (nI 0)])), (r, .inl (cI, 400, .inl tx))] := hD
  exact W.vret hx hb hr (fun zt ht hW => ⟨⟨(), rfl, trivial, ⟨by rw [ht]; exact hP.sub [0, 1] rfl, hD.sub [0, 1] (by decide) rfl⟩⟩, hS.F ht⟩) hS.2.2 dX2_forget_5
set_option maxHeartbeats 1000000 in
set_option maxRecDepth 100000 in
/-- X2.size  -/
theorem c_X2_size (l : Launch) (D : va_G) (cI : ClassId) (t : Nat) (r : Nat) (tx : Nat → Int32) (n : Nat)  : Met l yX2_size (Cond.code yX2_size cX2_size 1 (some .int) :: es_T) { frames := 0, cells := 0, slots := 0, locals := 0 } (va_Pc [.ref t] (es_R D cI [(t, .inr (2, [.ref r, .int (nI n)])), (r, .inl (cI, 400, .inl tx))])) (vp_Si (fun r => r = nI n)) 0 0 (fun _ => False) := by
  refine Met.ofW (cc := cX2_size) (maxL := 1) (ret := (some .int)) (by decide) rfl ?_
  intro p e s m args below meth c s₁ B hml hv
  obtain ⟨rfl, hP, hK⟩ := hv
  have hx := B.exec
  have hb := B.bytes
  have hr := B.returns
  have hts := atoms_spec (ws := (Cond.code yX2_size cX2_size 1 (some .int) :: es_T)) B.pre
  have hw : ∀ w ∈ es_T, w.before _ s = true := fun w h => hts w (List.mem_cons_of_mem _ h)
  have hown : s.vm.findClass RX2 = some m.cls := findClass_of_methodNamed B.named
  have hlocks := B.notSynchronized
  have hRm : 0 ≤ (headSpec (Cond.code yX2_size cX2_size 1 (some .int) :: es_T) { frames := 0, cells := 0, slots := 0, locals := 0 }).room.frames ∧ 0 ≤ (headSpec (Cond.code yX2_size cX2_size 1 (some .int) :: es_T) { frames := 0, cells := 0, slots := 0, locals := 0 }).room.locals := ⟨Nat.le_refl _, Nat.le_refl _⟩
  have hRc : 0 ≤ (headSpec (Cond.code yX2_size cX2_size 1 (some .int) :: es_T) { frames := 0, cells := 0, slots := 0, locals := 0 }).room.cells ∧ 0 ≤ (headSpec (Cond.code yX2_size cX2_size 1 (some .int) :: es_T) { frames := 0, cells := 0, slots := 0, locals := 0 }).room.slots := ⟨Nat.le_refl _, Nat.le_refl _⟩
  have hl := lv_entry ([.ref t]) (n := 1) (Nat.le_of_ble_eq_true rfl)
  rw [lg_entry_eq]
  generalize (lg_sl ([.ref t]) ++ List.replicate (1 - (lg_sl ([.ref t])).length) Slot.unset).toArray = ls at hl ⊢
  have hl : lv_has ls 1 [(0, .ref t)] := hl
  refine lv_aload_n hx hb dX2_size_0 rfl (lv_at hl 0 rfl) ?_
  refine va_get (D := D) (ci := 2) (v := .int (nI n)) (C := RX2) (T := TX2) (N := 2) hx hb hw iwX2 hown hK.1 hP 0 rfl rfl 1 (by decide) (hw _ xw_121) (fun _ h9 => h9) rfl dX2_size_1 ?_
  exact W.iret (v := nI n) hx hb hr (fun zt ht hW => ⟨_, rfl, rfl, ht⟩) (fun _ h => by cases h) dX2_size_4
set_option maxHeartbeats 1000000 in
set_option maxRecDepth 100000 in
/-- X2.isEmpty  -/
theorem c_X2_isEmpty (l : Launch) (D : va_G) (cI : ClassId) (t : Nat) (r : Nat) (tx : Nat → Int32) (n : Nat) (hn : n ≤ 400) : Met l yX2_isEmpty (Cond.code yX2_isEmpty cX2_isEmpty 1 (some .boolean) :: es_T) { frames := 0, cells := 0, slots := 0, locals := 0 } (va_Pc [.ref t] (es_R D cI [(t, .inr (2, [.ref r, .int (nI n)])), (r, .inl (cI, 400, .inl tx))])) (vp_Si (fun r => r = if n = 0 then (1 : Int32) else 0)) 0 0 (fun _ => False) := by
  refine Met.ofW (cc := cX2_isEmpty) (maxL := 1) (ret := (some .boolean)) (by decide) rfl ?_
  intro p e s m args below meth c s₁ B hml hv
  obtain ⟨rfl, hP, hK⟩ := hv
  have hx := B.exec
  have hb := B.bytes
  have hr := B.returns
  have hts := atoms_spec (ws := (Cond.code yX2_isEmpty cX2_isEmpty 1 (some .boolean) :: es_T)) B.pre
  have hw : ∀ w ∈ es_T, w.before _ s = true := fun w h => hts w (List.mem_cons_of_mem _ h)
  have hown : s.vm.findClass RX2 = some m.cls := findClass_of_methodNamed B.named
  have hlocks := B.notSynchronized
  have hRm : 0 ≤ (headSpec (Cond.code yX2_isEmpty cX2_isEmpty 1 (some .boolean) :: es_T) { frames := 0, cells := 0, slots := 0, locals := 0 }).room.frames ∧ 0 ≤ (headSpec (Cond.code yX2_isEmpty cX2_isEmpty 1 (some .boolean) :: es_T) { frames := 0, cells := 0, slots := 0, locals := 0 }).room.locals := ⟨Nat.le_refl _, Nat.le_refl _⟩
  have hRc : 0 ≤ (headSpec (Cond.code yX2_isEmpty cX2_isEmpty 1 (some .boolean) :: es_T) { frames := 0, cells := 0, slots := 0, locals := 0 }).room.cells ∧ 0 ≤ (headSpec (Cond.code yX2_isEmpty cX2_isEmpty 1 (some .boolean) :: es_T) { frames := 0, cells := 0, slots := 0, locals := 0 }).room.slots := ⟨Nat.le_refl _, Nat.le_refl _⟩
  have hl := lv_entry ([.ref t]) (n := 1) (Nat.le_of_ble_eq_true rfl)
  rw [lg_entry_eq]
  generalize (lg_sl ([.ref t]) ++ List.replicate (1 - (lg_sl ([.ref t])).length) Slot.unset).toArray = ls at hl ⊢
  have hl : lv_has ls 1 [(0, .ref t)] := hl
  refine lv_aload_n hx hb dX2_isEmpty_0 rfl (lv_at hl 0 rfl) ?_
  refine va_get (D := D) (ci := 2) (v := .int (nI n)) (C := RX2) (T := TX2) (N := 2) hx hb hw iwX2 hown hK.1 hP 0 rfl rfl 1 (by decide) (hw _ xw_121) (fun _ h9 => h9) rfl dX2_isEmpty_1 ?_
  refine lv_if_ne (tgt := 11) hx hb dX2_isEmpty_4 (by decide) (fun c_4 => ?_) (fun c_4 => ?_)
  ·
    have c_4 := (mt (nI_eq (a := n) (b := 0) (by omega) (by omega)).mpr c_4)
    refine lv_iconst (v := nI 0) hx hb dX2_isEmpty_11 (by decide) ?_
    exact W.zret (v := nI 0) hx hb hr rfl (fun zt ht hW => ⟨_, rfl, (by show _ = _; first | (rw [if_pos c_4]; rfl) | (rw [if_neg c_4]; rfl)), ht⟩) (fun _ h => by cases h) dX2_isEmpty_12
  ·
    have c_4 := (nI_eq (a := n) (b := 0) (by omega) (by omega)).mp c_4
    refine lv_iconst (v := nI 1) hx hb dX2_isEmpty_7 (by decide) ?_
    refine lv_goto (tgt := 12) hx hb dX2_isEmpty_8 (by decide) ?_
    exact W.zret (v := nI 1) hx hb hr rfl (fun zt ht hW => ⟨_, rfl, (by show _ = _; first | (rw [if_pos c_4]; rfl) | (rw [if_neg c_4]; rfl)), ht⟩) (fun _ h => by cases h) dX2_isEmpty_12
set_option maxHeartbeats 1000000 in
set_option maxRecDepth 100000 in
/-- X2.at  -/
theorem c_X2_at (l : Launch) (D : va_G) (cI : ClassId) (t : Nat) (r : Nat) (tx : Nat → Int32) (n : Nat) (x : Int32) (hn : n ≤ 400) : Met l yX2_at (Cond.code yX2_at cX2_at 2 (some .int) :: es_T) { frames := 0, cells := 0, slots := 0, locals := 0 } (va_Pc [.ref t, .int x] (es_R D cI [(t, .inr (2, [.ref r, .int (nI n)])), (r, .inl (cI, 400, .inl tx))])) (vp_Si (fun r => r = if 0 ≤ x ∧ x < nI n then tx x.toNatClampNeg else -1)) 0 0 (fun _ => False) := by
  refine Met.ofW (cc := cX2_at) (maxL := 2) (ret := (some .int)) (by decide) rfl ?_
  intro p e s m args below meth c s₁ B hml hv
  obtain ⟨rfl, hP, hK⟩ := hv
  have hx := B.exec
  have hb := B.bytes
  have hr := B.returns
  have hts := atoms_spec (ws := (Cond.code yX2_at cX2_at 2 (some .int) :: es_T)) B.pre
  have hw : ∀ w ∈ es_T, w.before _ s = true := fun w h => hts w (List.mem_cons_of_mem _ h)
  have hown : s.vm.findClass RX2 = some m.cls := findClass_of_methodNamed B.named
  have hlocks := B.notSynchronized
  have hRm : 0 ≤ (headSpec (Cond.code yX2_at cX2_at 2 (some .int) :: es_T) { frames := 0, cells := 0, slots := 0, locals := 0 }).room.frames ∧ 0 ≤ (headSpec (Cond.code yX2_at cX2_at 2 (some .int) :: es_T) { frames := 0, cells := 0, slots := 0, locals := 0 }).room.locals := ⟨Nat.le_refl _, Nat.le_refl _⟩
  have hRc : 0 ≤ (headSpec (Cond.code yX2_at cX2_at 2 (some .int) :: es_T) { frames := 0, cells := 0, slots := 0, locals := 0 }).room.cells ∧ 0 ≤ (headSpec (Cond.code yX2_at cX2_at 2 (some .int) :: es_T) { frames := 0, cells := 0, slots := 0, locals := 0 }).room.slots := ⟨Nat.le_refl _, Nat.le_refl _⟩
  have hl := lv_entry ([.ref t, .int x]) (n := 2) (Nat.le_of_ble_eq_true rfl)
  rw [lg_entry_eq]
  generalize (lg_sl ([.ref t, .int x]) ++ List.replicate (2 - (lg_sl ([.ref t, .int x])).length) Slot.unset).toArray = ls at hl ⊢
  have hl : lv_has ls 2 [(0, .ref t), (1, .int x)] := hl
  refine lv_iload_n hx hb dX2_at_0 rfl (lv_at hl 1 rfl) ?_
  refine lv_if_lt (tgt := 21) hx hb dX2_at_1 (by decide) (fun c_1 => ?_) (fun c_1 => ?_)
  ·
    refine lv_iconst (v := (-1)) hx hb dX2_at_21 (by decide) ?_
    exact W.iret (v := (-1)) hx hb hr (fun zt ht hW => ⟨_, rfl, (by show _ = _; first | (rw [if_pos ⟨Int32.not_lt.mp c_1, Int32.not_le.mp c_9⟩]; done) | (rw [if_neg (fun h => absurd c_1 (Int32.not_lt.mpr h.1))]; done) | (rw [if_neg (fun h => absurd h.2 (Int32.not_lt.mpr c_9))]; done)), ht⟩) (fun _ h => by cases h) dX2_at_22
  ·
    refine lv_iload_n hx hb dX2_at_4 rfl (lv_at hl 1 rfl) ?_
    refine lv_aload_n hx hb dX2_at_5 rfl (lv_at hl 0 rfl) ?_
    refine va_get (D := D) (ci := 2) (v := .int (nI n)) (C := RX2) (T := TX2) (N := 2) hx hb hw iwX2 hown hK.1 hP 0 rfl rfl 1 (by decide) (hw _ xw_121) (fun _ h9 => h9) rfl dX2_at_6 ?_
    refine lv_icmp_ge (tgt := 21) hx hb dX2_at_9 (by decide) (fun c_9 => ?_) (fun c_9 => ?_)
    ·
      refine lv_iconst (v := (-1)) hx hb dX2_at_21 (by decide) ?_
      exact W.iret (v := (-1)) hx hb hr (fun zt ht hW => ⟨_, rfl, (by show _ = _; first | (rw [if_pos ⟨Int32.not_lt.mp c_1, Int32.not_le.mp c_9⟩]; done) | (rw [if_neg (fun h => absurd c_1 (Int32.not_lt.mpr h.1))]; done) | (rw [if_neg (fun h => absurd h.2 (Int32.not_lt.mpr c_9))]; done)), ht⟩) (fun _ h => by cases h) dX2_at_22
    ·
      refine lv_aload_n hx hb dX2_at_12 rfl (lv_at hl 0 rfl) ?_
      refine va_get (D := D) (ci := 2) (v := .ref r) (C := RX2) (T := TX2) (N := 2) hx hb hw iwX2 hown hK.1 hP 0 rfl rfl 0 (by decide) (hw _ xw_122) (fun _ h9 => h9) rfl dX2_at_13 ?_
      refine lv_iload_n hx hb dX2_at_16 rfl (lv_at hl 1 rfl) ?_
      refine va_iald hx hb hK.1 hP 1 0 rfl rfl (es_vin ⟨Int32.not_lt.mp c_1, Int32.not_le.mp c_9⟩ hn (by decide)) dX2_at_17 ?_
      refine lv_goto (tgt := 22) hx hb dX2_at_18 (by decide) ?_
      exact W.iret (v := tx (x).toNatClampNeg) hx hb hr (fun zt ht hW => ⟨_, rfl, (by show _ = _; first | (rw [if_pos ⟨Int32.not_lt.mp c_1, Int32.not_le.mp c_9⟩]; done) | (rw [if_neg (fun h => absurd c_1 (Int32.not_lt.mpr h.1))]; done) | (rw [if_neg (fun h => absurd h.2 (Int32.not_lt.mpr c_9))]; done)), ht⟩) (fun _ h => by cases h) dX2_at_22
set_option maxHeartbeats 1000000 in
set_option maxRecDepth 100000 in
/-- X2.canReplace  -/
theorem c_X2_canReplace (l : Launch) (D : va_G) (cI : ClassId) (t : Nat) (r : Nat) (tx : Nat → Int32) (n : Nat) (pl : Int32) (ou : Int32) (pu : Int32)  : Met l yX2_canReplace (Cond.code yX2_canReplace cX2_canReplace 4 (some .boolean) :: es_T) { frames := 0, cells := 0, slots := 0, locals := 0 } (va_Pc [.ref t, .int pl, .int ou, .int pu] (es_R D cI [(t, .inr (2, [.ref r, .int (nI n)])), (r, .inl (cI, 400, .inl tx))])) (vp_Si (fun r => r = if es_can n pl ou pu then (1 : Int32) else 0)) 0 0 (fun _ => False) := by
  refine Met.ofW (cc := cX2_canReplace) (maxL := 4) (ret := (some .boolean)) (by decide) rfl ?_
  intro p e s m args below meth c s₁ B hml hv
  obtain ⟨rfl, hP, hK⟩ := hv
  have hx := B.exec
  have hb := B.bytes
  have hr := B.returns
  have hts := atoms_spec (ws := (Cond.code yX2_canReplace cX2_canReplace 4 (some .boolean) :: es_T)) B.pre
  have hw : ∀ w ∈ es_T, w.before _ s = true := fun w h => hts w (List.mem_cons_of_mem _ h)
  have hown : s.vm.findClass RX2 = some m.cls := findClass_of_methodNamed B.named
  have hlocks := B.notSynchronized
  have hRm : 0 ≤ (headSpec (Cond.code yX2_canReplace cX2_canReplace 4 (some .boolean) :: es_T) { frames := 0, cells := 0, slots := 0, locals := 0 }).room.frames ∧ 0 ≤ (headSpec (Cond.code yX2_canReplace cX2_canReplace 4 (some .boolean) :: es_T) { frames := 0, cells := 0, slots := 0, locals := 0 }).room.locals := ⟨Nat.le_refl _, Nat.le_refl _⟩
  have hRc : 0 ≤ (headSpec (Cond.code yX2_canReplace cX2_canReplace 4 (some .boolean) :: es_T) { frames := 0, cells := 0, slots := 0, locals := 0 }).room.cells ∧ 0 ≤ (headSpec (Cond.code yX2_canReplace cX2_canReplace 4 (some .boolean) :: es_T) { frames := 0, cells := 0, slots := 0, locals := 0 }).room.slots := ⟨Nat.le_refl _, Nat.le_refl _⟩
  have hl := lv_entry ([.ref t, .int pl, .int ou, .int pu]) (n := 4) (Nat.le_of_ble_eq_true rfl)
  rw [lg_entry_eq]
  generalize (lg_sl ([.ref t, .int pl, .int ou, .int pu]) ++ List.replicate (4 - (lg_sl ([.ref t, .int pl, .int ou, .int pu])).length) Slot.unset).toArray = ls at hl ⊢
  have hl : lv_has ls 4 [(0, .ref t), (1, .int pl), (2, .int ou), (3, .int pu)] := hl
  refine lv_iload_n hx hb dX2_canReplace_0 rfl (lv_at hl 3 rfl) ?_
  refine lv_if_lt (tgt := 54) hx hb dX2_canReplace_1 (by decide) (fun c_1 => ?_) (fun c_1 => ?_)
  ·
    refine lv_iconst (v := nI 0) hx hb dX2_canReplace_54 (by decide) ?_
    exact W.zret (v := nI 0) hx hb hr rfl (fun zt ht hW => ⟨_, rfl, (by show _ = _; rw [if_neg (fun h => by exact absurd c_1 (Int32.not_lt.mpr h.1))]; rfl), ht⟩) (fun _ h => by cases h) dX2_canReplace_55
  ·
    refine lv_iload_n hx hb dX2_canReplace_4 rfl (lv_at hl 3 rfl) ?_
    refine lv_bipush (v := nI 16) hx hb dX2_canReplace_5 (by decide) ?_
    refine lv_icmp_gt (tgt := 54) hx hb dX2_canReplace_7 (by decide) (fun c_7 => ?_) (fun c_7 => ?_)
    ·
      refine lv_iconst (v := nI 0) hx hb dX2_canReplace_54 (by decide) ?_
      exact W.zret (v := nI 0) hx hb hr rfl (fun zt ht hW => ⟨_, rfl, (by show _ = _; rw [if_neg (fun h => by exact absurd h.2.1 (Int32.not_le.mpr c_7))]; rfl), ht⟩) (fun _ h => by cases h) dX2_canReplace_55
    ·
      refine lv_iload_n hx hb dX2_canReplace_10 rfl (lv_at hl 1 rfl) ?_
      refine lv_if_lt (tgt := 54) hx hb dX2_canReplace_11 (by decide) (fun c_11 => ?_) (fun c_11 => ?_)
      ·
        refine lv_iconst (v := nI 0) hx hb dX2_canReplace_54 (by decide) ?_
        exact W.zret (v := nI 0) hx hb hr rfl (fun zt ht hW => ⟨_, rfl, (by show _ = _; rw [if_neg (fun h => by exact absurd c_11 (Int32.not_lt.mpr h.2.2.1))]; rfl), ht⟩) (fun _ h => by cases h) dX2_canReplace_55
      ·
        refine lv_iload_n hx hb dX2_canReplace_14 rfl (lv_at hl 1 rfl) ?_
        refine lv_aload_n hx hb dX2_canReplace_15 rfl (lv_at hl 0 rfl) ?_
        refine va_get (D := D) (ci := 2) (v := .int (nI n)) (C := RX2) (T := TX2) (N := 2) hx hb hw iwX2 hown hK.1 hP 0 rfl rfl 1 (by decide) (hw _ xw_121) (fun _ h9 => h9) rfl dX2_canReplace_16 ?_
        refine lv_icmp_gt (tgt := 54) hx hb dX2_canReplace_19 (by decide) (fun c_19 => ?_) (fun c_19 => ?_)
        ·
          refine lv_iconst (v := nI 0) hx hb dX2_canReplace_54 (by decide) ?_
          exact W.zret (v := nI 0) hx hb hr rfl (fun zt ht hW => ⟨_, rfl, (by show _ = _; rw [if_neg (fun h => by exact absurd h.2.2.2.1 (Int32.not_le.mpr c_19))]; rfl), ht⟩) (fun _ h => by cases h) dX2_canReplace_55
        ·
          refine lv_iload_n hx hb dX2_canReplace_22 rfl (lv_at hl 2 rfl) ?_
          refine lv_if_lt (tgt := 54) hx hb dX2_canReplace_23 (by decide) (fun c_23 => ?_) (fun c_23 => ?_)
          ·
            refine lv_iconst (v := nI 0) hx hb dX2_canReplace_54 (by decide) ?_
            exact W.zret (v := nI 0) hx hb hr rfl (fun zt ht hW => ⟨_, rfl, (by show _ = _; rw [if_neg (fun h => by exact absurd c_23 (Int32.not_lt.mpr h.2.2.2.2.1))]; rfl), ht⟩) (fun _ h => by cases h) dX2_canReplace_55
          ·
            refine lv_iload_n hx hb dX2_canReplace_26 rfl (lv_at hl 2 rfl) ?_
            refine lv_aload_n hx hb dX2_canReplace_27 rfl (lv_at hl 0 rfl) ?_
            refine va_get (D := D) (ci := 2) (v := .int (nI n)) (C := RX2) (T := TX2) (N := 2) hx hb hw iwX2 hown hK.1 hP 0 rfl rfl 1 (by decide) (hw _ xw_121) (fun _ h9 => h9) rfl dX2_canReplace_28 ?_
            refine lv_iload_n hx hb dX2_canReplace_31 rfl (lv_at hl 1 rfl) ?_
            refine lv_isub hx hb dX2_canReplace_32 ?_
            refine lv_icmp_gt (tgt := 54) hx hb dX2_canReplace_33 (by decide) (fun c_33 => ?_) (fun c_33 => ?_)
            ·
              refine lv_iconst (v := nI 0) hx hb dX2_canReplace_54 (by decide) ?_
              exact W.zret (v := nI 0) hx hb hr rfl (fun zt ht hW => ⟨_, rfl, (by show _ = _; rw [if_neg (fun h => by exact absurd h.2.2.2.2.2.1 (Int32.not_le.mpr c_33))]; rfl), ht⟩) (fun _ h => by cases h) dX2_canReplace_55
            ·
              refine lv_aload_n hx hb dX2_canReplace_36 rfl (lv_at hl 0 rfl) ?_
              refine va_get (D := D) (ci := 2) (v := .int (nI n)) (C := RX2) (T := TX2) (N := 2) hx hb hw iwX2 hown hK.1 hP 0 rfl rfl 1 (by decide) (hw _ xw_121) (fun _ h9 => h9) rfl dX2_canReplace_37 ?_
              refine lv_iload_n hx hb dX2_canReplace_40 rfl (lv_at hl 2 rfl) ?_
              refine lv_isub hx hb dX2_canReplace_41 ?_
              refine lv_iload_n hx hb dX2_canReplace_42 rfl (lv_at hl 3 rfl) ?_
              refine lv_iadd hx hb dX2_canReplace_43 ?_
              refine lv_sipush (v := nI 400) hx hb dX2_canReplace_44 (by decide) ?_
              refine lv_icmp_gt (tgt := 54) hx hb dX2_canReplace_47 (by decide) (fun c_47 => ?_) (fun c_47 => ?_)
              ·
                refine lv_iconst (v := nI 0) hx hb dX2_canReplace_54 (by decide) ?_
                exact W.zret (v := nI 0) hx hb hr rfl (fun zt ht hW => ⟨_, rfl, (by show _ = _; rw [if_neg (fun h => by exact absurd h.2.2.2.2.2.2 (Int32.not_le.mpr c_47))]; rfl), ht⟩) (fun _ h => by cases h) dX2_canReplace_55
              ·
                refine lv_iconst (v := nI 1) hx hb dX2_canReplace_50 (by decide) ?_
                refine lv_goto (tgt := 55) hx hb dX2_canReplace_51 (by decide) ?_
                exact W.zret (v := nI 1) hx hb hr rfl (fun zt ht hW => ⟨_, rfl, (by show _ = _; rw [if_pos ⟨Int32.not_lt.mp c_1, Int32.not_lt.mp c_7, Int32.not_lt.mp c_11, Int32.not_lt.mp c_19, Int32.not_lt.mp c_23, Int32.not_lt.mp c_33, Int32.not_lt.mp c_47⟩]; rfl), ht⟩) (fun _ h => by cases h) dX2_canReplace_55
set_option maxHeartbeats 1000000 in
set_option maxRecDepth 100000 in
/-- X3.unpack  -/
theorem c_X3_unpack (l : Launch) (D : va_G) (cI : ClassId) (sy : Int64) (cn : Nat) (j : Nat) (hc : cn ≤ 16) (hj : j < cn) : Met l yX3_unpack (Cond.code yX3_unpack cX3_unpack 4 (some .int) :: es_T) { frames := 0, cells := 0, slots := 0, locals := 0 } (va_Pc [.long sy, .int (nI cn), .int (nI j)] (es_R D cI [])) (vp_Si (fun r => r = nI (es_dg sy (cn - 1 - j)))) 0 0 (fun _ => False) := by
  refine Met.ofW (cc := cX3_unpack) (maxL := 4) (ret := (some .int)) (by decide) rfl ?_
  intro p e s m args below meth c s₁ B hml hv
  obtain ⟨rfl, hP, hK⟩ := hv
  have hx := B.exec
  have hb := B.bytes
  have hr := B.returns
  have hts := atoms_spec (ws := (Cond.code yX3_unpack cX3_unpack 4 (some .int) :: es_T)) B.pre
  have hw : ∀ w ∈ es_T, w.before _ s = true := fun w h => hts w (List.mem_cons_of_mem _ h)
  have hown : s.vm.findClass RX3 = some m.cls := findClass_of_methodNamed B.named
  have hlocks := B.notSynchronized
  have hRm : 0 ≤ (headSpec (Cond.code yX3_unpack cX3_unpack 4 (some .int) :: es_T) { frames := 0, cells := 0, slots := 0, locals := 0 }).room.frames ∧ 0 ≤ (headSpec (Cond.code yX3_unpack cX3_unpack 4 (some .int) :: es_T) { frames := 0, cells := 0, slots := 0, locals := 0 }).room.locals := ⟨Nat.le_refl _, Nat.le_refl _⟩
  have hRc : 0 ≤ (headSpec (Cond.code yX3_unpack cX3_unpack 4 (some .int) :: es_T) { frames := 0, cells := 0, slots := 0, locals := 0 }).room.cells ∧ 0 ≤ (headSpec (Cond.code yX3_unpack cX3_unpack 4 (some .int) :: es_T) { frames := 0, cells := 0, slots := 0, locals := 0 }).room.slots := ⟨Nat.le_refl _, Nat.le_refl _⟩
  have hl := lv_entry ([.long sy, .int (nI cn), .int (nI j)]) (n := 4) (Nat.le_of_ble_eq_true rfl)
  rw [lg_entry_eq]
  generalize (lg_sl ([.long sy, .int (nI cn), .int (nI j)]) ++ List.replicate (4 - (lg_sl ([.long sy, .int (nI cn), .int (nI j)])).length) Slot.unset).toArray = ls at hl ⊢
  have hl : lv_has ls 4 [(0, .long sy), (2, .int (nI cn)), (3, .int (nI j))] := hl
  refine lv_lload_n hx hb dX3_unpack_0 rfl (lv_at hl 0 rfl) ?_
  refine lv_iconst (v := nI 4) hx hb dX3_unpack_1 (by decide) ?_
  refine lv_iload_n hx hb dX3_unpack_2 rfl (lv_at hl 1 rfl) ?_
  refine lv_iconst (v := nI 1) hx hb dX3_unpack_3 (by decide) ?_
  refine lv_isub hx hb dX3_unpack_4 ?_
  refine es_top (y := nI (cn - 1)) (pk_sub (by omega)) ?_
  refine lv_iload_n hx hb dX3_unpack_5 rfl (lv_at hl 2 rfl) ?_
  refine lv_isub hx hb dX3_unpack_6 ?_
  refine es_top (y := nI ((cn - 1) - j)) (pk_sub (by omega)) ?_
  refine lv_imul hx hb dX3_unpack_7 ?_
  refine es_top (y := nI (4 * ((cn - 1) - j))) (pk_mul _ _) ?_
  refine lv_lushr hx hb dX3_unpack_8 rfl ?_
  refine lv_l2i hx hb dX3_unpack_9 rfl ?_
  refine lv_bipush (v := nI 15) hx hb dX3_unpack_10 (by decide) ?_
  refine lv_iand hx hb dX3_unpack_12 ?_
  refine es_top (y := nI (es_dg sy (cn - 1 - j))) (es_unp (by omega)) ?_
  exact W.iret (v := nI (es_dg sy (cn - 1 - j))) hx hb hr (fun zt ht hW => ⟨_, rfl, rfl, ht⟩) (fun _ h => by cases h) dX3_unpack_13
set_option maxHeartbeats 1000000 in
set_option maxRecDepth 100000 in
theorem lp_areSymbols {p : Program} {l : Launch} {e : Env} {R : Room} {s : State} {m : MethodId} {args : Array Value} {below : List Frame} {meth : Method} {c : Code} {Q : State → Prop} {H : Heap} {locs : List Loc} (D : va_G) (cI : ClassId) (sy : Int64) (cn : Nat) (hx : p.tables.exec = Jvm.exec) (hb : c.code = cX3_areSymbols) (hml : c.maxLocals = 4) (hown : s.vm.findClass RX3 = some m.cls) (hw : ∀ w ∈ es_T, w.before args s = true) (hK : es_K D cI s) (hRm : 1 ≤ R.frames ∧ 23 ≤ R.locals) (hP : va_P D vwCl [] H) (hc : cn ≤ 16) (hx1 : ∀ (i : Nat), (i < cn) → (¬ es_dg sy (cn - 1 - i) < 10) → ∀ (ls : Array Slot), lv_has ls 4 [(3, .int (nI i))] →  W p l e R s m args below meth c H locs 0 0 Q (F0 m 18 ls [])) (hx2 : ∀ (_ : Unit), (∀ j, j < cn → es_dg sy (cn - 1 - j) < 10) → ∀ (ls : Array Slot), lv_has ls 4 [(0, .long sy)] →  W p l e R s m args below meth c H locs 0 0 Q (F0 m 26 ls [])) : ∀ (N : Nat) (i : Nat), (i ≤ cn) → (∀ j, j < i → es_dg sy (cn - 1 - j) < 10) → (cn - i) < N → ∀ (ls : Array Slot), lv_has ls 4 [(0, .long sy), (2, .int (nI cn)), (3, .int (nI i))] →  W p l e R s m args below meth c H locs 0 0 Q (F0 m 2 ls []) := by
  intro N
  induction N with
  | zero =>
    intro i hi hj hN
    exact absurd hN (Nat.not_lt_zero _)
  | succ N ih =>
    intro i hi hj hN ls hl
    refine lv_iload_n hx hb dX3_areSymbols_2 rfl (lv_at hl 2 rfl) ?_
    refine lv_iload_n hx hb dX3_areSymbols_3 rfl (lv_at hl 1 rfl) ?_
    refine lv_icmp_ge (tgt := 26) hx hb dX3_areSymbols_4 (by decide) (fun c_4 => ?_) (fun c_4 => ?_)
    ·
      have c_4 := (nI_leI (by omega) (by omega)).mp c_4
      exact hx2 () (fun j h => hj j (by omega))  ls (lv_sub hl [0] rfl)
    ·
      have c_4 := (mt (nI_leI (by omega) (by omega)).mpr c_4)
      refine lv_lload_n hx hb dX3_areSymbols_7 rfl (lv_at hl 0 rfl) ?_
      refine lv_iload_n hx hb dX3_areSymbols_8 rfl (lv_at hl 1 rfl) ?_
      refine lv_iload_n hx hb dX3_areSymbols_9 rfl (lv_at hl 2 rfl) ?_
      refine vp_callSi (va_Run.run (va_runS (As := [.long sy, .int (nI cn), .int (nI i)]) (rest := []) ⟨hx, hb, hml, hown, hw⟩ (c_X3_unpack l D cI sy cn i (by first | assumption | omega) (by first | assumption | omega)) (cwS 3 hw (es_s xw_133 xw_135 xw_134 xw_2) rfl rfl rfl kv_X3_unpack ⟨Nat.le_trans (Nat.le_of_ble_eq_true rfl) hRm.1, Nat.le_trans (Nat.le_of_ble_eq_true rfl) hRm.2⟩) (es_RS hK (hP.sub (ws' := []) [] rfl)) rfl rfl hl.1 rfl (lv_room (Nat.le_of_ble_eq_true rfl)) dX3_areSymbols_10 ⟨(Nat.zero_le _), (Nat.zero_le _)⟩)) (fun r_1 er_1 => ?_)
      obtain rfl : r_1 = nI (es_dg sy (cn - 1 - i)) := er_1
      have hdl := es_dg_lt sy (cn - 1 - i)
      refine lv_bipush (v := nI 10) hx hb dX3_areSymbols_13 (by decide) ?_
      refine lv_icmp_lt (tgt := 20) hx hb dX3_areSymbols_15 (by decide) (fun c_15 => ?_) (fun c_15 => ?_)
      ·
        have c_15 := (nI_ltI (by omega) (by omega)).mp c_15
        refine lv_iinc (v := nI (i + 1)) (lv' := [(3, .int (nI (i + 1))), (0, .long sy), (2, .int (nI cn))]) hx hb dX3_areSymbols_20 hl (k := 2) rfl (nI_1 _) (by decide) rfl (fun ls hl => ?_)
        refine lv_goto (tgt := 2) hx hb dX3_areSymbols_23 (by decide) ?_
        exact ih (i + 1) (by first | assumption | omega) (lt_s hj c_15) (by omega) ls (lv_sub hl [1, 2, 0] rfl)
      ·
        have c_15 := (mt (nI_ltI (by omega) (by omega)).mpr c_15)
        exact hx1 i (by first | assumption | omega) (by first | assumption | omega)  ls (lv_sub hl [2] rfl)
set_option maxHeartbeats 1000000 in
set_option maxRecDepth 100000 in
/-- X3.areSymbols  -/
theorem c_X3_areSymbols (l : Launch) (D : va_G) (cI : ClassId) (sy : Int64) (cn : Nat) (hc : cn ≤ 16) : Met l yX3_areSymbols (Cond.code yX3_areSymbols cX3_areSymbols 4 (some .boolean) :: es_T) { frames := 1, cells := 0, slots := 0, locals := 23 } (va_Pc [.long sy, .int (nI cn)] (es_R D cI [])) (vp_Si (fun r => (r = nI 1 ∧ ∀ j, j < cn → es_dg sy j < 10) ∨ (r = nI 0 ∧ ∃ j, j < cn ∧ ¬ es_dg sy j < 10))) 0 0 (fun _ => False) := by
  refine Met.ofW (cc := cX3_areSymbols) (maxL := 4) (ret := (some .boolean)) (by decide) rfl ?_
  intro p e s m args below meth c s₁ B hml hv
  obtain ⟨rfl, hP, hK⟩ := hv
  have hx := B.exec
  have hb := B.bytes
  have hr := B.returns
  have hts := atoms_spec (ws := (Cond.code yX3_areSymbols cX3_areSymbols 4 (some .boolean) :: es_T)) B.pre
  have hw : ∀ w ∈ es_T, w.before _ s = true := fun w h => hts w (List.mem_cons_of_mem _ h)
  have hown : s.vm.findClass RX3 = some m.cls := findClass_of_methodNamed B.named
  have hlocks := B.notSynchronized
  have hRm : 1 ≤ (headSpec (Cond.code yX3_areSymbols cX3_areSymbols 4 (some .boolean) :: es_T) { frames := 1, cells := 0, slots := 0, locals := 23 }).room.frames ∧ 23 ≤ (headSpec (Cond.code yX3_areSymbols cX3_areSymbols 4 (some .boolean) :: es_T) { frames := 1, cells := 0, slots := 0, locals := 23 }).room.locals := ⟨Nat.le_refl _, Nat.le_refl _⟩
  have hRc : 0 ≤ (headSpec (Cond.code yX3_areSymbols cX3_areSymbols 4 (some .boolean) :: es_T) { frames := 1, cells := 0, slots := 0, locals := 23 }).room.cells ∧ 0 ≤ (headSpec (Cond.code yX3_areSymbols cX3_areSymbols 4 (some .boolean) :: es_T) { frames := 1, cells := 0, slots := 0, locals := 23 }).room.slots := ⟨Nat.le_refl _, Nat.le_refl _⟩
  have hl := lv_entry ([.long sy, .int (nI cn)]) (n := 4) (Nat.le_of_ble_eq_true rfl)
  rw [lg_entry_eq]
  generalize (lg_sl ([.long sy, .int (nI cn)]) ++ List.replicate (4 - (lg_sl ([.long sy, .int (nI cn)])).length) Slot.unset).toArray = ls at hl ⊢
  have hl : lv_has ls 4 [(0, .long sy), (2, .int (nI cn))] := hl
  refine lv_iconst (v := nI 0) hx hb dX3_areSymbols_0 (by decide) ?_
  refine lv_istore_n (lv' := [(3, .int (nI 0)), (0, .long sy), (2, .int (nI cn))]) hx hb dX3_areSymbols_1 rfl hl (by decide) rfl (fun ls hl => ?_)
  refine lp_areSymbols D cI sy cn hx hb hml hown hw hK ⟨Nat.le_trans (Nat.le_of_ble_eq_true rfl) hRm.1, Nat.le_trans (Nat.le_of_ble_eq_true rfl) hRm.2⟩ hP (by first | assumption | omega) (fun i hi hb_ ls hl => ?_) (fun _ hj ls hl => ?_) ((cn - 0) + 1) 0 (by first | assumption | omega) (fun j h => absurd h (Nat.not_lt_zero _)) (Nat.lt_succ_self _) ls (lv_sub hl [1, 2, 0] rfl)
  ·
    refine lv_iconst (v := nI 0) hx hb dX3_areSymbols_18 (by decide) ?_
    exact W.zret (v := nI 0) hx hb hr rfl (fun zt ht hW => ⟨_, rfl, Or.inr ⟨rfl, cn - 1 - i, by omega, hb_⟩, ht⟩) (fun _ h => by cases h) dX3_areSymbols_19
  ·
    refine lv_iconst (v := nI 1) hx hb dX3_areSymbols_26 (by decide) ?_
    exact W.zret (v := nI 1) hx hb hr rfl (fun zt ht hW => ⟨_, rfl, (Or.inl ⟨rfl, fun j h => by have h2 := hj (cn - 1 - j) (by omega); rwa [show cn - 1 - (cn - 1 - j) = j by omega] at h2⟩), ht⟩) (fun _ h => by cases h) dX3_areSymbols_27
set_option maxHeartbeats 1000000 in
set_option maxRecDepth 100000 in
theorem lp_replace {p : Program} {l : Launch} {e : Env} {R : Room} {s : State} {m : MethodId} {args : Array Value} {below : List Frame} {meth : Method} {c : Code} {Q : State → Prop} {A : Nat → Prop} {H0 : Heap} (D : va_G) (cI : ClassId) (t : Nat) (r : Nat) (tx : Nat → Int32) (n : Nat) (pl : Nat) (ou : Nat) (sy : Int64) (cn : Nat) (cp : Nat → Int32) (hx : p.tables.exec = Jvm.exec) (hb : c.code = cX2_replace) (hml : c.maxLocals = 7) (hown : s.vm.findClass RX2 = some m.cls) (hw : ∀ w ∈ es_T, w.before args s = true) (hK : es_K D cI s) (hRm : 1 ≤ R.frames ∧ 48 ≤ R.locals) (hA : ∀ q : Nat, H0.size ≤ q → A q) (hn : n ≤ 400) (h1 : pl + ou ≤ n) (h2 : cn ≤ 16) (h3 : n - ou + cn ≤ 400) (hex : ∀ (E : Nat → Int32), (es_rpi cp E pl sy cn cn) → ∀ (H : Heap) (locs : List Loc), va_P D vwCl [(t, .inr (2, [.ref r, .int (nI n)])), (r, .inl (cI, 400, .inl E))] H → va_D A [(t, .inr (2, [.ref r, .int (nI n)])), (r, .inl (cI, 400, .inl E))] → va_S A H0 H locs → ∀ (ls : Array Slot), lv_has ls 7 [(0, .ref t), (2, .int (nI ou)), (5, .int (nI cn))] →  W p l e R s m args below meth c H locs 0 0 Q (F0 m 71 ls [])) : ∀ (N : Nat) (i : Nat) (E : Nat → Int32), (i ≤ cn) → (es_rpi cp E pl sy cn i) → (cn - i) < N → ∀ (H : Heap) (locs : List Loc), va_P D vwCl [(t, .inr (2, [.ref r, .int (nI n)])), (r, .inl (cI, 400, .inl E))] H → va_D A [(t, .inr (2, [.ref r, .int (nI n)])), (r, .inl (cI, 400, .inl E))] → va_S A H0 H locs → ∀ (ls : Array Slot), lv_has ls 7 [(0, .ref t), (1, .int (nI pl)), (2, .int (nI ou)), (3, .long sy), (5, .int (nI cn)), (6, .int (nI i))] →  W p l e R s m args below meth c H locs 0 0 Q (F0 m 41 ls []) := by
  intro N
  induction N with
  | zero =>
    intro i E hi hj hN
    exact absurd hN (Nat.not_lt_zero _)
  | succ N ih =>
    intro i E hi hj hN H locs hP hD hS ls hl
    refine lv_iload hx hb dX2_replace_41 (lv_at hl 5 rfl) ?_
    refine lv_iload hx hb dX2_replace_43 (lv_at hl 4 rfl) ?_
    refine lv_icmp_ge (tgt := 71) hx hb dX2_replace_45 (by decide) (fun c_45 => ?_) (fun c_45 => ?_)
    ·
      have c_45 := (nI_leI (by omega) (by omega)).mp c_45
      exact hex E (by rw [show cn = i by omega]; rw [show cn = i by omega] at hj; exact hj)  H locs (hP.sub [0, 1] rfl) (hD.sub [0, 1] (by decide) rfl) hS ls (lv_sub hl [0, 2, 4] rfl)
    ·
      have c_45 := (mt (nI_leI (by omega) (by omega)).mpr c_45)
      refine lv_aload_n hx hb dX2_replace_48 rfl (lv_at hl 0 rfl) ?_
      refine va_get (D := D) (ci := 2) (v := .ref r) (C := RX2) (T := TX2) (N := 2) hx hb hw iwX2 hown hK.1 hP 0 rfl rfl 0 (by decide) (hw _ xw_122) (fun _ h9 => h9) rfl dX2_replace_49 ?_
      refine lv_iload_n hx hb dX2_replace_52 rfl (lv_at hl 1 rfl) ?_
      refine lv_iload hx hb dX2_replace_53 (lv_at hl 5 rfl) ?_
      refine lv_iadd hx hb dX2_replace_55 ?_
      refine es_top (y := nI (pl + i)) (nI_add _ _) ?_
      refine lv_lload_n hx hb dX2_replace_56 rfl (lv_at hl 3 rfl) ?_
      refine lv_iload hx hb dX2_replace_57 (lv_at hl 4 rfl) ?_
      refine lv_iload hx hb dX2_replace_59 (lv_at hl 5 rfl) ?_
      refine vp_callSi (va_Run.run (va_runSN (As := [.long sy, .int (nI cn), .int (nI i)]) (rest := [.int (nI (pl + i)), .ref r]) ⟨hx, hb, hml, hown, hw⟩ (c_X3_unpack l D cI sy cn i (by first | assumption | omega) (by first | assumption | omega)) ⟨va_cnB 3 hw (es_c xw_133) rfl rfl rfl hK.2.2.2 (hw _ xw_2) k0_X3_unpack ⟨Nat.le_trans (Nat.le_of_ble_eq_true rfl) hRm.1, Nat.le_trans (Nat.le_of_ble_eq_true rfl) hRm.2⟩, (hw _ xw_134), trivial⟩ (es_RS hK (hP.sub (ws' := []) [] rfl)) rfl rfl hl.1 rfl (lv_room (Nat.le_of_ble_eq_true rfl)) dX2_replace_61 ⟨(Nat.zero_le _), (Nat.zero_le _)⟩)) (fun r_1 er_1 => ?_)
      obtain rfl : r_1 = nI (es_dg sy (cn - 1 - i)) := er_1
      refine es_iast hx hb hK.1 hP hD hS 1 0 rfl rfl (by omega) (Nat.le_of_ble_eq_true rfl) dX2_replace_64 (fun H locs hP hD hS => ?_)
      have hP : va_P D vwCl [(t, .inr (2, [.ref r, .int (nI n)])), (r, .inl (cI, 400, .inl (upd E (pl + i) (nI (es_dg sy (cn - 1 - i))))))] H := hP
      have hD : va_D A [(t, .inr (2, [.ref r, .int (nI n)])), (r, .inl (cI, 400, .inl (upd E (pl + i) (nI (es_dg sy (cn - 1 - i))))))] := hD
      refine lv_iinc (v := nI (i + 1)) (lv' := [(6, .int (nI (i + 1))), (0, .ref t), (1, .int (nI pl)), (2, .int (nI ou)), (3, .long sy), (5, .int (nI cn))]) hx hb dX2_replace_65 hl (k := 5) rfl (nI_1 _) (by decide) rfl (fun ls hl => ?_)
      refine lv_goto (tgt := 41) hx hb dX2_replace_68 (by decide) ?_
      exact ih (i + 1) (upd E (pl + i) (nI (es_dg sy (cn - 1 - i)))) (by first | assumption | omega) (es_rpi_s hj (by omega)) (by omega) H locs (hP.sub [0, 1] rfl) (hD.sub [0, 1] (by decide) rfl) hS ls (lv_sub hl [1, 2, 3, 4, 5, 0] rfl)
set_option maxHeartbeats 1000000 in
set_option maxRecDepth 100000 in
/-- X2.replace  -/
theorem c_X2_replace (l : Launch) (D : va_G) (cI : ClassId) (sz : Nat) (t : Nat) (r : Nat) (tx : Nat → Int32) (n : Nat) (pl : Nat) (ou : Nat) (sy : Int64) (cn : Nat) (hn : n ≤ 400) (h1 : pl + ou ≤ n) (h2 : cn ≤ 16) (h3 : n - ou + cn ≤ 400) : Met l yX2_replace (Cond.code yX2_replace cX2_replace 7 none :: es_T) { frames := 1, cells := 0, slots := 0, locals := 48 } (va_Pc [.ref t, .int (nI pl), .int (nI ou), .long sy, .int (nI cn)] (es_W D cI sz [(t, .inr (2, [.ref r, .int (nI n)])), (r, .inl (cI, 400, .inl tx))])) (va_Qv (fun u => es_rep tx u n pl ou sy cn) (fun (u : Nat → Int32) zt => va_P D vwCl [(t, .inr (2, [.ref r, .int (nI (n - ou + cn))])), (r, .inl (cI, 400, .inl u))] zt.heap ∧ va_D (va_A [(t, .inr (2, [.ref r, .int (nI n)])), (r, .inl (cI, 400, .inl tx))] sz) [(t, .inr (2, [.ref r, .int (nI (n - ou + cn))])), (r, .inl (cI, 400, .inl u))]) (va_A [(t, .inr (2, [.ref r, .int (nI n)])), (r, .inl (cI, 400, .inl tx))] sz)) 0 0 (va_A [(t, .inr (2, [.ref r, .int (nI n)])), (r, .inl (cI, 400, .inl tx))] sz) := by
  refine Met.ofW (cc := cX2_replace) (maxL := 7) (ret := none) (by decide) rfl ?_
  intro p e s m args below meth c s₁ B hml hv
  obtain ⟨rfl, hsz, hP, hK, hD0⟩ := hv
  have hx := B.exec
  have hb := B.bytes
  have hr := B.returns
  have hts := atoms_spec (ws := (Cond.code yX2_replace cX2_replace 7 none :: es_T)) B.pre
  have hw : ∀ w ∈ es_T, w.before _ s = true := fun w h => hts w (List.mem_cons_of_mem _ h)
  have hown : s.vm.findClass RX2 = some m.cls := findClass_of_methodNamed B.named
  have hlocks := B.notSynchronized
  have hRm : 1 ≤ (headSpec (Cond.code yX2_replace cX2_replace 7 none :: es_T) { frames := 1, cells := 0, slots := 0, locals := 48 }).room.frames ∧ 48 ≤ (headSpec (Cond.code yX2_replace cX2_replace 7 none :: es_T) { frames := 1, cells := 0, slots := 0, locals := 48 }).room.locals := ⟨Nat.le_refl _, Nat.le_refl _⟩
  have hRc : 0 ≤ (headSpec (Cond.code yX2_replace cX2_replace 7 none :: es_T) { frames := 1, cells := 0, slots := 0, locals := 48 }).room.cells ∧ 0 ≤ (headSpec (Cond.code yX2_replace cX2_replace 7 none :: es_T) { frames := 1, cells := 0, slots := 0, locals := 48 }).room.slots := ⟨Nat.le_refl _, Nat.le_refl _⟩
  subst hsz
  have hD := hD0.self (sz := s.heap.size)
  generalize hAe : va_A [(t, .inr (2, [.ref r, .int (nI n)])), (r, .inl (cI, 400, .inl tx))] s.heap.size = A at hD ⊢
  have hA : ∀ q : Nat, s.heap.size ≤ q → A q := fun q h => by rw [← hAe]; exact Or.inr h
  have hS : va_S A s.heap s.heap [] := va_S.rf
  have hl := lv_entry ([.ref t, .int (nI pl), .int (nI ou), .long sy, .int (nI cn)]) (n := 7) (Nat.le_of_ble_eq_true rfl)
  rw [lg_entry_eq]
  generalize (lg_sl ([.ref t, .int (nI pl), .int (nI ou), .long sy, .int (nI cn)]) ++ List.replicate (7 - (lg_sl ([.ref t, .int (nI pl), .int (nI ou), .long sy, .int (nI cn)])).length) Slot.unset).toArray = ls at hl ⊢
  have hl : lv_has ls 7 [(0, .ref t), (1, .int (nI pl)), (2, .int (nI ou)), (3, .long sy), (5, .int (nI cn))] := hl
  refine lv_aload_n hx hb dX2_replace_0 rfl (lv_at hl 0 rfl) ?_
  refine lv_iload_n hx hb dX2_replace_1 rfl (lv_at hl 1 rfl) ?_
  refine lv_iload_n hx hb dX2_replace_2 rfl (lv_at hl 2 rfl) ?_
  refine lv_iload hx hb dX2_replace_3 (lv_at hl 4 rfl) ?_
  refine vp_callSi (va_Run.run (va_runV (As := [.int (nI pl), .int (nI ou), .int (nI cn)]) (rest := []) ⟨hx, hb, hml, hown, hw⟩ (c_X2_canReplace l D cI t r tx n (nI pl) (nI ou) (nI cn) ) (cwV 3 hw (es_v xw_124 xw_126 xw_127 xw_128 xw_125) rfl rfl rfl kv_X2_canReplace ⟨Nat.le_trans (Nat.le_of_ble_eq_true rfl) hRm.1, Nat.le_trans (Nat.le_of_ble_eq_true rfl) hRm.2⟩) (es_RV hK (hP.sub (ws' := [(t, .inr (2, [.ref r, .int (nI n)])), (r, .inl (cI, 400, .inl tx))]) [0, 1] rfl) rfl rfl) rfl rfl hl.1 rfl (lv_room (Nat.le_of_ble_eq_true rfl)) dX2_replace_5 ⟨(Nat.zero_le _), (Nat.zero_le _)⟩)) (fun r_1 er_1 => ?_)
  obtain rfl : r_1 = if es_can n (nI pl) (nI ou) (nI cn) then (1 : Int32) else 0 := er_1
  refine es_top (y := nI 1) (if_pos (es_can_of hn h1 h2 h3)) ?_
  refine lv_if_ne (tgt := 12) hx hb dX2_replace_8 (by decide) (fun c_8 => ?_) (fun c_8 => ?_)
  ·
    refine lv_aload_n hx hb dX2_replace_12 rfl (lv_at hl 0 rfl) ?_
    refine va_get (D := D) (ci := 2) (v := .ref r) (C := RX2) (T := TX2) (N := 2) hx hb hw iwX2 hown hK.1 hP 0 rfl rfl 0 (by decide) (hw _ xw_122) (fun _ h9 => h9) rfl dX2_replace_13 ?_
    refine lv_iload_n hx hb dX2_replace_16 rfl (lv_at hl 1 rfl) ?_
    refine lv_iload_n hx hb dX2_replace_17 rfl (lv_at hl 2 rfl) ?_
    refine lv_iadd hx hb dX2_replace_18 ?_
    refine es_top (y := nI (pl + ou)) (nI_add _ _) ?_
    refine lv_aload_n hx hb dX2_replace_19 rfl (lv_at hl 0 rfl) ?_
    refine va_get (D := D) (ci := 2) (v := .ref r) (C := RX2) (T := TX2) (N := 2) hx hb hw iwX2 hown hK.1 hP 0 rfl rfl 0 (by decide) (hw _ xw_122) (fun _ h9 => h9) rfl dX2_replace_20 ?_
    refine lv_iload_n hx hb dX2_replace_23 rfl (lv_at hl 1 rfl) ?_
    refine lv_iload hx hb dX2_replace_24 (lv_at hl 4 rfl) ?_
    refine lv_iadd hx hb dX2_replace_26 ?_
    refine es_top (y := nI (pl + cn)) (nI_add _ _) ?_
    refine lv_aload_n hx hb dX2_replace_27 rfl (lv_at hl 0 rfl) ?_
    refine va_get (D := D) (ci := 2) (v := .int (nI n)) (C := RX2) (T := TX2) (N := 2) hx hb hw iwX2 hown hK.1 hP 0 rfl rfl 1 (by decide) (hw _ xw_121) (fun _ h9 => h9) rfl dX2_replace_28 ?_
    refine lv_iload_n hx hb dX2_replace_31 rfl (lv_at hl 1 rfl) ?_
    refine lv_isub hx hb dX2_replace_32 ?_
    refine es_top (y := nI (n - pl)) (pk_sub (by omega)) ?_
    refine lv_iload_n hx hb dX2_replace_33 rfl (lv_at hl 2 rfl) ?_
    refine lv_isub hx hb dX2_replace_34 ?_
    refine es_top (y := nI ((n - pl) - ou)) (pk_sub (by omega)) ?_
    refine va_copyi hx hb (by rw [hml]; exact hl.1.symm) hown (hw _ xw_129) (hw _ xw_130) (hw _ xw_131) (hw _ xw_132) hK.1 hP hD hS 1 1 0 0 rfl rfl rfl rfl rfl (nI_pos (by omega)) (nI_pos (by omega)) (nI_pos (by omega)) (by rw [nI_clamp (by omega), nI_clamp (by omega)]; omega) (by rw [nI_clamp (by omega), nI_clamp (by omega)]; omega) (fun _ _ => rfl) (Nat.le_trans (Nat.le_of_ble_eq_true rfl) hRm.1) (Nat.le_trans (Nat.le_of_ble_eq_true rfl) hRm.2) dX2_replace_35 (fun H locs hP hD hS => ?_)
    rw [nI_clamp (n := (pl + ou)) (by omega), nI_clamp (n := (pl + cn)) (by omega), nI_clamp (n := ((n - pl) - ou)) (by omega)] at hP hD
    have hP : va_P D vwCl [(t, .inr (2, [.ref r, .int (nI n)])), (r, .inl (cI, 400, .inl (va_cpy tx tx (pl + ou) (pl + cn) ((n - pl) - ou))))] H := hP
    have hD : va_D A [(t, .inr (2, [.ref r, .int (nI n)])), (r, .inl (cI, 400, .inl (va_cpy tx tx (pl + ou) (pl + cn) ((n - pl) - ou))))] := hD
    refine lv_iconst (v := nI 0) hx hb dX2_replace_38 (by decide) ?_
    refine lv_istore (lv' := [(6, .int (nI 0)), (0, .ref t), (1, .int (nI pl)), (2, .int (nI ou)), (3, .long sy), (5, .int (nI cn))]) hx hb dX2_replace_39 hl (by decide) rfl (fun ls hl => ?_)
    refine lp_replace D cI t r tx n pl ou sy cn (va_cpy tx tx (pl + ou) (pl + cn) (n - pl - ou)) hx hb hml hown hw hK ⟨Nat.le_trans (Nat.le_of_ble_eq_true rfl) hRm.1, Nat.le_trans (Nat.le_of_ble_eq_true rfl) hRm.2⟩ hA (by first | assumption | omega) (by first | assumption | omega) (by first | assumption | omega) (by first | assumption | omega) (fun E hj H locs hP hD hS ls hl => ?_) ((cn - 0) + 1) 0 (va_cpy tx tx (pl + ou) (pl + cn) ((n - pl) - ou)) (by first | assumption | omega) es_rpi_0 (Nat.lt_succ_self _) H locs (hP.sub [0, 1] rfl) (hD.sub [0, 1] (by decide) rfl) hS ls (lv_sub hl [1, 2, 3, 4, 5, 0] rfl)
    refine lv_aload_n hx hb dX2_replace_71 rfl (lv_at hl 0 rfl) ?_
    refine lv_dup hx hb dX2_replace_72 rfl ?_
    refine va_get (D := D) (ci := 2) (v := .int (nI n)) (C := RX2) (T := TX2) (N := 2) hx hb hw iwX2 hown hK.1 hP 0 rfl rfl 1 (by decide) (hw _ xw_121) (fun _ h9 => h9) rfl dX2_replace_73 ?_
    refine lv_iload hx hb dX2_replace_76 (lv_at hl 2 rfl) ?_
    refine lv_iload_n hx hb dX2_replace_78 rfl (lv_at hl 1 rfl) ?_
    refine lv_isub hx hb dX2_replace_79 ?_
    refine lv_iadd hx hb dX2_replace_80 ?_
    refine es_top (y := nI (n - ou + cn)) (es_mv (by omega)) ?_
    refine va_put (D := D) (ci := 2) (v := .int (nI (n - ou + cn))) (ty := .int) (C := RX2) (T := TX2) (N := 2) hx hb hw iwX2 tyX2 tyX2_ok nmX2 hown hK.1 hP hD hS 0 rfl rfl 1 (by decide) (hw _ xw_121) (fun _ h9 => h9) rfl (by decide +kernel) rfl rfl (Nat.le_of_ble_eq_true rfl) dX2_replace_81 (fun H locs hP hD hS => ?_)
    have hP : va_P D vwCl [(t, .inr (2, [.ref r, .int (nI (n - ou + cn))])), (r, .inl (cI, 400, .inl E))] H := hP
    have hD : va_D A [(t, .inr (2, [.ref r, .int (nI (n - ou + cn))])), (r, .inl (cI, 400, .inl E))] := hD
    exact W.vret hx hb hr (fun zt ht hW => ⟨⟨E, rfl, (es_rep_of h1 h3 hj), ⟨by rw [ht]; exact hP.sub [0, 1] rfl, hD.sub [0, 1] (by decide) rfl⟩⟩, hS.F ht⟩) hS.2.2 dX2_replace_84
  ·
    exact absurd c_8 (by decide)
end
section
-- ===== what scanning is =====
/-- the text as it is looked at: behind its end there is none -/
def es_lk (tx : Nat → Int32) (n : Nat) (j : Nat) : Int32 := if j < n then tx j else -1
/-- the state behind k symbols -/
def es_q (ar : Nat → Int32) (g : Nat → Int32) : Nat → Int32
  | 0 => 0
  | k + 1 => if es_q ar g k = -1 ∨ g k = -1 then -1 else ar (10 * (es_q ar g k).toNatClampNeg + (g k).toNatClampNeg)
def es_kd (ki : Nat → Int32) (y : Int32) : Int32 := if y = -1 then -1 else ki y.toNatClampNeg
/-- the longest row so far whose state has a kind, and that kind -/
def es_bl (ar ki g : Nat → Int32) : Nat → Nat
  | 0 => 0
  | k + 1 => if es_kd ki (es_q ar g (k + 1)) = -1 then es_bl ar ki g k else k + 1
def es_bk (ar ki g : Nat → Int32) : Nat → Int32
  | 0 => -1
  | k + 1 => if es_kd ki (es_q ar g (k + 1)) = -1 then es_bk ar ki g k else es_kd ki (es_q ar g (k + 1))
def es_isL (ar g : Nat → Int32) (L : Nat) : Prop := es_q ar g L = -1 ∧ ∀ j, j < L → es_q ar g j ≠ -1
def es_at (lk : Nat → Int32) (b : Nat) : Nat → Int32 := fun k => lk (b + k)
noncomputable def es_Lo (ar lk : Nat → Int32) (b : Nat) : Nat := Classical.epsilon (fun L => es_isL ar (es_at lk b) L)
noncomputable def es_Le (ar ki lk : Nat → Int32) (b : Nat) : Nat := es_bl ar ki (es_at lk b) (es_Lo ar lk b)
noncomputable def es_Kd (ar ki lk : Nat → Int32) (b : Nat) : Int32 := es_bk ar ki (es_at lk b) (es_Lo ar lk b)
/-- the table and the text are as they must be -/
def es_ta (ar : Nat → Int32) : Prop := ∀ j, j < 200 → ar j = -1 ∨ ∃ q : Nat, q < 20 ∧ ar j = nI q
def es_tk2 (ki : Nat → Int32) : Prop := ∀ j, j < 20 → ki j = -1 ∨ ∃ q : Nat, q < 100 ∧ ki j = nI q
def es_sy (lk : Nat → Int32) : Prop := ∀ j, lk j = -1 ∨ ∃ q : Nat, q < 10 ∧ lk j = nI q
theorem es_q_ok {ar g : Nat → Int32} (ha : es_ta ar) (hg : ∀ k, g k = -1 ∨ ∃ q : Nat, q < 10 ∧ g k = nI q) : ∀ k, es_q ar g k = -1 ∨ ∃ q : Nat, q < 20 ∧ es_q ar g k = nI q
  | 0 => Or.inr ⟨0, by decide, rfl⟩
  | k + 1 => by
    rw [es_q]
    by_cases h : es_q ar g k = -1 ∨ g k = -1
    · rw [if_pos h]; exact Or.inl rfl
    · rw [if_neg h]
      rcases es_q_ok ha hg k with h1 | ⟨q, hq, h1⟩
      · exact absurd (Or.inl h1) h
      · rcases hg k with h2 | ⟨t, ht, h2⟩
        · exact absurd (Or.inr h2) h
        · rw [h1, h2, nI_clamp (by omega), nI_clamp (by omega)]
          exact ha _ (by omega)
theorem es_q_s {ar g : Nat → Int32} {k q : Nat} (hq : q < 20) (h : nI q = es_q ar g k) : (if g k = -1 then -1 else ar (10 * q + (g k).toNatClampNeg)) = es_q ar g (k + 1) := by
  rw [es_q, ← h, nI_clamp (by omega)]
  by_cases h2 : g k = -1
  · rw [if_pos h2, if_pos (Or.inr h2)]
  · rw [if_neg h2, if_neg (fun z => z.elim (es_nnm (by omega)) h2)]
theorem es_q_m {ar g : Nat → Int32} {k : Nat} (h : es_q ar g k = -1) : es_q ar g (k + 1) = -1 := by rw [es_q, if_pos (Or.inl h)]
theorem es_q_end {ar g : Nat → Int32} {k : Nat} (h : g k = -1) : ∀ i, es_q ar g (k + 1 + i) = -1
  | 0 => by rw [Nat.add_zero, es_q, if_pos (Or.inr h)]
  | i + 1 => es_q_m (es_q_end h i)
theorem es_isL_eq {ar g : Nat → Int32} {L L' : Nat} (h : es_isL ar g L) (h' : es_isL ar g L') : L = L' := by
  rcases Nat.lt_trichotomy L L' with h1 | h1 | h1
  · exact absurd h.1 (h'.2 L h1)
  · exact h1
  · exact absurd h'.1 (h.2 L' h1)
theorem es_Lo_of {ar lk : Nat → Int32} {b L : Nat} (h : es_isL ar (es_at lk b) L) : es_Lo ar lk b = L := es_isL_eq (Classical.epsilon_spec (p := fun L => es_isL ar (es_at lk b) L) ⟨L, h⟩) h
theorem es_Lo_is {ar lk : Nat → Int32} {b e : Nat} (he : lk (b + e) = -1) (hl : e ≤ 400) : es_isL ar (es_at lk b) (es_Lo ar lk b) ∧ es_Lo ar lk b ≤ e + 1 ∧ 1 ≤ es_Lo ar lk b := by
  have h1 : es_q ar (es_at lk b) (e + 1) = -1 := es_q_end (k := e) he 0
  obtain ⟨L, hL, hm⟩ := pk_least (fun k => es_q ar (es_at lk b) k = -1) ⟨e + 1, h1⟩
  have hle : L ≤ e + 1 := by
    rcases Nat.lt_or_ge (e + 1) L with h | h
    · exact absurd h1 (hm _ h)
    · exact h
  have h0 : L ≠ 0 := fun z => by rw [z] at hL; exact absurd (show (0 : Int32) = -1 from hL) (by decide)
  have hi : es_isL ar (es_at lk b) L := ⟨hL, hm⟩
  rw [es_Lo_of hi]
  exact ⟨hi, hle, by omega⟩
theorem es_bl_le {ar ki g : Nat → Int32} : ∀ k, es_bl ar ki g k ≤ k
  | 0 => Nat.le_refl 0
  | k + 1 => by
    rw [es_bl]
    by_cases h : es_kd ki (es_q ar g (k + 1)) = -1
    · rw [if_pos h]; exact Nat.le_succ_of_le (es_bl_le k)
    · rw [if_neg h]; exact Nat.le_refl _
theorem es_kd_m {ki : Nat → Int32} : es_kd ki (-1) = -1 := if_pos rfl
theorem es_bl_L {ar ki g : Nat → Int32} {L : Nat} (h : es_q ar g L = -1) (h1 : 1 ≤ L) : es_bl ar ki g L = es_bl ar ki g (L - 1) := by
  obtain ⟨k, rfl⟩ : ∃ k, L = k + 1 := ⟨L - 1, by omega⟩
  rw [es_bl, h, if_pos es_kd_m]; rfl
/-- a token is shorter than what it looked at, and lies in the text -/
theorem es_Le_lt {ar ki lk : Nat → Int32} {b e : Nat} (he : lk (b + e) = -1) (hl : e ≤ 400) : es_Le ar ki lk b + 1 ≤ es_Lo ar lk b ∧ es_Le ar ki lk b ≤ e := by
  obtain ⟨h1, h2, h3⟩ := es_Lo_is (ar := ar) he hl
  have h4 : es_Le ar ki lk b ≤ es_Lo ar lk b - 1 := by
    unfold es_Le
    rw [es_bl_L h1.1 h3]
    exact es_bl_le _
  omega
theorem es_bl_s0 {ar ki g : Nat → Int32} {k : Nat} (h : es_kd ki (es_q ar g (k + 1)) = -1) : es_bl ar ki g (k + 1) = es_bl ar ki g k ∧ es_bk ar ki g (k + 1) = es_bk ar ki g k := by
  constructor
  · rw [es_bl, if_pos h]
  · rw [es_bk, if_pos h]
theorem es_bl_s1 {ar ki g : Nat → Int32} {k : Nat} (h : ¬ es_kd ki (es_q ar g (k + 1)) = -1) : es_bl ar ki g (k + 1) = k + 1 ∧ es_bk ar ki g (k + 1) = es_kd ki (es_q ar g (k + 1)) := by
  constructor
  · rw [es_bl, if_neg h]
  · rw [es_bk, if_neg h]
-- ===== only what is looked at matters =====
theorem es_q_loc {ar g g' : Nat → Int32} {m : Nat} (h : ∀ k, k < m → g k = g' k) : ∀ k, k ≤ m → es_q ar g k = es_q ar g' k
  | 0, _ => rfl
  | k + 1, hk => by rw [es_q, es_q, es_q_loc h k (by omega), h k (by omega)]
theorem es_bl_loc {ar ki g g' : Nat → Int32} {m : Nat} (h : ∀ k, k ≤ m → es_q ar g k = es_q ar g' k) : ∀ k, k ≤ m → es_bl ar ki g k = es_bl ar ki g' k ∧ es_bk ar ki g k = es_bk ar ki g' k
  | 0, _ => ⟨rfl, rfl⟩
  | k + 1, hk => by
    obtain ⟨h1, h2⟩ := es_bl_loc (ki := ki) h k (by omega)
    rw [es_bl, es_bl, es_bk, es_bk, h (k + 1) hk, h1, h2]
    exact ⟨rfl, rfl⟩
theorem es_loc {ar ki lk lk' : Nat → Int32} {b b' e : Nat} (he : lk (b + e) = -1) (hl : e ≤ 400) (h : ∀ k, k < es_Lo ar lk b → lk (b + k) = lk' (b' + k)) : es_Lo ar lk' b' = es_Lo ar lk b ∧ es_Le ar ki lk' b' = es_Le ar ki lk b ∧ es_Kd ar ki lk' b' = es_Kd ar ki lk b := by
  obtain ⟨h1, h2, h3⟩ := es_Lo_is (ar := ar) he hl
  have hq := es_q_loc (ar := ar) (g := es_at lk b) (g' := es_at lk' b') h
  have h4 : es_isL ar (es_at lk' b') (es_Lo ar lk b) := ⟨by rw [← hq _ (Nat.le_refl _)]; exact h1.1, fun j hj => by rw [← hq j (Nat.le_of_lt hj)]; exact h1.2 j hj⟩
  have h5 := es_Lo_of h4
  have h6 := es_bl_loc (ki := ki) hq _ (Nat.le_refl _)
  refine ⟨h5, ?_, ?_⟩
  · unfold es_Le; rw [h5]; exact h6.1.symm
  · unfold es_Kd; rw [h5]; exact h6.2.symm
-- ===== a scan of a text =====
def es_B (Le : Nat → Nat) : Nat → Nat
  | 0 => 0
  | i + 1 => es_B Le i + Le (es_B Le i)
def es_cnt (Le : Nat → Nat) (n c : Nat) : Prop := (∀ i, i < c → es_B Le i < n) ∧ (∀ i, i + 1 < c → 0 < Le (es_B Le i)) ∧ ((c = 0 ∧ n = 0) ∨ (0 < c ∧ (Le (es_B Le (c - 1)) = 0 ∨ es_B Le c = n)))
theorem es_cnt_le {Le : Nat → Nat} {n c c' : Nat} (h : es_cnt Le n c) (h' : es_cnt Le n c') : c' ≤ c := by
  rcases Nat.lt_or_ge c c' with hlt | hge
  · exfalso
    rcases h.2.2 with ⟨h1, h2⟩ | ⟨h1, h2 | h2⟩
    · have := h'.1 0 (by omega); omega
    · have := h'.2.1 (c - 1) (by omega); omega
    · have := h'.1 c hlt; omega
  · exact hge
theorem es_cnt_eq {Le : Nat → Nat} {n c c' : Nat} (h : es_cnt Le n c) (h' : es_cnt Le n c') : c' = c := Nat.le_antisymm (es_cnt_le h h') (es_cnt_le h' h)
def es_fnd (ar ki lk : Nat → Int32) (F : Nat → Nat → Int32) (c : Nat) : Prop := ∀ i, i < c → F 0 i = nI (es_B (es_Le ar ki lk) i) ∧ F 1 i = nI (es_Le ar ki lk (es_B (es_Le ar ki lk) i)) ∧ F 2 i = es_Kd ar ki lk (es_B (es_Le ar ki lk) i) ∧ F 3 i = nI (es_Lo ar lk (es_B (es_Le ar ki lk) i))
theorem es_B_mono {Le : Nat → Nat} {c : Nat} (h : ∀ i, i + 1 < c → 0 < Le (es_B Le i)) : ∀ i j, i < j → j < c → es_B Le i < es_B Le j := by
  intro i j hij
  induction j with
  | zero => intro _; omega
  | succ j ih =>
    intro hj
    have h1 : es_B Le j < es_B Le (j + 1) := by
      have := h j hj
      show es_B Le j < es_B Le j + Le (es_B Le j)
      omega
    by_cases e : i = j
    · rw [e]; exact h1
    · have := ih (by omega) (by omega)
      omega
/-- how many tokens there are -/
def es_tn (Le : Nat → Nat) (c : Nat) : Nat := if 0 < c ∧ Le (es_B Le (c - 1)) = 0 then c - 1 else c
-- ===== what an edit scans anew =====
def es_go (stop : Nat → Bool) (Le Lo : Nat → Nat) (n : Nat) : Nat → Nat → Nat → Nat → Nat × Nat
  | 0, _, rd, sc => (rd, sc)
  | f + 1, b, rd, sc => if b < n ∧ stop b = false then (if Le b = 0 then (rd + Lo b, sc) else es_go stop Le Lo n f (b + Le b) (rd + Lo b) (sc + 1)) else (rd, sc)
def es_stop (B : Nat → Nat) (c pl ou cn b : Nat) : Bool := decide (pl + cn ≤ b) && (List.range c).any (fun i => B i + cn == b + ou)
theorem es_stop_iff {B : Nat → Nat} {c pl ou cn b : Nat} : es_stop B c pl ou cn b = true ↔ pl + cn ≤ b ∧ ∃ i, i < c ∧ B i + cn = b + ou := by
  unfold es_stop
  simp only [Bool.and_eq_true, decide_eq_true_eq, List.any_eq_true, List.mem_range, beq_iff_eq]
theorem es_go_end {stop : Nat → Bool} {Le Lo : Nat → Nat} {n f b rd sc : Nat} (h : ¬ (b < n ∧ stop b = false)) : es_go stop Le Lo n f b rd sc = (rd, sc) := by
  cases f with
  | zero => rfl
  | succ f => rw [es_go, if_neg h]
theorem es_go_fail {stop : Nat → Bool} {Le Lo : Nat → Nat} {n f b rd sc : Nat} (h : b < n) (h1 : stop b = false) (h2 : Le b = 0) (hf : n < f + b) : es_go stop Le Lo n f b rd sc = (rd + Lo b, sc) := by
  cases f with
  | zero => omega
  | succ f => rw [es_go, if_pos ⟨h, h1⟩, if_pos h2]
theorem es_go_step {stop : Nat → Bool} {Le Lo : Nat → Nat} {n f b rd sc : Nat} (h : b < n) (h1 : stop b = false) (h2 : ¬ Le b = 0) (hf : n < f + b) : es_go stop Le Lo n f b rd sc = es_go stop Le Lo n (f - 1) (b + Le b) (rd + Lo b) (sc + 1) ∧ n < f - 1 + (b + Le b) := by
  cases f with
  | zero => omega
  | succ f =>
    rw [es_go, if_pos ⟨h, h1⟩, if_neg h2]
    exact ⟨rfl, by omega⟩
/-- an edit: what stays of the text, in front of it and behind it -/
def es_chg (lk lk' : Nat → Int32) (n n' pl ou cn : Nat) : Prop := n ≤ 400 ∧ n' ≤ 400 ∧ pl + ou ≤ n ∧ n' + ou = n + cn ∧ (∀ j, n ≤ j → lk j = -1) ∧ (∀ j, n' ≤ j → lk' j = -1) ∧ (∀ j, j < pl → lk' j = lk j) ∧ ∀ j k, pl + ou ≤ j → k + ou = j + cn → lk' k = lk j
theorem es_end {lk : Nat → Int32} {n b : Nat} (hn : n ≤ 400) (h : ∀ j, n ≤ j → lk j = -1) : ∃ e, lk (b + e) = -1 ∧ e ≤ 400 ∧ e = n - b := ⟨n - b, h _ (by omega), by omega, rfl⟩
theorem es_pre {ar ki lk lk' : Nat → Int32} {n n' pl ou cn b : Nat} (h : es_chg lk lk' n n' pl ou cn) (hb : b + es_Lo ar lk b ≤ pl) : es_Lo ar lk' b = es_Lo ar lk b ∧ es_Le ar ki lk' b = es_Le ar ki lk b ∧ es_Kd ar ki lk' b = es_Kd ar ki lk b := by
  obtain ⟨h1, h2, h3, h4, h5, h6, h7, h8⟩ := h
  obtain ⟨e, he, hl, -⟩ := es_end (b := b) h1 h5
  exact es_loc he hl (fun k hk => (h7 _ (by omega)).symm)
theorem es_suf {ar ki lk lk' : Nat → Int32} {n n' pl ou cn b b' : Nat} (h : es_chg lk lk' n n' pl ou cn) (hb : pl + ou ≤ b) (hb' : b' + ou = b + cn) : es_Lo ar lk' b' = es_Lo ar lk b ∧ es_Le ar ki lk' b' = es_Le ar ki lk b ∧ es_Kd ar ki lk' b' = es_Kd ar ki lk b := by
  obtain ⟨h1, h2, h3, h4, h5, h6, h7, h8⟩ := h
  obtain ⟨e, he, hl, -⟩ := es_end (b := b) h1 h5
  exact es_loc he hl (fun k hk => (h8 _ _ (by omega) (by omega)).symm)
/-- ahead of the first that looked at the place nothing has changed -/
theorem es_B_pre {ar ki lk lk' : Nat → Int32} {n n' pl ou cn fi : Nat} (h : es_chg lk lk' n n' pl ou cn) (hf : ∀ i, i < fi → es_B (es_Le ar ki lk) i + es_Lo ar lk (es_B (es_Le ar ki lk) i) ≤ pl) : ∀ i, i ≤ fi → es_B (es_Le ar ki lk') i = es_B (es_Le ar ki lk) i := by
  intro i
  induction i with
  | zero => intro _; rw [es_B, es_B]
  | succ i ih =>
    intro hi
    rw [es_B, es_B, ih (by omega), (es_pre (ki := ki) h (hf i (by omega))).2.1]
theorem es_B_suf {ar ki lk lk' : Nat → Int32} {n n' pl ou cn m k : Nat} (h : es_chg lk lk' n n' pl ou cn) (hk : pl + ou ≤ es_B (es_Le ar ki lk) k) (hm : es_B (es_Le ar ki lk') m + ou = es_B (es_Le ar ki lk) k + cn) : ∀ j, es_B (es_Le ar ki lk') (m + j) + ou = es_B (es_Le ar ki lk) (k + j) + cn ∧ pl + ou ≤ es_B (es_Le ar ki lk) (k + j) := by
  intro j
  induction j with
  | zero => exact ⟨hm, hk⟩
  | succ j ih =>
    obtain ⟨h1, h2⟩ := ih
    have h3 := (es_suf (ar := ar) (ki := ki) h h2 h1).2.1
    rw [← Nat.add_assoc, ← Nat.add_assoc, es_B, es_B, h3]
    omega
/-- what came out of the first m is known; from there on the old ones stay, moved -/
theorem es_cnt_suf {ar ki lk lk' : Nat → Int32} {n n' pl ou cn m k c : Nat} (h : es_chg lk lk' n n' pl ou cn) (hc : es_cnt (es_Le ar ki lk) n c) (hk : k < c) (hb : pl + ou ≤ es_B (es_Le ar ki lk) k) (hm : es_B (es_Le ar ki lk') m + ou = es_B (es_Le ar ki lk) k + cn) (h1 : ∀ i, i < m → es_B (es_Le ar ki lk') i < n' ∧ 0 < es_Le ar ki lk' (es_B (es_Le ar ki lk') i)) : es_cnt (es_Le ar ki lk') n' (m + (c - k)) := by
  have hs := es_B_suf (ar := ar) (ki := ki) h hb hm
  have hle : ∀ j, es_Le ar ki lk' (es_B (es_Le ar ki lk') (m + j)) = es_Le ar ki lk (es_B (es_Le ar ki lk) (k + j)) := fun j => (es_suf (ar := ar) (ki := ki) h (hs j).2 (hs j).1).2.1
  have hn := h.2.2.2.1
  refine ⟨fun i hi => ?_, fun i hi => ?_, Or.inr ⟨by omega, ?_⟩⟩
  · rcases Nat.lt_or_ge i m with h2 | h2
    · exact (h1 i h2).1
    · have e := (hs (i - m)).1
      rw [show m + (i - m) = i by omega] at e
      have := hc.1 (k + (i - m)) (by omega)
      omega
  · rcases Nat.lt_or_ge i m with h2 | h2
    · exact (h1 i h2).2
    · have e := hle (i - m)
      rw [show m + (i - m) = i by omega] at e
      rw [e]
      exact hc.2.1 (k + (i - m)) (by omega)
  · rcases hc.2.2 with ⟨h2, h3⟩ | ⟨h2, h3 | h3⟩
    · omega
    · left
      have e := hle (c - 1 - k)
      rw [show m + (c - 1 - k) = m + (c - k) - 1 by omega, show k + (c - 1 - k) = c - 1 by omega] at e
      rw [e]; exact h3
    · right
      have e := (hs (c - k)).1
      rw [show k + (c - k) = c by omega, h3] at e
      omega
end
section
theorem es_at_lk {tx : Nat → Int32} {n j : Nat} (hj : j < 2 ^ 31) (hn : n < 2 ^ 31) : (if 0 ≤ nI j ∧ nI j < nI n then tx (nI j).toNatClampNeg else -1) = es_lk tx n j := by
  unfold es_lk
  rw [nI_clamp hj]
  by_cases h : j < n
  · rw [if_pos h, if_pos ⟨nI_pos' hj, nI_lt h hn⟩]
  · rw [if_neg h, if_neg (fun z => absurd ((nI_ltI hj hn).mp z.2) h)]
theorem es_q_st {ar lk : Nat → Int32} {b i : Nat} {x : Int32} (ha : es_ta ar) (hs : es_sy lk) (h : x = es_q ar (es_at lk b) i) (h1 : ¬ x = -1) : ∃ q : Nat, q < 20 ∧ x = nI q := by
  rw [h]; rw [h] at h1
  exact (es_q_ok ha (fun k => hs (b + k)) i).resolve_left h1
theorem es_lk_end {tx : Nat → Int32} {n j : Nat} (h : n ≤ j) : es_lk tx n j = -1 := if_neg (by omega)
theorem es_q_big {ar tx : Nat → Int32} {n b i : Nat} (hn : n ≤ 400) (h : 400 < i) : es_q ar (es_at (es_lk tx n) b) i = -1 := by
  have h1 := es_q_end (ar := ar) (g := es_at (es_lk tx n) b) (k := n - b) (es_lk_end (by omega)) (i - (n - b + 1))
  rwa [show n - b + 1 + (i - (n - b + 1)) = i by omega] at h1
theorem es_exit {ar ki lk : Nat → Int32} {b i le : Nat} {kd : Int32} (h : es_isL ar (es_at lk b) i) (hle : le = es_bl ar ki (es_at lk b) i) (hkd : kd = es_bk ar ki (es_at lk b) i) : i = es_Lo ar lk b ∧ le = es_Le ar ki lk b ∧ kd = es_Kd ar ki lk b := by
  have e := es_Lo_of h
  refine ⟨e.symm, ?_, ?_⟩
  · unfold es_Le; rw [e]; exact hle
  · unfold es_Kd; rw [e]; exact hkd
theorem es_bmv {b cn ou : Nat} (h : cn ≤ b + ou) : nI b - (nI cn - nI ou) = nI (b + ou - cn) := by
  have e : nI (b + ou - cn) + nI cn = nI b + nI ou := by
    rw [nI_add, nI_add]; congr 1; omega
  generalize nI (b + ou - cn) = x at e ⊢
  grind
theorem es_fnd_s {ar ki lk : Nat → Int32} {E : Nat → Nat → Int32} {m b : Nat} (h : es_fnd ar ki lk E m) (hb : b = es_B (es_Le ar ki lk) m) : es_fnd ar ki lk (es_row4 (upd (E 0) m (nI b)) (upd (E 1) m (nI (es_Le ar ki lk b))) (upd (E 2) m (es_Kd ar ki lk b)) (upd (E 3) m (nI (es_Lo ar lk b)))) (m + 1) := by
  intro i hi
  by_cases e : i = m
  · rw [e, hb]
    exact ⟨pk_us, pk_us, pk_us, pk_us⟩
  · obtain ⟨h1, h2, h3, h4⟩ := h i (by omega)
    exact ⟨(pk_un e).trans h1, (pk_un e).trans h2, (pk_un e).trans h3, (pk_un e).trans h4⟩
theorem es_fnd_le {ar ki lk : Nat → Int32} {F E : Nat → Nat → Int32} {m c : Nat} (h : es_fnd ar ki lk F c) (hm : m ≤ c) (he : ∀ a, a < 4 → ∀ j, j < m → E a j = F a j) : es_fnd ar ki lk E m := by
  intro i hi
  rw [he 0 (by omega) i hi, he 1 (by omega) i hi, he 2 (by omega) i hi, he 3 (by omega) i hi]
  exact h i (by omega)
theorem es_B_ge {Le : Nat → Nat} : ∀ m, (∀ i, i < m → 0 < Le (es_B Le i)) → m ≤ es_B Le m := by
  intro m
  induction m with
  | zero => intro _; exact Nat.zero_le _
  | succ m ih =>
    intro h
    have h1 := ih (fun i hi => h i (by omega))
    have h2 := h m (by omega)
    rw [es_B]; omega
theorem es_cnt_n {Le : Nat → Nat} {n c : Nat} (h : es_cnt Le n c) : c ≤ n := by
  rcases Nat.eq_zero_or_pos c with h0 | h0
  · omega
  · have h1 := es_B_ge (Le := Le) (c - 1) (fun i hi => h.2.1 i (by omega))
    have h2 := h.1 (c - 1) (by omega)
    omega
theorem es_end_cnt {Le : Nat → Nat} {n m : Nat} (hb : es_B Le m = n) (h : ∀ i, i < m → es_B Le i < n ∧ 0 < Le (es_B Le i)) : es_cnt Le n m := by
  refine ⟨fun i hi => (h i hi).1, fun i hi => (h i (by omega)).2, ?_⟩
  rcases Nat.eq_zero_or_pos m with h0 | h0
  · left
    rw [h0, es_B] at hb
    exact ⟨h0, hb.symm⟩
  · exact Or.inr ⟨h0, Or.inr hb⟩
theorem es_fail_cnt {Le : Nat → Nat} {n m : Nat} (hb : es_B Le m < n) (h0 : Le (es_B Le m) = 0) (h : ∀ i, i < m → es_B Le i < n ∧ 0 < Le (es_B Le i)) : es_cnt Le n (m + 1) := by
  refine ⟨fun i hi => ?_, fun i hi => (h i (by omega)).2, Or.inr ⟨by omega, Or.inl h0⟩⟩
  by_cases e : i = m
  · rw [e]; exact hb
  · exact (h i (by omega)).1
theorem es_fnd_mv {ar ki lk lk' : Nat → Int32} {E G u : Nat → Nat → Int32} {n n' pl ou cn m k c : Nat} (h : es_chg lk lk' n n' pl ou cn) (hG : es_fnd ar ki lk G c) (hE : es_fnd ar ki lk' E m) (hk : k ≤ c) (hu : es_mvd E G u m k (nI cn - nI ou) (c - k)) (hb : pl + ou ≤ es_B (es_Le ar ki lk) k) (hm : es_B (es_Le ar ki lk') m + ou = es_B (es_Le ar ki lk) k + cn) : es_fnd ar ki lk' u (m + (c - k)) := by
  intro i hi
  rcases Nat.lt_or_ge i m with h1 | h1
  · rw [hu.1 0 (by omega) i h1, hu.1 1 (by omega) i h1, hu.1 2 (by omega) i h1, hu.1 3 (by omega) i h1]
    exact hE i h1
  · obtain ⟨j, rfl⟩ : ∃ j, i = m + j := ⟨i - m, by omega⟩
    obtain ⟨e0, e1, e2, e3⟩ := hu.2 j (by omega)
    obtain ⟨g0, g1, g2, g3⟩ := hG (k + j) (by omega)
    obtain ⟨s1, s2⟩ := es_B_suf (ar := ar) (ki := ki) h hb hm j
    obtain ⟨t1, t2, t3⟩ := es_suf (ar := ar) (ki := ki) h s2 s1
    rw [e0, e1, e2, e3, g0, g1, g2, g3, t1, t2, t3, es_mv (by omega)]
    refine ⟨?_, rfl, rfl, rfl⟩
    congr 1
    omega
theorem es_syn {ar ki lk : Nat → Int32} {G : Nat → Nat → Int32} {n c i X : Nat} {bo : Int32} (hG : es_fnd ar ki lk G c) (hc : es_cnt (es_Le ar ki lk) n c) (hn : n ≤ 400) (e : bo = if 0 ≤ nI i ∧ nI i < nI c then G 0 (nI i).toNatClampNeg else -1) (hi : i ≤ c) (hX : X < 2 ^ 31) (h : bo = nI X) : i < c ∧ es_B (es_Le ar ki lk) i = X := by
  have hcn := es_cnt_n hc
  rcases Nat.lt_or_ge i c with h1 | h1
  · refine ⟨h1, ?_⟩
    rw [if_pos ⟨nI_pos' (by omega), nI_lt h1 (by omega)⟩, nI_clamp (by omega), (hG i h1).1] at e
    have h2 := hc.1 i h1
    exact (nI_eq (by omega) hX).mp (e.symm.trans h)
  · rw [if_neg (fun z => absurd ((nI_ltI (by omega) (by omega)).mp z.2) (by omega))] at e
    exact absurd (h.symm.trans e) (es_nnm hX)
theorem es_nsyn {ar ki lk : Nat → Int32} {G : Nat → Nat → Int32} {n c i X : Nat} {bo : Int32} (hG : es_fnd ar ki lk G c) (hc : es_cnt (es_Le ar ki lk) n c) (hn : n ≤ 400) (e : bo = if 0 ≤ nI i ∧ nI i < nI c then G 0 (nI i).toNatClampNeg else -1) (hX : X < 2 ^ 31) (h : ¬ bo = nI X) (hi : i < c) : es_B (es_Le ar ki lk) i ≠ X := fun z => by
  have hcn := es_cnt_n hc
  rw [if_pos ⟨nI_pos' (by omega), nI_lt hi (by omega)⟩, nI_clamp (by omega), (hG i hi).1, z] at e
  exact h e
/-- behind firstFrom: where no old one begins, none does -/
theorem es_nostop {ar ki lk : Nat → Int32} {G : Nat → Nat → Int32} {n c ok i pl ou cn b : Nat} {bo : Int32} (hG : es_fnd ar ki lk G c) (hc : es_cnt (es_Le ar ki lk) n c) (hn : n ≤ 400) (hb : b ≤ 400) (hcn : cn ≤ 16) (hou : ou ≤ 400) (hold : ∀ j, j < ok → es_B (es_Le ar ki lk) j < pl + ou ∨ es_B (es_Le ar ki lk) j + cn < b + ou) (hpl : pl + cn ≤ b)
    (hi : i ≤ c) (h3 : ∀ j, ok ≤ j → j < i → G 0 j < nI (b + ou - cn)) (h4 : i < c → nI (b + ou - cn) ≤ G 0 i) (e : bo = if 0 ≤ nI i ∧ nI i < nI c then G 0 (nI i).toNatClampNeg else -1) (h : ¬ bo = nI (b + ou - cn)) : es_stop (es_B (es_Le ar ki lk)) c pl ou cn b = false ∧ ∀ j, j < i → es_B (es_Le ar ki lk) j < pl + ou ∨ es_B (es_Le ar ki lk) j + cn < b + ou := by
  have hcc := es_cnt_n hc
  have key : ∀ j, j < i → es_B (es_Le ar ki lk) j < pl + ou ∨ es_B (es_Le ar ki lk) j + cn < b + ou := by
    intro j hj
    rcases Nat.lt_or_ge j ok with h5 | h5
    · exact hold j h5
    · right
      have h6 := h3 j h5 hj
      rw [(hG j (by omega)).1] at h6
      have h7 := hc.1 j (by omega)
      have h8 := (nI_ltI (by omega) (by omega)).mp h6
      omega
  refine ⟨?_, key⟩
  cases hs : es_stop (es_B (es_Le ar ki lk)) c pl ou cn b with
  | false => rfl
  | true =>
    exfalso
    obtain ⟨-, j, hj, hB⟩ := es_stop_iff.mp hs
    rcases Nat.lt_trichotomy j i with h5 | h5 | h5
    · rcases key j h5 with h6 | h6 <;> omega
    · subst h5
      exact es_nsyn hG hc hn e (by omega) h hj (by omega)
    · have h6 := es_B_mono hc.2.1 i j h5 hj
      have h7 := h4 (by omega)
      rw [(hG i (by omega)).1] at h7
      have h8 := hc.1 i (by omega)
      have h9 := (nI_leI (by omega) (by omega)).mp h7
      omega
theorem es_nostop1 {B : Nat → Nat} {c pl ou cn b : Nat} (h : b < pl + cn) : es_stop B c pl ou cn b = false := by
  cases hs : es_stop B c pl ou cn b with
  | false => rfl
  | true => have := (es_stop_iff.mp hs).1; omega
theorem es_nb {E : Nat → Nat → Int32} {m b L : Nat} {x y : Int32} : (if 0 < m + 1 then es_row4 (upd (E 0) m (nI b)) (upd (E 1) m (nI L)) (upd (E 2) m x) (upd (E 3) m y) 0 (m + 1 - 1) + es_row4 (upd (E 0) m (nI b)) (upd (E 1) m (nI L)) (upd (E 2) m x) (upd (E 3) m y) 1 (m + 1 - 1) else 0) = nI (b + L) := by
  rw [if_pos (Nat.succ_pos m), Nat.add_sub_cancel, ← nI_add]
  show upd (E 0) m (nI b) m + upd (E 1) m (nI L) m = _
  rw [pk_us, pk_us]
theorem es_nf {E : Nat → Nat → Int32} {w' : Nat → Int32} {m L : Nat} {x y : Int32} (hL : L < 2 ^ 31) : (0 < m + 1 ∧ es_row4 w' (upd (E 1) m (nI L)) (upd (E 2) m x) (upd (E 3) m y) 1 (m + 1 - 1) = 0) ↔ L = 0 := by
  rw [Nat.add_sub_cancel]
  show (0 < m + 1 ∧ upd (E 1) m (nI L) m = 0) ↔ L = 0
  rw [pk_us]
  exact ⟨fun h => (nI_eq hL (by omega)).mp (h.2.trans nI_0.symm), fun h => ⟨Nat.succ_pos m, by rw [h]; rfl⟩⟩
end
section
set_option maxHeartbeats 1000000 in
set_option maxRecDepth 100000 in
theorem lp_scanOne {p : Program} {l : Launch} {e : Env} {R : Room} {s : State} {m : MethodId} {args : Array Value} {below : List Frame} {meth : Method} {c : Code} {Q : State → Prop} {A : Nat → Prop} {H0 : Heap} (D : va_G) (cI : ClassId) (h : Nat) (tb : Nat) (a : Nat) (k : Nat) (ar : Nat → Int32) (ki : Nat → Int32) (t : Nat) (r : Nat) (tx : Nat → Int32) (n : Nat) (g : Nat) (f : Nat) (b0 : Nat) (b1 : Nat) (b2 : Nat) (b3 : Nat) (F : Nat → Nat → Int32) (mm : Nat) (b : Nat) (rd : Nat) (sc : Nat) (ed : Int32) (hx : p.tables.exec = Jvm.exec) (hb : c.code = cX3_scanOne) (hml : c.maxLocals = 6) (hown : s.vm.findClass RX3 = some m.cls) (hw : ∀ w ∈ es_T, w.before args s = true) (hK : es_K D cI s) (hRm : 2 ≤ R.frames ∧ 42 ≤ R.locals) (hA : ∀ q : Nat, H0.size ≤ q → A q) (hta : es_ta ar) (hsy : es_sy (es_lk tx n)) (hn : n ≤ 400) (hbn : b < n) (hm : mm < 400) (hex : ∀ (L : Nat) (le : Nat) (kd : Int32), (L = es_Lo ar (es_lk tx n) b) → (le = es_Le ar ki (es_lk tx n) b) → (kd = es_Kd ar ki (es_lk tx n) b) → ∀ (H : Heap) (locs : List Loc), va_P D vwCl [(h, .inr (3, [.ref tb, .ref t, .ref g, .ref f, .int (nI rd), .int (nI sc), .int ed])), (tb, .inr (1, [.ref a, .ref k])), (a, .inl (cI, 200, .inl ar)), (k, .inl (cI, 20, .inl ki)), (t, .inr (2, [.ref r, .int (nI n)])), (r, .inl (cI, 400, .inl tx)), (f, .inr (0, [.ref b0, .ref b1, .ref b2, .ref b3, .int (nI mm)])), (b0, .inl (cI, 400, .inl (F 0))), (b1, .inl (cI, 400, .inl (F 1))), (b2, .inl (cI, 400, .inl (F 2))), (b3, .inl (cI, 400, .inl (F 3)))] H → va_D A [(h, .inr (3, [.ref tb, .ref t, .ref g, .ref f, .int (nI rd), .int (nI sc), .int ed])), (tb, .inr (1, [.ref a, .ref k])), (a, .inl (cI, 200, .inl ar)), (k, .inl (cI, 20, .inl ki)), (t, .inr (2, [.ref r, .int (nI n)])), (r, .inl (cI, 400, .inl tx)), (f, .inr (0, [.ref b0, .ref b1, .ref b2, .ref b3, .int (nI mm)])), (b0, .inl (cI, 400, .inl (F 0))), (b1, .inl (cI, 400, .inl (F 1))), (b2, .inl (cI, 400, .inl (F 2))), (b3, .inl (cI, 400, .inl (F 3)))] → va_S A H0 H locs → ∀ (ls : Array Slot), lv_has ls 6 [(0, .ref h), (1, .int (nI b)), (3, .int (nI L)), (4, .int (nI le)), (5, .int kd)] →  W p l e R s m args below meth c H locs 0 0 Q (F0 m 72 ls [])) : ∀ (N : Nat) (i : Nat) (x : Int32) (le : Nat) (kd : Int32), (i ≤ 401) → (x = es_q ar (es_at (es_lk tx n) b) i) → (∀ j, j < i → es_q ar (es_at (es_lk tx n) b) j ≠ -1) → (le = es_bl ar ki (es_at (es_lk tx n) b) i) → (kd = es_bk ar ki (es_at (es_lk tx n) b) i) → (402 - i) < N → ∀ (H : Heap) (locs : List Loc), va_P D vwCl [(h, .inr (3, [.ref tb, .ref t, .ref g, .ref f, .int (nI rd), .int (nI sc), .int ed])), (tb, .inr (1, [.ref a, .ref k])), (a, .inl (cI, 200, .inl ar)), (k, .inl (cI, 20, .inl ki)), (t, .inr (2, [.ref r, .int (nI n)])), (r, .inl (cI, 400, .inl tx)), (f, .inr (0, [.ref b0, .ref b1, .ref b2, .ref b3, .int (nI mm)])), (b0, .inl (cI, 400, .inl (F 0))), (b1, .inl (cI, 400, .inl (F 1))), (b2, .inl (cI, 400, .inl (F 2))), (b3, .inl (cI, 400, .inl (F 3)))] H → va_D A [(h, .inr (3, [.ref tb, .ref t, .ref g, .ref f, .int (nI rd), .int (nI sc), .int ed])), (tb, .inr (1, [.ref a, .ref k])), (a, .inl (cI, 200, .inl ar)), (k, .inl (cI, 20, .inl ki)), (t, .inr (2, [.ref r, .int (nI n)])), (r, .inl (cI, 400, .inl tx)), (f, .inr (0, [.ref b0, .ref b1, .ref b2, .ref b3, .int (nI mm)])), (b0, .inl (cI, 400, .inl (F 0))), (b1, .inl (cI, 400, .inl (F 1))), (b2, .inl (cI, 400, .inl (F 2))), (b3, .inl (cI, 400, .inl (F 3)))] → va_S A H0 H locs → ∀ (ls : Array Slot), lv_has ls 6 [(0, .ref h), (1, .int (nI b)), (2, .int x), (3, .int (nI i)), (4, .int (nI le)), (5, .int kd)] →  W p l e R s m args below meth c H locs 0 0 Q (F0 m 10 ls []) := by
  intro N
  induction N with
  | zero =>
    intro i x le kd hi hx_ hne hle hkd hN
    exact absurd hN (Nat.not_lt_zero _)
  | succ N ih =>
    intro i x le kd hi hx_ hne hle hkd hN H locs hP hD hS ls hl
    refine lv_iload_n hx hb dX3_scanOne_10 rfl (lv_at hl 2 rfl) ?_
    refine lv_iconst (v := (-1)) hx hb dX3_scanOne_11 (by decide) ?_
    refine lv_icmp_eq (tgt := 72) hx hb dX3_scanOne_12 (by decide) (fun c_12 => ?_) (fun c_12 => ?_)
    ·
      exact hex i le kd (es_exit ⟨(by first | exact hx_.symm.trans c_12 | exact absurd (hx_.trans (es_q_big hn (by omega))) c_12), hne⟩ hle hkd).1 (es_exit ⟨(by first | exact hx_.symm.trans c_12 | exact absurd (hx_.trans (es_q_big hn (by omega))) c_12), hne⟩ hle hkd).2.1 (es_exit ⟨(by first | exact hx_.symm.trans c_12 | exact absurd (hx_.trans (es_q_big hn (by omega))) c_12), hne⟩ hle hkd).2.2  H locs (hP.sub [0, 1, 2, 3, 4, 5, 6, 7, 8, 9, 10] rfl) (hD.sub [0, 1, 2, 3, 4, 5, 6, 7, 8, 9, 10] (by decide) rfl) hS ls (lv_sub hl [0, 1, 3, 4, 5] rfl)
    ·
      refine lv_iload_n hx hb dX3_scanOne_15 rfl (lv_at hl 3 rfl) ?_
      refine lv_sipush (v := nI 400) hx hb dX3_scanOne_16 (by decide) ?_
      refine lv_icmp_gt (tgt := 72) hx hb dX3_scanOne_19 (by decide) (fun c_19 => ?_) (fun c_19 => ?_)
      ·
        have c_19 := (nI_ltI (by omega) (by omega)).mp c_19
        exact hex i le kd (es_exit ⟨(by first | exact hx_.symm.trans c_12 | exact absurd (hx_.trans (es_q_big hn (by omega))) c_12), hne⟩ hle hkd).1 (es_exit ⟨(by first | exact hx_.symm.trans c_12 | exact absurd (hx_.trans (es_q_big hn (by omega))) c_12), hne⟩ hle hkd).2.1 (es_exit ⟨(by first | exact hx_.symm.trans c_12 | exact absurd (hx_.trans (es_q_big hn (by omega))) c_12), hne⟩ hle hkd).2.2  H locs (hP.sub [0, 1, 2, 3, 4, 5, 6, 7, 8, 9, 10] rfl) (hD.sub [0, 1, 2, 3, 4, 5, 6, 7, 8, 9, 10] (by decide) rfl) hS ls (lv_sub hl [0, 1, 3, 4, 5] rfl)
      ·
        have c_19 := (mt (nI_ltI (by omega) (by omega)).mpr c_19)
        obtain ⟨q0, hq0, rfl⟩ := es_q_st hta hsy hx_ c_12
        refine lv_aload_n hx hb dX3_scanOne_22 rfl (lv_at hl 0 rfl) ?_
        refine va_get (D := D) (ci := 3) (v := .ref tb) (C := RX3) (T := TX3) (N := 7) hx hb hw iwX3 hown hK.1 hP 0 rfl rfl 0 (by decide) (hw _ xw_141) (fun _ h9 => h9) rfl dX3_scanOne_23 ?_
        refine lv_iload_n hx hb dX3_scanOne_26 rfl (lv_at hl 2 rfl) ?_
        refine lv_aload_n hx hb dX3_scanOne_27 rfl (lv_at hl 0 rfl) ?_
        refine va_get (D := D) (ci := 3) (v := .ref t) (C := RX3) (T := TX3) (N := 7) hx hb hw iwX3 hown hK.1 hP 0 rfl rfl 1 (by decide) (hw _ xw_136) (fun _ h9 => h9) rfl dX3_scanOne_28 ?_
        refine lv_iload_n hx hb dX3_scanOne_31 rfl (lv_at hl 1 rfl) ?_
        refine lv_iload_n hx hb dX3_scanOne_32 rfl (lv_at hl 3 rfl) ?_
        refine lv_iadd hx hb dX3_scanOne_33 ?_
        refine es_top (y := nI (b + i)) (nI_add _ _) ?_
        refine vp_callSi (va_Run.run (va_runV (As := [.int (nI (b + i))]) (rest := [.int (nI q0), .ref tb]) ⟨hx, hb, hml, hown, hw⟩ (c_X2_at l D cI t r tx n (nI (b + i)) (by first | assumption | omega)) (cwV 1 hw (es_v xw_235 xw_236 xw_237 xw_238 xw_125) rfl rfl rfl kv_X2_at ⟨Nat.le_trans (Nat.le_of_ble_eq_true rfl) hRm.1, Nat.le_trans (Nat.le_of_ble_eq_true rfl) hRm.2⟩) (es_RV hK (hP.sub (ws' := [(t, .inr (2, [.ref r, .int (nI n)])), (r, .inl (cI, 400, .inl tx))]) [4, 5] rfl) rfl rfl) rfl rfl hl.1 rfl (lv_room (Nat.le_of_ble_eq_true rfl)) dX3_scanOne_34 ⟨(Nat.zero_le _), (Nat.zero_le _)⟩)) (fun r_1 er_1 => ?_)
        obtain rfl : r_1 = if 0 ≤ (nI (b + i)) ∧ (nI (b + i)) < nI n then tx (nI (b + i)).toNatClampNeg else -1 := er_1
        refine es_top (y := es_lk tx n (b + i)) (es_at_lk (by omega) (by omega)) ?_
        refine vp_callSi (va_Run.run (va_runV (As := [.int (nI q0), .int (es_lk tx n (b + i))]) (rest := []) ⟨hx, hb, hml, hown, hw⟩ (c_X1_next l D cI tb a k ar ki q0 (es_lk tx n (b + i)) (by first | assumption | omega) (hsy _)) (cwV 2 hw (es_v xw_239 xw_240 xw_241 xw_242 xw_111) rfl rfl rfl kv_X1_next ⟨Nat.le_trans (Nat.le_of_ble_eq_true rfl) hRm.1, Nat.le_trans (Nat.le_of_ble_eq_true rfl) hRm.2⟩) (es_RV hK (hP.sub (ws' := [(tb, .inr (1, [.ref a, .ref k])), (a, .inl (cI, 200, .inl ar)), (k, .inl (cI, 20, .inl ki))]) [1, 2, 3] rfl) rfl rfl) rfl rfl hl.1 rfl (lv_room (Nat.le_of_ble_eq_true rfl)) dX3_scanOne_37 ⟨(Nat.zero_le _), (Nat.zero_le _)⟩)) (fun r_2 er_2 => ?_)
        obtain rfl : r_2 = if (es_lk tx n (b + i)) = -1 then -1 else ar (10 * q0 + (es_lk tx n (b + i)).toNatClampNeg) := er_2
        refine es_top (y := es_q ar (es_at (es_lk tx n) b) (i + 1)) (es_q_s hq0 hx_) ?_
        refine lv_istore_n (lv' := [(2, .int (es_q ar (es_at (es_lk tx n) b) (i + 1))), (0, .ref h), (1, .int (nI b)), (3, .int (nI i)), (4, .int (nI le)), (5, .int kd)]) hx hb dX3_scanOne_40 rfl hl (by decide) rfl (fun ls hl => ?_)
        refine lv_iinc (v := nI (i + 1)) (lv' := [(3, .int (nI (i + 1))), (2, .int (es_q ar (es_at (es_lk tx n) b) (i + 1))), (0, .ref h), (1, .int (nI b)), (4, .int (nI le)), (5, .int kd)]) hx hb dX3_scanOne_41 hl (k := 3) rfl (nI_1 _) (by decide) rfl (fun ls hl => ?_)
        refine lv_aload_n hx hb dX3_scanOne_44 rfl (lv_at hl 2 rfl) ?_
        refine va_get (D := D) (ci := 3) (v := .ref tb) (C := RX3) (T := TX3) (N := 7) hx hb hw iwX3 hown hK.1 hP 0 rfl rfl 0 (by decide) (hw _ xw_141) (fun _ h9 => h9) rfl dX3_scanOne_45 ?_
        refine lv_iload_n hx hb dX3_scanOne_48 rfl (lv_at hl 1 rfl) ?_
        refine vp_callSi (va_Run.run (va_runV (As := [.int (es_q ar (es_at (es_lk tx n) b) (i + 1))]) (rest := []) ⟨hx, hb, hml, hown, hw⟩ (c_X1_kindOf l D cI tb a k ar ki (es_q ar (es_at (es_lk tx n) b) (i + 1)) (es_q_ok hta (fun k => hsy _) _)) (cwV 1 hw (es_v xw_243 xw_244 xw_245 xw_246 xw_111) rfl rfl rfl kv_X1_kindOf ⟨Nat.le_trans (Nat.le_of_ble_eq_true rfl) hRm.1, Nat.le_trans (Nat.le_of_ble_eq_true rfl) hRm.2⟩) (es_RV hK (hP.sub (ws' := [(tb, .inr (1, [.ref a, .ref k])), (a, .inl (cI, 200, .inl ar)), (k, .inl (cI, 20, .inl ki))]) [1, 2, 3] rfl) rfl rfl) rfl rfl hl.1 rfl (lv_room (Nat.le_of_ble_eq_true rfl)) dX3_scanOne_49 ⟨(Nat.zero_le _), (Nat.zero_le _)⟩)) (fun r_3 er_3 => ?_)
        obtain rfl : r_3 = if (es_q ar (es_at (es_lk tx n) b) (i + 1)) = -1 then -1 else ki (es_q ar (es_at (es_lk tx n) b) (i + 1)).toNatClampNeg := er_3
        refine es_top (y := es_kd ki (es_q ar (es_at (es_lk tx n) b) (i + 1))) rfl ?_
        refine lv_iconst (v := (-1)) hx hb dX3_scanOne_52 (by decide) ?_
        refine lv_icmp_eq (tgt := 10) hx hb dX3_scanOne_53 (by decide) (fun c_53 => ?_) (fun c_53 => ?_)
        ·
          exact ih (i + 1) (es_q ar (es_at (es_lk tx n) b) (i + 1)) le kd (by first | assumption | omega) rfl (lt_s hne (fun z => c_12 (hx_.trans z))) (hle.trans (es_bl_s0 c_53).1.symm) (hkd.trans (es_bl_s0 c_53).2.symm) (by omega) H locs (hP.sub [0, 1, 2, 3, 4, 5, 6, 7, 8, 9, 10] rfl) (hD.sub [0, 1, 2, 3, 4, 5, 6, 7, 8, 9, 10] (by decide) rfl) hS ls (lv_sub hl [2, 3, 1, 0, 4, 5] rfl)
        ·
          refine lv_iload_n hx hb dX3_scanOne_56 rfl (lv_at hl 0 rfl) ?_
          refine lv_istore (lv' := [(4, .int (nI (i + 1))), (3, .int (nI (i + 1))), (2, .int (es_q ar (es_at (es_lk tx n) b) (i + 1))), (0, .ref h), (1, .int (nI b)), (5, .int kd)]) hx hb dX3_scanOne_57 hl (by decide) rfl (fun ls hl => ?_)
          refine lv_aload_n hx hb dX3_scanOne_59 rfl (lv_at hl 3 rfl) ?_
          refine va_get (D := D) (ci := 3) (v := .ref tb) (C := RX3) (T := TX3) (N := 7) hx hb hw iwX3 hown hK.1 hP 0 rfl rfl 0 (by decide) (hw _ xw_141) (fun _ h9 => h9) rfl dX3_scanOne_60 ?_
          refine lv_iload_n hx hb dX3_scanOne_63 rfl (lv_at hl 2 rfl) ?_
          refine vp_callSi (va_Run.run (va_runV (As := [.int (es_q ar (es_at (es_lk tx n) b) (i + 1))]) (rest := []) ⟨hx, hb, hml, hown, hw⟩ (c_X1_kindOf l D cI tb a k ar ki (es_q ar (es_at (es_lk tx n) b) (i + 1)) (es_q_ok hta (fun k => hsy _) _)) (cwV 1 hw (es_v xw_243 xw_244 xw_245 xw_246 xw_111) rfl rfl rfl kv_X1_kindOf ⟨Nat.le_trans (Nat.le_of_ble_eq_true rfl) hRm.1, Nat.le_trans (Nat.le_of_ble_eq_true rfl) hRm.2⟩) (es_RV hK (hP.sub (ws' := [(tb, .inr (1, [.ref a, .ref k])), (a, .inl (cI, 200, .inl ar)), (k, .inl (cI, 20, .inl ki))]) [1, 2, 3] rfl) rfl rfl) rfl rfl hl.1 rfl (lv_room (Nat.le_of_ble_eq_true rfl)) dX3_scanOne_64 ⟨(Nat.zero_le _), (Nat.zero_le _)⟩)) (fun r_4 er_4 => ?_)
          obtain rfl : r_4 = if (es_q ar (es_at (es_lk tx n) b) (i + 1)) = -1 then -1 else ki (es_q ar (es_at (es_lk tx n) b) (i + 1)).toNatClampNeg := er_4
          refine es_top (y := es_kd ki (es_q ar (es_at (es_lk tx n) b) (i + 1))) rfl ?_
          refine lv_istore (lv' := [(5, .int (es_kd ki (es_q ar (es_at (es_lk tx n) b) (i + 1)))), (4, .int (nI (i + 1))), (3, .int (nI (i + 1))), (2, .int (es_q ar (es_at (es_lk tx n) b) (i + 1))), (0, .ref h), (1, .int (nI b))]) hx hb dX3_scanOne_67 hl (by decide) rfl (fun ls hl => ?_)
          refine lv_goto (tgt := 10) hx hb dX3_scanOne_69 (by decide) ?_
          exact ih (i + 1) (es_q ar (es_at (es_lk tx n) b) (i + 1)) (i + 1) (es_kd ki (es_q ar (es_at (es_lk tx n) b) (i + 1))) (by first | assumption | omega) rfl (lt_s hne (fun z => c_12 (hx_.trans z))) (es_bl_s1 c_53).1.symm (es_bl_s1 c_53).2.symm (by omega) H locs (hP.sub [0, 1, 2, 3, 4, 5, 6, 7, 8, 9, 10] rfl) (hD.sub [0, 1, 2, 3, 4, 5, 6, 7, 8, 9, 10] (by decide) rfl) hS ls (lv_sub hl [4, 5, 3, 2, 1, 0] rfl)
set_option maxHeartbeats 1000000 in
set_option maxRecDepth 100000 in
/-- X3.scanOne  -/
theorem c_X3_scanOne (l : Launch) (D : va_G) (cI : ClassId) (sz : Nat) (h : Nat) (tb : Nat) (a : Nat) (k : Nat) (ar : Nat → Int32) (ki : Nat → Int32) (t : Nat) (r : Nat) (tx : Nat → Int32) (n : Nat) (g : Nat) (f : Nat) (b0 : Nat) (b1 : Nat) (b2 : Nat) (b3 : Nat) (F : Nat → Nat → Int32) (mm : Nat) (b : Nat) (rd : Nat) (sc : Nat) (ed : Int32) (hta : es_ta ar) (hsy : es_sy (es_lk tx n)) (hn : n ≤ 400) (hbn : b < n) (hm : mm < 400) : Met l yX3_scanOne (Cond.code yX3_scanOne cX3_scanOne 6 none :: es_T) { frames := 2, cells := 0, slots := 0, locals := 42 } (va_Pc [.ref h, .int (nI b)] (es_W D cI sz [(h, .inr (3, [.ref tb, .ref t, .ref g, .ref f, .int (nI rd), .int (nI sc), .int ed])), (tb, .inr (1, [.ref a, .ref k])), (a, .inl (cI, 200, .inl ar)), (k, .inl (cI, 20, .inl ki)), (t, .inr (2, [.ref r, .int (nI n)])), (r, .inl (cI, 400, .inl tx)), (f, .inr (0, [.ref b0, .ref b1, .ref b2, .ref b3, .int (nI mm)])), (b0, .inl (cI, 400, .inl (F 0))), (b1, .inl (cI, 400, .inl (F 1))), (b2, .inl (cI, 400, .inl (F 2))), (b3, .inl (cI, 400, .inl (F 3)))])) (va_Qv (fun u => u = if 0 < es_Le ar ki (es_lk tx n) b then sc + 1 else sc) (fun (u : Nat) zt => va_P D vwCl [(h, .inr (3, [.ref tb, .ref t, .ref g, .ref f, .int (nI (rd + es_Lo ar (es_lk tx n) b)), .int (nI u), .int ed])), (tb, .inr (1, [.ref a, .ref k])), (a, .inl (cI, 200, .inl ar)), (k, .inl (cI, 20, .inl ki)), (t, .inr (2, [.ref r, .int (nI n)])), (r, .inl (cI, 400, .inl tx)), (f, .inr (0, [.ref b0, .ref b1, .ref b2, .ref b3, .int (nI (mm + 1))])), (b0, .inl (cI, 400, .inl (upd (F 0) mm (nI b)))), (b1, .inl (cI, 400, .inl (upd (F 1) mm (nI (es_Le ar ki (es_lk tx n) b))))), (b2, .inl (cI, 400, .inl (upd (F 2) mm (es_Kd ar ki (es_lk tx n) b)))), (b3, .inl (cI, 400, .inl (upd (F 3) mm (nI (es_Lo ar (es_lk tx n) b)))))] zt.heap ∧ va_D (va_A [(h, .inr (3, [.ref tb, .ref t, .ref g, .ref f, .int (nI rd), .int (nI sc), .int ed])), (tb, .inr (1, [.ref a, .ref k])), (a, .inl (cI, 200, .inl ar)), (k, .inl (cI, 20, .inl ki)), (t, .inr (2, [.ref r, .int (nI n)])), (r, .inl (cI, 400, .inl tx)), (f, .inr (0, [.ref b0, .ref b1, .ref b2, .ref b3, .int (nI mm)])), (b0, .inl (cI, 400, .inl (F 0))), (b1, .inl (cI, 400, .inl (F 1))), (b2, .inl (cI, 400, .inl (F 2))), (b3, .inl (cI, 400, .inl (F 3)))] sz) [(h, .inr (3, [.ref tb, .ref t, .ref g, .ref f, .int (nI (rd + es_Lo ar (es_lk tx n) b)), .int (nI u), .int ed])), (tb, .inr (1, [.ref a, .ref k])), (a, .inl (cI, 200, .inl ar)), (k, .inl (cI, 20, .inl ki)), (t, .inr (2, [.ref r, .int (nI n)])), (r, .inl (cI, 400, .inl tx)), (f, .inr (0, [.ref b0, .ref b1, .ref b2, .ref b3, .int (nI (mm + 1))])), (b0, .inl (cI, 400, .inl (upd (F 0) mm (nI b)))), (b1, .inl (cI, 400, .inl (upd (F 1) mm (nI (es_Le ar ki (es_lk tx n) b))))), (b2, .inl (cI, 400, .inl (upd (F 2) mm (es_Kd ar ki (es_lk tx n) b)))), (b3, .inl (cI, 400, .inl (upd (F 3) mm (nI (es_Lo ar (es_lk tx n) b)))))]) (va_A [(h, .inr (3, [.ref tb, .ref t, .ref g, .ref f, .int (nI rd), .int (nI sc), .int ed])), (tb, .inr (1, [.ref a, .ref k])), (a, .inl (cI, 200, .inl ar)), (k, .inl (cI, 20, .inl ki)), (t, .inr (2, [.ref r, .int (nI n)])), (r, .inl (cI, 400, .inl tx)), (f, .inr (0, [.ref b0, .ref b1, .ref b2, .ref b3, .int (nI mm)])), (b0, .inl (cI, 400, .inl (F 0))), (b1, .inl (cI, 400, .inl (F 1))), (b2, .inl (cI, 400, .inl (F 2))), (b3, .inl (cI, 400, .inl (F 3)))] sz)) 0 0 (va_A [(h, .inr (3, [.ref tb, .ref t, .ref g, .ref f, .int (nI rd), .int (nI sc), .int ed])), (tb, .inr (1, [.ref a, .ref k])), (a, .inl (cI, 200, .inl ar)), (k, .inl (cI, 20, .inl ki)), (t, .inr (2, [.ref r, .int (nI n)])), (r, .inl (cI, 400, .inl tx)), (f, .inr (0, [.ref b0, .ref b1, .ref b2, .ref b3, .int (nI mm)])), (b0, .inl (cI, 400, .inl (F 0))), (b1, .inl (cI, 400, .inl (F 1))), (b2, .inl (cI, 400, .inl (F 2))), (b3, .inl (cI, 400, .inl (F 3)))] sz) := by
  refine Met.ofW (cc := cX3_scanOne) (maxL := 6) (ret := none) (by decide) rfl ?_
  intro p e s m args below meth c s₁ B hml hv
  obtain ⟨rfl, hsz, hP, hK, hD0⟩ := hv
  have hx := B.exec
  have hb := B.bytes
  have hr := B.returns
  have hts := atoms_spec (ws := (Cond.code yX3_scanOne cX3_scanOne 6 none :: es_T)) B.pre
  have hw : ∀ w ∈ es_T, w.before _ s = true := fun w h => hts w (List.mem_cons_of_mem _ h)
  have hown : s.vm.findClass RX3 = some m.cls := findClass_of_methodNamed B.named
  have hlocks := B.notSynchronized
  have hRm : 2 ≤ (headSpec (Cond.code yX3_scanOne cX3_scanOne 6 none :: es_T) { frames := 2, cells := 0, slots := 0, locals := 42 }).room.frames ∧ 42 ≤ (headSpec (Cond.code yX3_scanOne cX3_scanOne 6 none :: es_T) { frames := 2, cells := 0, slots := 0, locals := 42 }).room.locals := ⟨Nat.le_refl _, Nat.le_refl _⟩
  have hRc : 0 ≤ (headSpec (Cond.code yX3_scanOne cX3_scanOne 6 none :: es_T) { frames := 2, cells := 0, slots := 0, locals := 42 }).room.cells ∧ 0 ≤ (headSpec (Cond.code yX3_scanOne cX3_scanOne 6 none :: es_T) { frames := 2, cells := 0, slots := 0, locals := 42 }).room.slots := ⟨Nat.le_refl _, Nat.le_refl _⟩
  subst hsz
  have hD := hD0.self (sz := s.heap.size)
  generalize hAe : va_A [(h, .inr (3, [.ref tb, .ref t, .ref g, .ref f, .int (nI rd), .int (nI sc), .int ed])), (tb, .inr (1, [.ref a, .ref k])), (a, .inl (cI, 200, .inl ar)), (k, .inl (cI, 20, .inl ki)), (t, .inr (2, [.ref r, .int (nI n)])), (r, .inl (cI, 400, .inl tx)), (f, .inr (0, [.ref b0, .ref b1, .ref b2, .ref b3, .int (nI mm)])), (b0, .inl (cI, 400, .inl (F 0))), (b1, .inl (cI, 400, .inl (F 1))), (b2, .inl (cI, 400, .inl (F 2))), (b3, .inl (cI, 400, .inl (F 3)))] s.heap.size = A at hD ⊢
  have hA : ∀ q : Nat, s.heap.size ≤ q → A q := fun q h => by rw [← hAe]; exact Or.inr h
  have hS : va_S A s.heap s.heap [] := va_S.rf
  have hl := lv_entry ([.ref h, .int (nI b)]) (n := 6) (Nat.le_of_ble_eq_true rfl)
  rw [lg_entry_eq]
  generalize (lg_sl ([.ref h, .int (nI b)]) ++ List.replicate (6 - (lg_sl ([.ref h, .int (nI b)])).length) Slot.unset).toArray = ls at hl ⊢
  have hl : lv_has ls 6 [(0, .ref h), (1, .int (nI b))] := hl
  refine lv_iconst (v := nI 0) hx hb dX3_scanOne_0 (by decide) ?_
  refine lv_istore_n (lv' := [(2, .int (nI 0)), (0, .ref h), (1, .int (nI b))]) hx hb dX3_scanOne_1 rfl hl (by decide) rfl (fun ls hl => ?_)
  refine lv_iconst (v := nI 0) hx hb dX3_scanOne_2 (by decide) ?_
  refine lv_istore_n (lv' := [(3, .int (nI 0)), (2, .int (nI 0)), (0, .ref h), (1, .int (nI b))]) hx hb dX3_scanOne_3 rfl hl (by decide) rfl (fun ls hl => ?_)
  refine lv_iconst (v := nI 0) hx hb dX3_scanOne_4 (by decide) ?_
  refine lv_istore (lv' := [(4, .int (nI 0)), (3, .int (nI 0)), (2, .int (nI 0)), (0, .ref h), (1, .int (nI b))]) hx hb dX3_scanOne_5 hl (by decide) rfl (fun ls hl => ?_)
  refine lv_iconst (v := (-1)) hx hb dX3_scanOne_7 (by decide) ?_
  refine lv_istore (lv' := [(5, .int (-1)), (4, .int (nI 0)), (3, .int (nI 0)), (2, .int (nI 0)), (0, .ref h), (1, .int (nI b))]) hx hb dX3_scanOne_8 hl (by decide) rfl (fun ls hl => ?_)
  refine lp_scanOne D cI h tb a k ar ki t r tx n g f b0 b1 b2 b3 F mm b rd sc ed hx hb hml hown hw hK ⟨Nat.le_trans (Nat.le_of_ble_eq_true rfl) hRm.1, Nat.le_trans (Nat.le_of_ble_eq_true rfl) hRm.2⟩ hA (by first | assumption | omega) (by first | assumption | omega) (by first | assumption | omega) (by first | assumption | omega) (by first | assumption | omega) (fun L le kd hL hle hkd H locs hP hD hS ls hl => ?_) ((402 - 0) + 1) 0 (nI 0) 0 (-1) (Nat.zero_le _) rfl (fun j h => absurd h (Nat.not_lt_zero _)) rfl rfl (Nat.lt_succ_self _) s.heap [] (hP.sub [0, 1, 2, 3, 4, 5, 6, 7, 8, 9, 10] rfl) (hD.sub [0, 1, 2, 3, 4, 5, 6, 7, 8, 9, 10] (by decide) rfl) hS ls (lv_sub hl [4, 5, 3, 2, 1, 0] rfl)
  subst hL
  subst hle
  subst hkd
  have hLe := es_Le_lt (ar := ar) (ki := ki) (lk := es_lk tx n) (b := b) (e := n - b) (es_lk_end (by omega)) (by omega)
  refine lv_aload_n hx hb dX3_scanOne_72 rfl (lv_at hl 0 rfl) ?_
  refine va_get (D := D) (ci := 3) (v := .ref f) (C := RX3) (T := TX3) (N := 7) hx hb hw iwX3 hown hK.1 hP 0 rfl rfl 3 (by decide) (hw _ xw_210) (fun _ h9 => h9) rfl dX3_scanOne_73 ?_
  refine lv_iload_n hx hb dX3_scanOne_76 rfl (lv_at hl 1 rfl) ?_
  refine lv_iload hx hb dX3_scanOne_77 (lv_at hl 3 rfl) ?_
  refine lv_iload hx hb dX3_scanOne_79 (lv_at hl 4 rfl) ?_
  refine lv_iload_n hx hb dX3_scanOne_81 rfl (lv_at hl 2 rfl) ?_
  refine es_cv (wr := [(h, .inr (3, [.ref tb, .ref t, .ref g, .ref f, .int (nI rd), .int (nI sc), .int ed])), (tb, .inr (1, [.ref a, .ref k])), (a, .inl (cI, 200, .inl ar)), (k, .inl (cI, 20, .inl ki)), (t, .inr (2, [.ref r, .int (nI n)])), (r, .inl (cI, 400, .inl tx))]) (va_runV (As := [.int (nI b), .int (nI (es_Le ar ki (es_lk tx n) b)), .int (es_Kd ar ki (es_lk tx n) b), .int (nI (es_Lo ar (es_lk tx n) b))]) (rest := []) ⟨hx, hb, hml, hown, hw⟩ (c_X0_add l D cI H.size f b0 b1 b2 b3 F mm (nI b) (nI (es_Le ar ki (es_lk tx n) b)) (es_Kd ar ki (es_lk tx n) b) (nI (es_Lo ar (es_lk tx n) b)) (by first | assumption | omega)) (cwV 4 hw (es_v xw_95 xw_247 xw_97 xw_98 xw_83) rfl rfl rfl kv_X0_add ⟨Nat.le_trans (Nat.le_of_ble_eq_true rfl) hRm.1, Nat.le_trans (Nat.le_of_ble_eq_true rfl) hRm.2⟩) (es_WV hK (hP.sub (ws' := [(f, .inr (0, [.ref b0, .ref b1, .ref b2, .ref b3, .int (nI mm)])), (b0, .inl (cI, 400, .inl (F 0))), (b1, .inl (cI, 400, .inl (F 1))), (b2, .inl (cI, 400, .inl (F 2))), (b3, .inl (cI, 400, .inl (F 3)))]) [6, 7, 8, 9, 10] rfl) (hD.sub (ws' := [(f, .inr (0, [.ref b0, .ref b1, .ref b2, .ref b3, .int (nI mm)])), (b0, .inl (cI, 400, .inl (F 0))), (b1, .inl (cI, 400, .inl (F 1))), (b2, .inl (cI, 400, .inl (F 2))), (b3, .inl (cI, 400, .inl (F 3)))]) [6, 7, 8, 9, 10] (by decide) rfl) rfl rfl) rfl rfl hl.1 rfl (lv_room (Nat.le_of_ble_eq_true rfl)) dX3_scanOne_82 ⟨(Nat.zero_le _), (Nat.zero_le _)⟩) hP hD hS hA [6, 7, 8, 9, 10] [0, 1, 2, 3, 4, 5] rfl rfl (by decide) (by decide) (fun u_1 H locs hu_1 hP hD hS => ?_)
  have hP : va_P D vwCl [(h, .inr (3, [.ref tb, .ref t, .ref g, .ref f, .int (nI rd), .int (nI sc), .int ed])), (tb, .inr (1, [.ref a, .ref k])), (a, .inl (cI, 200, .inl ar)), (k, .inl (cI, 20, .inl ki)), (t, .inr (2, [.ref r, .int (nI n)])), (r, .inl (cI, 400, .inl tx)), (f, .inr (0, [.ref b0, .ref b1, .ref b2, .ref b3, .int (nI (mm + 1))])), (b0, .inl (cI, 400, .inl (upd (F 0) mm (nI b)))), (b1, .inl (cI, 400, .inl (upd (F 1) mm (nI (es_Le ar ki (es_lk tx n) b))))), (b2, .inl (cI, 400, .inl (upd (F 2) mm (es_Kd ar ki (es_lk tx n) b)))), (b3, .inl (cI, 400, .inl (upd (F 3) mm (nI (es_Lo ar (es_lk tx n) b)))))] H := hP
  have hD : va_D A [(h, .inr (3, [.ref tb, .ref t, .ref g, .ref f, .int (nI rd), .int (nI sc), .int ed])), (tb, .inr (1, [.ref a, .ref k])), (a, .inl (cI, 200, .inl ar)), (k, .inl (cI, 20, .inl ki)), (t, .inr (2, [.ref r, .int (nI n)])), (r, .inl (cI, 400, .inl tx)), (f, .inr (0, [.ref b0, .ref b1, .ref b2, .ref b3, .int (nI (mm + 1))])), (b0, .inl (cI, 400, .inl (upd (F 0) mm (nI b)))), (b1, .inl (cI, 400, .inl (upd (F 1) mm (nI (es_Le ar ki (es_lk tx n) b))))), (b2, .inl (cI, 400, .inl (upd (F 2) mm (es_Kd ar ki (es_lk tx n) b)))), (b3, .inl (cI, 400, .inl (upd (F 3) mm (nI (es_Lo ar (es_lk tx n) b)))))] := hD
  refine lv_aload_n hx hb dX3_scanOne_85 rfl (lv_at hl 0 rfl) ?_
  refine lv_dup hx hb dX3_scanOne_86 rfl ?_
  refine va_get (D := D) (ci := 3) (v := .int (nI rd)) (C := RX3) (T := TX3) (N := 7) hx hb hw iwX3 hown hK.1 hP 0 rfl rfl 4 (by decide) (hw _ xw_160) (fun _ h9 => h9) rfl dX3_scanOne_87 ?_
  refine lv_iload_n hx hb dX3_scanOne_90 rfl (lv_at hl 2 rfl) ?_
  refine lv_iadd hx hb dX3_scanOne_91 ?_
  refine es_top (y := nI (rd + (es_Lo ar (es_lk tx n) b))) (nI_add _ _) ?_
  refine va_put (D := D) (ci := 3) (v := .int (nI (rd + (es_Lo ar (es_lk tx n) b)))) (ty := .int) (C := RX3) (T := TX3) (N := 7) hx hb hw iwX3 tyX3 tyX3_ok nmX3 hown hK.1 hP hD hS 0 rfl rfl 4 (by decide) (hw _ xw_160) (fun _ h9 => h9) rfl (by decide +kernel) rfl rfl (Nat.le_of_ble_eq_true rfl) dX3_scanOne_92 (fun H locs hP hD hS => ?_)
  have hP : va_P D vwCl [(h, .inr (3, [.ref tb, .ref t, .ref g, .ref f, .int (nI (rd + (es_Lo ar (es_lk tx n) b))), .int (nI sc), .int ed])), (tb, .inr (1, [.ref a, .ref k])), (a, .inl (cI, 200, .inl ar)), (k, .inl (cI, 20, .inl ki)), (t, .inr (2, [.ref r, .int (nI n)])), (r, .inl (cI, 400, .inl tx)), (f, .inr (0, [.ref b0, .ref b1, .ref b2, .ref b3, .int (nI (mm + 1))])), (b0, .inl (cI, 400, .inl (upd (F 0) mm (nI b)))), (b1, .inl (cI, 400, .inl (upd (F 1) mm (nI (es_Le ar ki (es_lk tx n) b))))), (b2, .inl (cI, 400, .inl (upd (F 2) mm (es_Kd ar ki (es_lk tx n) b)))), (b3, .inl (cI, 400, .inl (upd (F 3) mm (nI (es_Lo ar (es_lk tx n) b)))))] H := hP
  have hD : va_D A [(h, .inr (3, [.ref tb, .ref t, .ref g, .ref f, .int (nI (rd + (es_Lo ar (es_lk tx n) b))), .int (nI sc), .int ed])), (tb, .inr (1, [.ref a, .ref k])), (a, .inl (cI, 200, .inl ar)), (k, .inl (cI, 20, .inl ki)), (t, .inr (2, [.ref r, .int (nI n)])), (r, .inl (cI, 400, .inl tx)), (f, .inr (0, [.ref b0, .ref b1, .ref b2, .ref b3, .int (nI (mm + 1))])), (b0, .inl (cI, 400, .inl (upd (F 0) mm (nI b)))), (b1, .inl (cI, 400, .inl (upd (F 1) mm (nI (es_Le ar ki (es_lk tx n) b))))), (b2, .inl (cI, 400, .inl (upd (F 2) mm (es_Kd ar ki (es_lk tx n) b)))), (b3, .inl (cI, 400, .inl (upd (F 3) mm (nI (es_Lo ar (es_lk tx n) b)))))] := hD
  refine lv_iload hx hb dX3_scanOne_95 (lv_at hl 3 rfl) ?_
  refine lv_if_le (tgt := 110) hx hb dX3_scanOne_97 (by decide) (fun c_97 => ?_) (fun c_97 => ?_)
  ·
    have c_97 := (nI_leI (a := (es_Le ar ki (es_lk tx n) b)) (b := 0) (by omega) (by omega)).mp c_97
    exact W.vret hx hb hr (fun zt ht hW => ⟨⟨sc, rfl, (by show _ = _; first | (rw [if_pos (by omega)]; done) | (rw [if_neg (by omega)]; done)), ⟨by rw [ht]; exact hP.sub [0, 1, 2, 3, 4, 5, 6, 7, 8, 9, 10] rfl, hD.sub [0, 1, 2, 3, 4, 5, 6, 7, 8, 9, 10] (by decide) rfl⟩⟩, hS.F ht⟩) hS.2.2 dX3_scanOne_110
  ·
    have c_97 := (mt (nI_leI (a := (es_Le ar ki (es_lk tx n) b)) (b := 0) (by omega) (by omega)).mpr c_97)
    refine lv_aload_n hx hb dX3_scanOne_100 rfl (lv_at hl 0 rfl) ?_
    refine lv_dup hx hb dX3_scanOne_101 rfl ?_
    refine va_get (D := D) (ci := 3) (v := .int (nI sc)) (C := RX3) (T := TX3) (N := 7) hx hb hw iwX3 hown hK.1 hP 0 rfl rfl 5 (by decide) (hw _ xw_161) (fun _ h9 => h9) rfl dX3_scanOne_102 ?_
    refine lv_iconst (v := nI 1) hx hb dX3_scanOne_105 (by decide) ?_
    refine lv_iadd hx hb dX3_scanOne_106 ?_
    refine es_top (y := nI (sc + 1)) (nI_add _ _) ?_
    refine va_put (D := D) (ci := 3) (v := .int (nI (sc + 1))) (ty := .int) (C := RX3) (T := TX3) (N := 7) hx hb hw iwX3 tyX3 tyX3_ok nmX3 hown hK.1 hP hD hS 0 rfl rfl 5 (by decide) (hw _ xw_161) (fun _ h9 => h9) rfl (by decide +kernel) rfl rfl (Nat.le_of_ble_eq_true rfl) dX3_scanOne_107 (fun H locs hP hD hS => ?_)
    have hP : va_P D vwCl [(h, .inr (3, [.ref tb, .ref t, .ref g, .ref f, .int (nI (rd + (es_Lo ar (es_lk tx n) b))), .int (nI (sc + 1)), .int ed])), (tb, .inr (1, [.ref a, .ref k])), (a, .inl (cI, 200, .inl ar)), (k, .inl (cI, 20, .inl ki)), (t, .inr (2, [.ref r, .int (nI n)])), (r, .inl (cI, 400, .inl tx)), (f, .inr (0, [.ref b0, .ref b1, .ref b2, .ref b3, .int (nI (mm + 1))])), (b0, .inl (cI, 400, .inl (upd (F 0) mm (nI b)))), (b1, .inl (cI, 400, .inl (upd (F 1) mm (nI (es_Le ar ki (es_lk tx n) b))))), (b2, .inl (cI, 400, .inl (upd (F 2) mm (es_Kd ar ki (es_lk tx n) b)))), (b3, .inl (cI, 400, .inl (upd (F 3) mm (nI (es_Lo ar (es_lk tx n) b)))))] H := hP
    have hD : va_D A [(h, .inr (3, [.ref tb, .ref t, .ref g, .ref f, .int (nI (rd + (es_Lo ar (es_lk tx n) b))), .int (nI (sc + 1)), .int ed])), (tb, .inr (1, [.ref a, .ref k])), (a, .inl (cI, 200, .inl ar)), (k, .inl (cI, 20, .inl ki)), (t, .inr (2, [.ref r, .int (nI n)])), (r, .inl (cI, 400, .inl tx)), (f, .inr (0, [.ref b0, .ref b1, .ref b2, .ref b3, .int (nI (mm + 1))])), (b0, .inl (cI, 400, .inl (upd (F 0) mm (nI b)))), (b1, .inl (cI, 400, .inl (upd (F 1) mm (nI (es_Le ar ki (es_lk tx n) b))))), (b2, .inl (cI, 400, .inl (upd (F 2) mm (es_Kd ar ki (es_lk tx n) b)))), (b3, .inl (cI, 400, .inl (upd (F 3) mm (nI (es_Lo ar (es_lk tx n) b)))))] := hD
    exact W.vret hx hb hr (fun zt ht hW => ⟨⟨(sc + 1), rfl, (by show _ = _; first | (rw [if_pos (by omega)]; done) | (rw [if_neg (by omega)]; done)), ⟨by rw [ht]; exact hP.sub [0, 1, 2, 3, 4, 5, 6, 7, 8, 9, 10] rfl, hD.sub [0, 1, 2, 3, 4, 5, 6, 7, 8, 9, 10] (by decide) rfl⟩⟩, hS.F ht⟩) hS.2.2 dX3_scanOne_110
end
section
theorem es_fnd_pre {ar ki lk lk' : Nat → Int32} {G E : Nat → Nat → Int32} {n n' pl ou cn c fi : Nat} (h : es_chg lk lk' n n' pl ou cn) (hG : es_fnd ar ki lk G c) (hfi : fi ≤ c) (hf : ∀ i, i < fi → es_B (es_Le ar ki lk) i + es_Lo ar lk (es_B (es_Le ar ki lk) i) ≤ pl) (hE : ∀ a, a < 4 → ∀ j, j < fi → E a j = G a j) : es_fnd ar ki lk' E fi := by
  intro i hi
  obtain ⟨g0, g1, g2, g3⟩ := hG i (by omega)
  have hb := es_B_pre (ar := ar) (ki := ki) h hf i (by omega)
  obtain ⟨t1, t2, t3⟩ := es_pre (ki := ki) h (hf i hi)
  rw [hE 0 (by omega) i hi, hE 1 (by omega) i hi, hE 2 (by omega) i hi, hE 3 (by omega) i hi, g0, g1, g2, g3, hb, t1, t2, t3]
  exact ⟨rfl, rfl, rfl, rfl⟩
theorem es_Lo_pos {ar lk : Nat → Int32} {n b : Nat} (hn : n ≤ 400) (h : ∀ j, n ≤ j → lk j = -1) : 1 ≤ es_Lo ar lk b := by
  obtain ⟨e, he, hl, -⟩ := es_end (b := b) hn h
  exact (es_Lo_is he hl).2.2
theorem es_nb_pre {ar ki lk : Nat → Int32} {G E : Nat → Nat → Int32} {c fi : Nat} (hG : es_fnd ar ki lk G c) (hfi : fi ≤ c) (hE : ∀ a, a < 4 → ∀ j, j < fi → E a j = G a j) : (if 0 < fi then E 0 (fi - 1) + E 1 (fi - 1) else 0) = nI (es_B (es_Le ar ki lk) fi) := by
  rcases Nat.eq_zero_or_pos fi with h0 | h0
  · rw [if_neg (by omega), h0, es_B]; rfl
  · rw [if_pos h0, hE 0 (by omega) _ (by omega), hE 1 (by omega) _ (by omega), (hG (fi - 1) (by omega)).1, (hG (fi - 1) (by omega)).2.1, nI_add]
    congr 1
    obtain ⟨k, rfl⟩ : ∃ k, fi = k + 1 := ⟨fi - 1, by omega⟩
    rw [es_B]; rfl
theorem es_tok_pre {ar ki lk lk' : Nat → Int32} {n n' pl ou cn c fi : Nat} (h : es_chg lk lk' n n' pl ou cn) (hc : es_cnt (es_Le ar ki lk) n c) (hfs : fi < c ∨ c = 0) (hf : ∀ i, i < fi → es_B (es_Le ar ki lk) i + es_Lo ar lk (es_B (es_Le ar ki lk) i) ≤ pl) : ∀ i, i < fi → es_B (es_Le ar ki lk') i < n' ∧ 0 < es_Le ar ki lk' (es_B (es_Le ar ki lk') i) := by
  intro i hi
  have hb := es_B_pre (ar := ar) (ki := ki) h hf i (by omega)
  obtain ⟨t1, t2, t3⟩ := es_pre (ki := ki) h (hf i hi)
  obtain ⟨h1, h2, h3, h4, h5, h6, h7, h8⟩ := h
  have hp := es_Lo_pos (ar := ar) (b := es_B (es_Le ar ki lk) i) h1 h5
  have hq := hf i hi
  rw [hb, t2]
  refine ⟨by omega, ?_⟩
  rcases hfs with h9 | h9
  · exact hc.2.1 i (by omega)
  · exfalso
    have := hc.2.2
    have := hc.1 0
    rcases hc.2.2 with ⟨-, hz⟩ | ⟨hz, -⟩ <;> omega
theorem es_B_fi {ar ki lk lk' : Nat → Int32} {n n' pl ou cn fi : Nat} (h : es_chg lk lk' n n' pl ou cn) (hf : ∀ i, i < fi → es_B (es_Le ar ki lk) i + es_Lo ar lk (es_B (es_Le ar ki lk) i) ≤ pl) : es_B (es_Le ar ki lk) fi ≤ pl ∧ es_B (es_Le ar ki lk) fi ≤ n' := by
  obtain ⟨h1, h2, h3, h4, h5, h6, h7, h8⟩ := h
  rcases Nat.eq_zero_or_pos fi with h0 | h0
  · rw [h0, es_B]; omega
  · obtain ⟨k, rfl⟩ : ∃ k, fi = k + 1 := ⟨fi - 1, by omega⟩
    have hq := hf k (by omega)
    obtain ⟨e, he, hl, -⟩ := es_end (b := es_B (es_Le ar ki lk) k) h1 h5
    have := (es_Le_lt (ar := ar) (ki := ki) he hl).1
    rw [es_B]; omega
end
section
set_option maxHeartbeats 1000000 in
set_option maxRecDepth 100000 in
theorem lp_scanAnew {p : Program} {l : Launch} {e : Env} {R : Room} {s : State} {m : MethodId} {args : Array Value} {below : List Frame} {meth : Method} {c : Code} {Q : State → Prop} {A : Nat → Prop} {H0 : Heap} (D : va_G) (cI : ClassId) (h : Nat) (tb : Nat) (a : Nat) (k : Nat) (ar : Nat → Int32) (ki : Nat → Int32) (t : Nat) (r : Nat) (tx : Nat → Int32) (n : Nat) (f : Nat) (b0 : Nat) (b1 : Nat) (b2 : Nat) (b3 : Nat) (g : Nat) (g0 : Nat) (g1 : Nat) (g2 : Nat) (g3 : Nat) (G : Nat → Nat → Int32) (gn : Nat) (ed : Int32) (lk0 : Nat → Int32) (n0 : Nat) (pl : Nat) (ou : Nat) (cn : Nat) (TT : Nat × Nat) (hx : p.tables.exec = Jvm.exec) (hb : c.code = cX3_scanAnew) (hml : c.maxLocals = 7) (hown : s.vm.findClass RX3 = some m.cls) (hw : ∀ w ∈ es_T, w.before args s = true) (hK : es_K D cI s) (hRm : 3 ≤ R.frames ∧ 67 ≤ R.locals) (hA : ∀ q : Nat, H0.size ≤ q → A q) (hta : es_ta ar) (hsy : es_sy (es_lk tx n)) (hcn : cn ≤ 16) (hchg : es_chg lk0 (es_lk tx n) n0 n pl ou cn) (hcc : es_cnt (es_Le ar ki lk0) n0 gn) (hG : es_fnd ar ki lk0 G gn) (hex : ∀ (E : Nat → Nat → Int32) (mm : Nat) (rd : Nat) (sc : Nat), (es_cnt (es_Le ar ki (es_lk tx n)) n mm) → (es_fnd ar ki (es_lk tx n) E mm) → ((rd, sc) = TT) → ∀ (H : Heap) (locs : List Loc), va_P D vwCl [(h, .inr (3, [.ref tb, .ref t, .ref g, .ref f, .int (nI rd), .int (nI sc), .int ed])), (tb, .inr (1, [.ref a, .ref k])), (a, .inl (cI, 200, .inl ar)), (k, .inl (cI, 20, .inl ki)), (t, .inr (2, [.ref r, .int (nI n)])), (r, .inl (cI, 400, .inl tx)), (f, .inr (0, [.ref b0, .ref b1, .ref b2, .ref b3, .int (nI mm)])), (b0, .inl (cI, 400, .inl (E 0))), (b1, .inl (cI, 400, .inl (E 1))), (b2, .inl (cI, 400, .inl (E 2))), (b3, .inl (cI, 400, .inl (E 3))), (g, .inr (0, [.ref g0, .ref g1, .ref g2, .ref g3, .int (nI gn)])), (g0, .inl (cI, 400, .inl (G 0))), (g1, .inl (cI, 400, .inl (G 1))), (g2, .inl (cI, 400, .inl (G 2))), (g3, .inl (cI, 400, .inl (G 3)))] H → va_D A [(h, .inr (3, [.ref tb, .ref t, .ref g, .ref f, .int (nI rd), .int (nI sc), .int ed])), (tb, .inr (1, [.ref a, .ref k])), (a, .inl (cI, 200, .inl ar)), (k, .inl (cI, 20, .inl ki)), (t, .inr (2, [.ref r, .int (nI n)])), (r, .inl (cI, 400, .inl tx)), (f, .inr (0, [.ref b0, .ref b1, .ref b2, .ref b3, .int (nI mm)])), (b0, .inl (cI, 400, .inl (E 0))), (b1, .inl (cI, 400, .inl (E 1))), (b2, .inl (cI, 400, .inl (E 2))), (b3, .inl (cI, 400, .inl (E 3))), (g, .inr (0, [.ref g0, .ref g1, .ref g2, .ref g3, .int (nI gn)])), (g0, .inl (cI, 400, .inl (G 0))), (g1, .inl (cI, 400, .inl (G 1))), (g2, .inl (cI, 400, .inl (G 2))), (g3, .inl (cI, 400, .inl (G 3)))] → va_S A H0 H locs → ∀ (ls : Array Slot), lv_has ls 7 [(0, .ref h)] →  W p l e R s m args below meth c H locs 0 0 Q (F0 m 135 ls [])) : ∀ (N : Nat) (E : Nat → Nat → Int32) (mm : Nat) (ok : Nat) (b : Nat) (st : Nat) (rd : Nat) (sc : Nat) (fu : Nat), (es_fnd ar ki (es_lk tx n) E mm) → (∀ i, i < mm → es_B (es_Le ar ki (es_lk tx n)) i < n ∧ 0 < es_Le ar ki (es_lk tx n) (es_B (es_Le ar ki (es_lk tx n)) i)) → (b = es_B (es_Le ar ki (es_lk tx n)) mm) → (b ≤ n) → (st ≤ mm) → (ok ≤ gn) → (∀ j, j < ok → es_B (es_Le ar ki lk0) j < pl + ou ∨ es_B (es_Le ar ki lk0) j + cn < b + ou) → (es_go (es_stop (es_B (es_Le ar ki lk0)) gn pl ou cn) (es_Le ar ki (es_lk tx n)) (es_Lo ar (es_lk tx n)) n fu b rd sc = TT) → (n < fu + b) → (n - b) < N → ∀ (H : Heap) (locs : List Loc), va_P D vwCl [(h, .inr (3, [.ref tb, .ref t, .ref g, .ref f, .int (nI rd), .int (nI sc), .int ed])), (tb, .inr (1, [.ref a, .ref k])), (a, .inl (cI, 200, .inl ar)), (k, .inl (cI, 20, .inl ki)), (t, .inr (2, [.ref r, .int (nI n)])), (r, .inl (cI, 400, .inl tx)), (f, .inr (0, [.ref b0, .ref b1, .ref b2, .ref b3, .int (nI mm)])), (b0, .inl (cI, 400, .inl (E 0))), (b1, .inl (cI, 400, .inl (E 1))), (b2, .inl (cI, 400, .inl (E 2))), (b3, .inl (cI, 400, .inl (E 3))), (g, .inr (0, [.ref g0, .ref g1, .ref g2, .ref g3, .int (nI gn)])), (g0, .inl (cI, 400, .inl (G 0))), (g1, .inl (cI, 400, .inl (G 1))), (g2, .inl (cI, 400, .inl (G 2))), (g3, .inl (cI, 400, .inl (G 3)))] H → va_D A [(h, .inr (3, [.ref tb, .ref t, .ref g, .ref f, .int (nI rd), .int (nI sc), .int ed])), (tb, .inr (1, [.ref a, .ref k])), (a, .inl (cI, 200, .inl ar)), (k, .inl (cI, 20, .inl ki)), (t, .inr (2, [.ref r, .int (nI n)])), (r, .inl (cI, 400, .inl tx)), (f, .inr (0, [.ref b0, .ref b1, .ref b2, .ref b3, .int (nI mm)])), (b0, .inl (cI, 400, .inl (E 0))), (b1, .inl (cI, 400, .inl (E 1))), (b2, .inl (cI, 400, .inl (E 2))), (b3, .inl (cI, 400, .inl (E 3))), (g, .inr (0, [.ref g0, .ref g1, .ref g2, .ref g3, .int (nI gn)])), (g0, .inl (cI, 400, .inl (G 0))), (g1, .inl (cI, 400, .inl (G 1))), (g2, .inl (cI, 400, .inl (G 2))), (g3, .inl (cI, 400, .inl (G 3)))] → va_S A H0 H locs → ∀ (ls : Array Slot), lv_has ls 7 [(0, .ref h), (2, .int (nI (pl + cn))), (3, .int ((nI cn) - (nI ou))), (4, .int (nI ok)), (5, .int (nI b)), (6, .int (nI st))] →  W p l e R s m args below meth c H locs 0 0 Q (F0 m 27 ls []) := by
  intro N
  induction N with
  | zero =>
    intro E mm ok b st rd sc fu hE htok hbm hbn hst hok hold hgo hfu hN
    exact absurd hN (Nat.not_lt_zero _)
  | succ N ih =>
    intro E mm ok b st rd sc fu hE htok hbm hbn hst hok hold hgo hfu hN H locs hP hD hS ls hl
    obtain ⟨hn0, hn, hpo, hnn, hlk0, hlk1, hpre_, hsuf_⟩ := id hchg
    have hgn := es_cnt_n hcc
    have hmb := es_B_ge (Le := es_Le ar ki (es_lk tx n)) mm (fun i hi => (htok i hi).2)
    rw [← hbm] at hmb
    refine lv_iload hx hb dX3_scanAnew_27 (lv_at hl 5 rfl) ?_
    refine lv_sipush (v := nI 400) hx hb dX3_scanAnew_29 (by decide) ?_
    refine lv_icmp_ge (tgt := 135) hx hb dX3_scanAnew_32 (by decide) (fun c_32 => ?_) (fun c_32 => ?_)
    ·
      have c_32 := (nI_leI (by omega) (by omega)).mp c_32
      exact hex E mm rd sc (es_end_cnt (by omega) htok) hE ((es_go_end (fun z => absurd z.1 (by omega))).symm.trans hgo)  H locs (hP.sub [0, 1, 2, 3, 4, 5, 6, 7, 8, 9, 10, 11, 12, 13, 14, 15] rfl) (hD.sub [0, 1, 2, 3, 4, 5, 6, 7, 8, 9, 10, 11, 12, 13, 14, 15] (by decide) rfl) hS ls (lv_sub hl [0] rfl)
    ·
      have c_32 := (mt (nI_leI (by omega) (by omega)).mpr c_32)
      refine lv_iload hx hb dX3_scanAnew_35 (lv_at hl 4 rfl) ?_
      refine lv_aload_n hx hb dX3_scanAnew_37 rfl (lv_at hl 0 rfl) ?_
      refine va_get (D := D) (ci := 3) (v := .ref t) (C := RX3) (T := TX3) (N := 7) hx hb hw iwX3 hown hK.1 hP 0 rfl rfl 1 (by decide) (hw _ xw_136) (fun _ h9 => h9) rfl dX3_scanAnew_38 ?_
      refine vp_callSi (va_Run.run (va_runV (As := []) (rest := [.int (nI b)]) ⟨hx, hb, hml, hown, hw⟩ (c_X2_size l D cI t r tx n ) (cwV 0 hw (es_v xw_163 xw_164 xw_165 xw_166 xw_125) rfl rfl rfl kv_X2_size ⟨Nat.le_trans (Nat.le_of_ble_eq_true rfl) hRm.1, Nat.le_trans (Nat.le_of_ble_eq_true rfl) hRm.2⟩) (es_RV hK (hP.sub (ws' := [(t, .inr (2, [.ref r, .int (nI n)])), (r, .inl (cI, 400, .inl tx))]) [4, 5] rfl) rfl rfl) rfl rfl hl.1 rfl (lv_room (Nat.le_of_ble_eq_true rfl)) dX3_scanAnew_41 ⟨(Nat.zero_le _), (Nat.zero_le _)⟩)) (fun r_1 er_1 => ?_)
      obtain rfl : r_1 = nI n := er_1
      refine lv_icmp_ge (tgt := 135) hx hb dX3_scanAnew_44 (by decide) (fun c_44 => ?_) (fun c_44 => ?_)
      ·
        have c_44 := (nI_leI (by omega) (by omega)).mp c_44
        exact hex E mm rd sc (es_end_cnt (by omega) htok) hE ((es_go_end (fun z => absurd z.1 (by omega))).symm.trans hgo)  H locs (hP.sub [0, 1, 2, 3, 4, 5, 6, 7, 8, 9, 10, 11, 12, 13, 14, 15] rfl) (hD.sub [0, 1, 2, 3, 4, 5, 6, 7, 8, 9, 10, 11, 12, 13, 14, 15] (by decide) rfl) hS ls (lv_sub hl [0] rfl)
      ·
        have c_44 := (mt (nI_leI (by omega) (by omega)).mpr c_44)
        refine lv_iload hx hb dX3_scanAnew_47 (lv_at hl 4 rfl) ?_
        refine lv_iload_n hx hb dX3_scanAnew_49 rfl (lv_at hl 1 rfl) ?_
        refine lv_icmp_lt (tgt := 101) hx hb dX3_scanAnew_50 (by decide) (fun c_50 => ?_) (fun c_50 => ?_)
        ·
          have c_50 := (nI_ltI (by omega) (by omega)).mp c_50
          have hsn : es_stop (es_B (es_Le ar ki lk0)) gn pl ou cn b = false ∧ True := by first | exact ⟨es_nostop1 c_50, trivial⟩ | exact ⟨(es_nostop hG hcc hn0 (by omega) hcn (by omega) hold (by omega) hi2 hi3 hi4 ebo c_81).1, trivial⟩
          have hstop := hsn.1
          have hLl := es_Le_lt (ar := ar) (ki := ki) (lk := es_lk tx n) (b := b) (e := n - b) (es_lk_end (by omega)) (by omega)
          refine lv_aload_n hx hb dX3_scanAnew_101 rfl (lv_at hl 0 rfl) ?_
          refine lv_iload hx hb dX3_scanAnew_102 (lv_at hl 4 rfl) ?_
          refine es_cv (wr := [(g, .inr (0, [.ref g0, .ref g1, .ref g2, .ref g3, .int (nI gn)])), (g0, .inl (cI, 400, .inl (G 0))), (g1, .inl (cI, 400, .inl (G 1))), (g2, .inl (cI, 400, .inl (G 2))), (g3, .inl (cI, 400, .inl (G 3)))]) (va_runV (As := [.int (nI b)]) (rest := []) ⟨hx, hb, hml, hown, hw⟩ (c_X3_scanOne l D cI H.size h tb a k ar ki t r tx n g f b0 b1 b2 b3 E mm b rd sc ed (by first | assumption | omega) (by first | assumption | omega) (by first | assumption | omega) (by first | assumption | omega) (by first | assumption | omega)) (cwV 1 hw (es_v xw_231 xw_232 xw_233 xw_234 xw_2) rfl rfl rfl kv_X3_scanOne ⟨Nat.le_trans (Nat.le_of_ble_eq_true rfl) hRm.1, Nat.le_trans (Nat.le_of_ble_eq_true rfl) hRm.2⟩) (es_WV hK (hP.sub (ws' := [(h, .inr (3, [.ref tb, .ref t, .ref g, .ref f, .int (nI rd), .int (nI sc), .int ed])), (tb, .inr (1, [.ref a, .ref k])), (a, .inl (cI, 200, .inl ar)), (k, .inl (cI, 20, .inl ki)), (t, .inr (2, [.ref r, .int (nI n)])), (r, .inl (cI, 400, .inl tx)), (f, .inr (0, [.ref b0, .ref b1, .ref b2, .ref b3, .int (nI mm)])), (b0, .inl (cI, 400, .inl (E 0))), (b1, .inl (cI, 400, .inl (E 1))), (b2, .inl (cI, 400, .inl (E 2))), (b3, .inl (cI, 400, .inl (E 3)))]) [0, 1, 2, 3, 4, 5, 6, 7, 8, 9, 10] rfl) (hD.sub (ws' := [(h, .inr (3, [.ref tb, .ref t, .ref g, .ref f, .int (nI rd), .int (nI sc), .int ed])), (tb, .inr (1, [.ref a, .ref k])), (a, .inl (cI, 200, .inl ar)), (k, .inl (cI, 20, .inl ki)), (t, .inr (2, [.ref r, .int (nI n)])), (r, .inl (cI, 400, .inl tx)), (f, .inr (0, [.ref b0, .ref b1, .ref b2, .ref b3, .int (nI mm)])), (b0, .inl (cI, 400, .inl (E 0))), (b1, .inl (cI, 400, .inl (E 1))), (b2, .inl (cI, 400, .inl (E 2))), (b3, .inl (cI, 400, .inl (E 3)))]) [0, 1, 2, 3, 4, 5, 6, 7, 8, 9, 10] (by decide) rfl) rfl rfl) rfl rfl hl.1 rfl (lv_room (Nat.le_of_ble_eq_true rfl)) dX3_scanAnew_104 ⟨(Nat.zero_le _), (Nat.zero_le _)⟩) hP hD hS hA [0, 1, 2, 3, 4, 5, 6, 7, 8, 9, 10] [11, 12, 13, 14, 15] rfl rfl (by decide) (by decide) (fun us H locs hus hP hD hS => ?_)
          have hP : va_P D vwCl [(g, .inr (0, [.ref g0, .ref g1, .ref g2, .ref g3, .int (nI gn)])), (g0, .inl (cI, 400, .inl (G 0))), (g1, .inl (cI, 400, .inl (G 1))), (g2, .inl (cI, 400, .inl (G 2))), (g3, .inl (cI, 400, .inl (G 3))), (h, .inr (3, [.ref tb, .ref t, .ref g, .ref f, .int (nI (rd + es_Lo ar (es_lk tx n) b)), .int (nI us), .int ed])), (tb, .inr (1, [.ref a, .ref k])), (a, .inl (cI, 200, .inl ar)), (k, .inl (cI, 20, .inl ki)), (t, .inr (2, [.ref r, .int (nI n)])), (r, .inl (cI, 400, .inl tx)), (f, .inr (0, [.ref b0, .ref b1, .ref b2, .ref b3, .int (nI (mm + 1))])), (b0, .inl (cI, 400, .inl (upd (E 0) mm (nI b)))), (b1, .inl (cI, 400, .inl (upd (E 1) mm (nI (es_Le ar ki (es_lk tx n) b))))), (b2, .inl (cI, 400, .inl (upd (E 2) mm (es_Kd ar ki (es_lk tx n) b)))), (b3, .inl (cI, 400, .inl (upd (E 3) mm (nI (es_Lo ar (es_lk tx n) b)))))] H := hP
          have hD : va_D A [(g, .inr (0, [.ref g0, .ref g1, .ref g2, .ref g3, .int (nI gn)])), (g0, .inl (cI, 400, .inl (G 0))), (g1, .inl (cI, 400, .inl (G 1))), (g2, .inl (cI, 400, .inl (G 2))), (g3, .inl (cI, 400, .inl (G 3))), (h, .inr (3, [.ref tb, .ref t, .ref g, .ref f, .int (nI (rd + es_Lo ar (es_lk tx n) b)), .int (nI us), .int ed])), (tb, .inr (1, [.ref a, .ref k])), (a, .inl (cI, 200, .inl ar)), (k, .inl (cI, 20, .inl ki)), (t, .inr (2, [.ref r, .int (nI n)])), (r, .inl (cI, 400, .inl tx)), (f, .inr (0, [.ref b0, .ref b1, .ref b2, .ref b3, .int (nI (mm + 1))])), (b0, .inl (cI, 400, .inl (upd (E 0) mm (nI b)))), (b1, .inl (cI, 400, .inl (upd (E 1) mm (nI (es_Le ar ki (es_lk tx n) b))))), (b2, .inl (cI, 400, .inl (upd (E 2) mm (es_Kd ar ki (es_lk tx n) b)))), (b3, .inl (cI, 400, .inl (upd (E 3) mm (nI (es_Lo ar (es_lk tx n) b)))))] := hD
          have hus2 : us = if 0 < es_Le ar ki (es_lk tx n) b then sc + 1 else sc := hus
          clear hus
          refine lv_aload_n hx hb dX3_scanAnew_107 rfl (lv_at hl 0 rfl) ?_
          refine va_get (D := D) (ci := 3) (v := .ref f) (C := RX3) (T := TX3) (N := 7) hx hb hw iwX3 hown hK.1 hP 5 rfl rfl 3 (by decide) (hw _ xw_210) (fun _ h9 => h9) rfl dX3_scanAnew_108 ?_
          refine vp_callSi (va_Run.run (va_runV (As := []) (rest := []) ⟨hx, hb, hml, hown, hw⟩ (c_X0_failed l D cI f b0 b1 b2 b3 (es_row4 (upd (E 0) mm (nI b)) (upd (E 1) mm (nI (es_Le ar ki (es_lk tx n) b))) (upd (E 2) mm (es_Kd ar ki (es_lk tx n) b)) (upd (E 3) mm (nI (es_Lo ar (es_lk tx n) b)))) (mm + 1) (by first | assumption | omega)) (cwV 0 hw (es_v xw_99 xw_167 xw_101 xw_102 xw_83) rfl rfl rfl kv_X0_failed ⟨Nat.le_trans (Nat.le_of_ble_eq_true rfl) hRm.1, Nat.le_trans (Nat.le_of_ble_eq_true rfl) hRm.2⟩) (es_RV hK (hP.sub (ws' := [(f, .inr (0, [.ref b0, .ref b1, .ref b2, .ref b3, .int (nI (mm + 1))])), (b0, .inl (cI, 400, .inl (upd (E 0) mm (nI b)))), (b1, .inl (cI, 400, .inl (upd (E 1) mm (nI (es_Le ar ki (es_lk tx n) b))))), (b2, .inl (cI, 400, .inl (upd (E 2) mm (es_Kd ar ki (es_lk tx n) b)))), (b3, .inl (cI, 400, .inl (upd (E 3) mm (nI (es_Lo ar (es_lk tx n) b)))))]) [11, 12, 13, 14, 15] rfl) rfl rfl) rfl rfl hl.1 rfl (lv_room (Nat.le_of_ble_eq_true rfl)) dX3_scanAnew_111 ⟨(Nat.zero_le _), (Nat.zero_le _)⟩)) (fun r_4 er_4 => ?_)
          obtain rfl : r_4 = if 0 < (mm + 1) ∧ (es_row4 (upd (E 0) mm (nI b)) (upd (E 1) mm (nI (es_Le ar ki (es_lk tx n) b))) (upd (E 2) mm (es_Kd ar ki (es_lk tx n) b)) (upd (E 3) mm (nI (es_Lo ar (es_lk tx n) b)))) 1 ((mm + 1) - 1) = 0 then (1 : Int32) else 0 := er_4
          refine lv_if_eq (tgt := 120) hx hb dX3_scanAnew_114 (by decide) (fun c_114 => ?_) (fun c_114 => ?_)
          ·
            have c_114 := es_if0 c_114
            have hz : ¬ es_Le ar ki (es_lk tx n) b = 0 := fun z => c_114 ((es_nf (by omega)).mpr z)
            rw [if_pos (Nat.pos_of_ne_zero hz)] at hus2
            subst us
            have hgo2 := es_go_step (rd := rd) (sc := sc) (Lo := es_Lo ar (es_lk tx n)) (by omega) hstop hz hfu
            refine lv_aload_n hx hb dX3_scanAnew_120 rfl (lv_at hl 0 rfl) ?_
            refine va_get (D := D) (ci := 3) (v := .ref f) (C := RX3) (T := TX3) (N := 7) hx hb hw iwX3 hown hK.1 hP 5 rfl rfl 3 (by decide) (hw _ xw_210) (fun _ h9 => h9) rfl dX3_scanAnew_121 ?_
            refine vp_callSi (va_Run.run (va_runV (As := []) (rest := []) ⟨hx, hb, hml, hown, hw⟩ (c_X0_nextBegin l D cI f b0 b1 b2 b3 (es_row4 (upd (E 0) mm (nI b)) (upd (E 1) mm (nI (es_Le ar ki (es_lk tx n) b))) (upd (E 2) mm (es_Kd ar ki (es_lk tx n) b)) (upd (E 3) mm (nI (es_Lo ar (es_lk tx n) b)))) (mm + 1) (by first | assumption | omega)) (cwV 0 hw (es_v xw_219 xw_220 xw_221 xw_222 xw_83) rfl rfl rfl kv_X0_nextBegin ⟨Nat.le_trans (Nat.le_of_ble_eq_true rfl) hRm.1, Nat.le_trans (Nat.le_of_ble_eq_true rfl) hRm.2⟩) (es_RV hK (hP.sub (ws' := [(f, .inr (0, [.ref b0, .ref b1, .ref b2, .ref b3, .int (nI (mm + 1))])), (b0, .inl (cI, 400, .inl (upd (E 0) mm (nI b)))), (b1, .inl (cI, 400, .inl (upd (E 1) mm (nI (es_Le ar ki (es_lk tx n) b))))), (b2, .inl (cI, 400, .inl (upd (E 2) mm (es_Kd ar ki (es_lk tx n) b)))), (b3, .inl (cI, 400, .inl (upd (E 3) mm (nI (es_Lo ar (es_lk tx n) b)))))]) [11, 12, 13, 14, 15] rfl) rfl rfl) rfl rfl hl.1 rfl (lv_room (Nat.le_of_ble_eq_true rfl)) dX3_scanAnew_124 ⟨(Nat.zero_le _), (Nat.zero_le _)⟩)) (fun r_5 er_5 => ?_)
            obtain rfl : r_5 = if 0 < (mm + 1) then (es_row4 (upd (E 0) mm (nI b)) (upd (E 1) mm (nI (es_Le ar ki (es_lk tx n) b))) (upd (E 2) mm (es_Kd ar ki (es_lk tx n) b)) (upd (E 3) mm (nI (es_Lo ar (es_lk tx n) b)))) 0 ((mm + 1) - 1) + (es_row4 (upd (E 0) mm (nI b)) (upd (E 1) mm (nI (es_Le ar ki (es_lk tx n) b))) (upd (E 2) mm (es_Kd ar ki (es_lk tx n) b)) (upd (E 3) mm (nI (es_Lo ar (es_lk tx n) b)))) 1 ((mm + 1) - 1) else 0 := er_5
            refine es_top (y := nI (b + es_Le ar ki (es_lk tx n) b)) es_nb ?_
            refine lv_istore (lv' := [(5, .int (nI (b + es_Le ar ki (es_lk tx n) b))), (0, .ref h), (2, .int (nI (pl + cn))), (3, .int ((nI cn) - (nI ou))), (4, .int (nI ok)), (6, .int (nI st))]) hx hb dX3_scanAnew_127 hl (by decide) rfl (fun ls hl => ?_)
            refine lv_iinc (v := nI (st + 1)) (lv' := [(6, .int (nI (st + 1))), (5, .int (nI (b + es_Le ar ki (es_lk tx n) b))), (0, .ref h), (2, .int (nI (pl + cn))), (3, .int ((nI cn) - (nI ou))), (4, .int (nI ok))]) hx hb dX3_scanAnew_129 hl (k := 5) rfl (nI_1 _) (by decide) rfl (fun ls hl => ?_)
            refine lv_goto (tgt := 27) hx hb dX3_scanAnew_132 (by decide) ?_
            exact ih (es_row4 (upd (E 0) mm (nI b)) (upd (E 1) mm (nI (es_Le ar ki (es_lk tx n) b))) (upd (E 2) mm (es_Kd ar ki (es_lk tx n) b)) (upd (E 3) mm (nI (es_Lo ar (es_lk tx n) b)))) (mm + 1) ok (b + es_Le ar ki (es_lk tx n) b) (st + 1) (rd + es_Lo ar (es_lk tx n) b) (sc + 1) (fu - 1) (es_fnd_s hE hbm) (lt_s htok (by rw [← hbm]; exact ⟨by omega, Nat.pos_of_ne_zero hz⟩)) (by rw [es_B, ← hbm]) (by omega) (by omega) (by omega) (fun j hj => by first | (have := hold j hj; omega) | (have := (es_nostop hG hcc hn0 (by omega) hcn (by omega) hold (by omega) hi2 hi3 hi4 ebo c_81).2 j hj; omega)) (hgo2.1.symm.trans hgo) hgo2.2 (by omega) H locs (hP.sub [5, 6, 7, 8, 9, 10, 11, 12, 13, 14, 15, 0, 1, 2, 3, 4] rfl) (hD.sub [5, 6, 7, 8, 9, 10, 11, 12, 13, 14, 15, 0, 1, 2, 3, 4] (by decide) rfl) hS ls (lv_sub hl [2, 3, 4, 5, 1, 0] rfl)
          ·
            have c_114 := es_if1 c_114
            have hz := (es_nf (by omega)).mp c_114
            rw [if_neg (by omega)] at hus2
            subst us
            refine lv_goto (tgt := 135) hx hb dX3_scanAnew_117 (by decide) ?_
            exact hex (es_row4 (upd (E 0) mm (nI b)) (upd (E 1) mm (nI (es_Le ar ki (es_lk tx n) b))) (upd (E 2) mm (es_Kd ar ki (es_lk tx n) b)) (upd (E 3) mm (nI (es_Lo ar (es_lk tx n) b)))) (mm + 1) (rd + es_Lo ar (es_lk tx n) b) sc (es_fail_cnt (by omega) (hbm ▸ hz) htok) (es_fnd_s hE hbm) ((es_go_fail (by omega) hstop hz hfu).symm.trans hgo)  H locs (hP.sub [5, 6, 7, 8, 9, 10, 11, 12, 13, 14, 15, 0, 1, 2, 3, 4] rfl) (hD.sub [5, 6, 7, 8, 9, 10, 11, 12, 13, 14, 15, 0, 1, 2, 3, 4] (by decide) rfl) hS ls (lv_sub hl [0] rfl)
        ·
          have c_50 := (mt (nI_ltI (by omega) (by omega)).mpr c_50)
          refine lv_aload_n hx hb dX3_scanAnew_53 rfl (lv_at hl 0 rfl) ?_
          refine va_get (D := D) (ci := 3) (v := .ref g) (C := RX3) (T := TX3) (N := 7) hx hb hw iwX3 hown hK.1 hP 0 rfl rfl 2 (by decide) (hw _ xw_146) (fun _ h9 => h9) rfl dX3_scanAnew_54 ?_
          refine lv_iload hx hb dX3_scanAnew_57 (lv_at hl 3 rfl) ?_
          refine lv_iload hx hb dX3_scanAnew_59 (lv_at hl 4 rfl) ?_
          refine lv_iload_n hx hb dX3_scanAnew_61 rfl (lv_at hl 2 rfl) ?_
          refine lv_isub hx hb dX3_scanAnew_62 ?_
          refine es_top (y := nI (b + ou - cn)) (es_bmv (by omega)) ?_
          refine vp_callSi (va_Run.run (va_runV (As := [.int (nI ok), .int (nI (b + ou - cn))]) (rest := []) ⟨hx, hb, hml, hown, hw⟩ (c_X0_firstFrom l D cI g g0 g1 g2 g3 G gn ok (nI (b + ou - cn)) (by first | assumption | omega) (by first | assumption | omega)) (cwV 2 hw (es_v xw_223 xw_224 xw_225 xw_226 xw_83) rfl rfl rfl kv_X0_firstFrom ⟨Nat.le_trans (Nat.le_of_ble_eq_true rfl) hRm.1, Nat.le_trans (Nat.le_of_ble_eq_true rfl) hRm.2⟩) (es_RV hK (hP.sub (ws' := [(g, .inr (0, [.ref g0, .ref g1, .ref g2, .ref g3, .int (nI gn)])), (g0, .inl (cI, 400, .inl (G 0))), (g1, .inl (cI, 400, .inl (G 1))), (g2, .inl (cI, 400, .inl (G 2))), (g3, .inl (cI, 400, .inl (G 3)))]) [11, 12, 13, 14, 15] rfl) rfl rfl) rfl rfl hl.1 rfl (lv_room (Nat.le_of_ble_eq_true rfl)) dX3_scanAnew_63 ⟨(Nat.zero_le _), (Nat.zero_le _)⟩)) (fun ri eri => ?_)
          obtain ⟨i1, hi1, hi2, rfl, hi3, hi4⟩ := eri
          refine lv_istore (lv' := [(4, .int (nI i1)), (0, .ref h), (2, .int (nI (pl + cn))), (3, .int ((nI cn) - (nI ou))), (5, .int (nI b)), (6, .int (nI st))]) hx hb dX3_scanAnew_66 hl (by decide) rfl (fun ls hl => ?_)
          refine lv_aload_n hx hb dX3_scanAnew_68 rfl (lv_at hl 1 rfl) ?_
          refine va_get (D := D) (ci := 3) (v := .ref g) (C := RX3) (T := TX3) (N := 7) hx hb hw iwX3 hown hK.1 hP 0 rfl rfl 2 (by decide) (hw _ xw_146) (fun _ h9 => h9) rfl dX3_scanAnew_69 ?_
          refine lv_iload hx hb dX3_scanAnew_72 (lv_at hl 0 rfl) ?_
          refine vp_callSi (va_Run.run (va_runV (As := [.int (nI i1)]) (rest := []) ⟨hx, hb, hml, hown, hw⟩ (c_X0_begin l D cI g g0 g1 g2 g3 G gn (nI i1) (by first | assumption | omega)) (cwV 1 hw (es_v xw_168 xw_169 xw_170 xw_171 xw_83) rfl rfl rfl kv_X0_begin ⟨Nat.le_trans (Nat.le_of_ble_eq_true rfl) hRm.1, Nat.le_trans (Nat.le_of_ble_eq_true rfl) hRm.2⟩) (es_RV hK (hP.sub (ws' := [(g, .inr (0, [.ref g0, .ref g1, .ref g2, .ref g3, .int (nI gn)])), (g0, .inl (cI, 400, .inl (G 0))), (g1, .inl (cI, 400, .inl (G 1))), (g2, .inl (cI, 400, .inl (G 2))), (g3, .inl (cI, 400, .inl (G 3)))]) [11, 12, 13, 14, 15] rfl) rfl rfl) rfl rfl hl.1 rfl (lv_room (Nat.le_of_ble_eq_true rfl)) dX3_scanAnew_74 ⟨(Nat.zero_le _), (Nat.zero_le _)⟩)) (fun r_7 er_7 => ?_)
          obtain rfl : r_7 = if 0 ≤ (nI i1) ∧ (nI i1) < nI gn then G 0 (nI i1).toNatClampNeg else -1 := er_7
          refine lv_topi (fun bo ebo => ?_)
          refine lv_iload hx hb dX3_scanAnew_77 (lv_at hl 4 rfl) ?_
          refine lv_iload_n hx hb dX3_scanAnew_79 rfl (lv_at hl 3 rfl) ?_
          refine lv_isub hx hb dX3_scanAnew_80 ?_
          refine es_top (y := nI (b + ou - cn)) (es_bmv (by omega)) ?_
          refine lv_icmp_ne (tgt := 101) hx hb dX3_scanAnew_81 (by decide) (fun c_81 => ?_) (fun c_81 => ?_)
          ·
            have hsn : es_stop (es_B (es_Le ar ki lk0)) gn pl ou cn b = false ∧ True := by first | exact ⟨es_nostop1 c_50, trivial⟩ | exact ⟨(es_nostop hG hcc hn0 (by omega) hcn (by omega) hold (by omega) hi2 hi3 hi4 ebo c_81).1, trivial⟩
            have hstop := hsn.1
            have hLl := es_Le_lt (ar := ar) (ki := ki) (lk := es_lk tx n) (b := b) (e := n - b) (es_lk_end (by omega)) (by omega)
            refine lv_aload_n hx hb dX3_scanAnew_101 rfl (lv_at hl 1 rfl) ?_
            refine lv_iload hx hb dX3_scanAnew_102 (lv_at hl 4 rfl) ?_
            refine es_cv (wr := [(g, .inr (0, [.ref g0, .ref g1, .ref g2, .ref g3, .int (nI gn)])), (g0, .inl (cI, 400, .inl (G 0))), (g1, .inl (cI, 400, .inl (G 1))), (g2, .inl (cI, 400, .inl (G 2))), (g3, .inl (cI, 400, .inl (G 3)))]) (va_runV (As := [.int (nI b)]) (rest := []) ⟨hx, hb, hml, hown, hw⟩ (c_X3_scanOne l D cI H.size h tb a k ar ki t r tx n g f b0 b1 b2 b3 E mm b rd sc ed (by first | assumption | omega) (by first | assumption | omega) (by first | assumption | omega) (by first | assumption | omega) (by first | assumption | omega)) (cwV 1 hw (es_v xw_231 xw_232 xw_233 xw_234 xw_2) rfl rfl rfl kv_X3_scanOne ⟨Nat.le_trans (Nat.le_of_ble_eq_true rfl) hRm.1, Nat.le_trans (Nat.le_of_ble_eq_true rfl) hRm.2⟩) (es_WV hK (hP.sub (ws' := [(h, .inr (3, [.ref tb, .ref t, .ref g, .ref f, .int (nI rd), .int (nI sc), .int ed])), (tb, .inr (1, [.ref a, .ref k])), (a, .inl (cI, 200, .inl ar)), (k, .inl (cI, 20, .inl ki)), (t, .inr (2, [.ref r, .int (nI n)])), (r, .inl (cI, 400, .inl tx)), (f, .inr (0, [.ref b0, .ref b1, .ref b2, .ref b3, .int (nI mm)])), (b0, .inl (cI, 400, .inl (E 0))), (b1, .inl (cI, 400, .inl (E 1))), (b2, .inl (cI, 400, .inl (E 2))), (b3, .inl (cI, 400, .inl (E 3)))]) [0, 1, 2, 3, 4, 5, 6, 7, 8, 9, 10] rfl) (hD.sub (ws' := [(h, .inr (3, [.ref tb, .ref t, .ref g, .ref f, .int (nI rd), .int (nI sc), .int ed])), (tb, .inr (1, [.ref a, .ref k])), (a, .inl (cI, 200, .inl ar)), (k, .inl (cI, 20, .inl ki)), (t, .inr (2, [.ref r, .int (nI n)])), (r, .inl (cI, 400, .inl tx)), (f, .inr (0, [.ref b0, .ref b1, .ref b2, .ref b3, .int (nI mm)])), (b0, .inl (cI, 400, .inl (E 0))), (b1, .inl (cI, 400, .inl (E 1))), (b2, .inl (cI, 400, .inl (E 2))), (b3, .inl (cI, 400, .inl (E 3)))]) [0, 1, 2, 3, 4, 5, 6, 7, 8, 9, 10] (by decide) rfl) rfl rfl) rfl rfl hl.1 rfl (lv_room (Nat.le_of_ble_eq_true rfl)) dX3_scanAnew_104 ⟨(Nat.zero_le _), (Nat.zero_le _)⟩) hP hD hS hA [0, 1, 2, 3, 4, 5, 6, 7, 8, 9, 10] [11, 12, 13, 14, 15] rfl rfl (by decide) (by decide) (fun us H locs hus hP hD hS => ?_)
            have hP : va_P D vwCl [(g, .inr (0, [.ref g0, .ref g1, .ref g2, .ref g3, .int (nI gn)])), (g0, .inl (cI, 400, .inl (G 0))), (g1, .inl (cI, 400, .inl (G 1))), (g2, .inl (cI, 400, .inl (G 2))), (g3, .inl (cI, 400, .inl (G 3))), (h, .inr (3, [.ref tb, .ref t, .ref g, .ref f, .int (nI (rd + es_Lo ar (es_lk tx n) b)), .int (nI us), .int ed])), (tb, .inr (1, [.ref a, .ref k])), (a, .inl (cI, 200, .inl ar)), (k, .inl (cI, 20, .inl ki)), (t, .inr (2, [.ref r, .int (nI n)])), (r, .inl (cI, 400, .inl tx)), (f, .inr (0, [.ref b0, .ref b1, .ref b2, .ref b3, .int (nI (mm + 1))])), (b0, .inl (cI, 400, .inl (upd (E 0) mm (nI b)))), (b1, .inl (cI, 400, .inl (upd (E 1) mm (nI (es_Le ar ki (es_lk tx n) b))))), (b2, .inl (cI, 400, .inl (upd (E 2) mm (es_Kd ar ki (es_lk tx n) b)))), (b3, .inl (cI, 400, .inl (upd (E 3) mm (nI (es_Lo ar (es_lk tx n) b)))))] H := hP
            have hD : va_D A [(g, .inr (0, [.ref g0, .ref g1, .ref g2, .ref g3, .int (nI gn)])), (g0, .inl (cI, 400, .inl (G 0))), (g1, .inl (cI, 400, .inl (G 1))), (g2, .inl (cI, 400, .inl (G 2))), (g3, .inl (cI, 400, .inl (G 3))), (h, .inr (3, [.ref tb, .ref t, .ref g, .ref f, .int (nI (rd + es_Lo ar (es_lk tx n) b)), .int (nI us), .int ed])), (tb, .inr (1, [.ref a, .ref k])), (a, .inl (cI, 200, .inl ar)), (k, .inl (cI, 20, .inl ki)), (t, .inr (2, [.ref r, .int (nI n)])), (r, .inl (cI, 400, .inl tx)), (f, .inr (0, [.ref b0, .ref b1, .ref b2, .ref b3, .int (nI (mm + 1))])), (b0, .inl (cI, 400, .inl (upd (E 0) mm (nI b)))), (b1, .inl (cI, 400, .inl (upd (E 1) mm (nI (es_Le ar ki (es_lk tx n) b))))), (b2, .inl (cI, 400, .inl (upd (E 2) mm (es_Kd ar ki (es_lk tx n) b)))), (b3, .inl (cI, 400, .inl (upd (E 3) mm (nI (es_Lo ar (es_lk tx n) b)))))] := hD
            have hus2 : us = if 0 < es_Le ar ki (es_lk tx n) b then sc + 1 else sc := hus
            clear hus
            refine lv_aload_n hx hb dX3_scanAnew_107 rfl (lv_at hl 1 rfl) ?_
            refine va_get (D := D) (ci := 3) (v := .ref f) (C := RX3) (T := TX3) (N := 7) hx hb hw iwX3 hown hK.1 hP 5 rfl rfl 3 (by decide) (hw _ xw_210) (fun _ h9 => h9) rfl dX3_scanAnew_108 ?_
            refine vp_callSi (va_Run.run (va_runV (As := []) (rest := []) ⟨hx, hb, hml, hown, hw⟩ (c_X0_failed l D cI f b0 b1 b2 b3 (es_row4 (upd (E 0) mm (nI b)) (upd (E 1) mm (nI (es_Le ar ki (es_lk tx n) b))) (upd (E 2) mm (es_Kd ar ki (es_lk tx n) b)) (upd (E 3) mm (nI (es_Lo ar (es_lk tx n) b)))) (mm + 1) (by first | assumption | omega)) (cwV 0 hw (es_v xw_99 xw_167 xw_101 xw_102 xw_83) rfl rfl rfl kv_X0_failed ⟨Nat.le_trans (Nat.le_of_ble_eq_true rfl) hRm.1, Nat.le_trans (Nat.le_of_ble_eq_true rfl) hRm.2⟩) (es_RV hK (hP.sub (ws' := [(f, .inr (0, [.ref b0, .ref b1, .ref b2, .ref b3, .int (nI (mm + 1))])), (b0, .inl (cI, 400, .inl (upd (E 0) mm (nI b)))), (b1, .inl (cI, 400, .inl (upd (E 1) mm (nI (es_Le ar ki (es_lk tx n) b))))), (b2, .inl (cI, 400, .inl (upd (E 2) mm (es_Kd ar ki (es_lk tx n) b)))), (b3, .inl (cI, 400, .inl (upd (E 3) mm (nI (es_Lo ar (es_lk tx n) b)))))]) [11, 12, 13, 14, 15] rfl) rfl rfl) rfl rfl hl.1 rfl (lv_room (Nat.le_of_ble_eq_true rfl)) dX3_scanAnew_111 ⟨(Nat.zero_le _), (Nat.zero_le _)⟩)) (fun r_10 er_10 => ?_)
            obtain rfl : r_10 = if 0 < (mm + 1) ∧ (es_row4 (upd (E 0) mm (nI b)) (upd (E 1) mm (nI (es_Le ar ki (es_lk tx n) b))) (upd (E 2) mm (es_Kd ar ki (es_lk tx n) b)) (upd (E 3) mm (nI (es_Lo ar (es_lk tx n) b)))) 1 ((mm + 1) - 1) = 0 then (1 : Int32) else 0 := er_10
            refine lv_if_eq (tgt := 120) hx hb dX3_scanAnew_114 (by decide) (fun c_114 => ?_) (fun c_114 => ?_)
            ·
              have c_114 := es_if0 c_114
              have hz : ¬ es_Le ar ki (es_lk tx n) b = 0 := fun z => c_114 ((es_nf (by omega)).mpr z)
              rw [if_pos (Nat.pos_of_ne_zero hz)] at hus2
              subst us
              have hgo2 := es_go_step (rd := rd) (sc := sc) (Lo := es_Lo ar (es_lk tx n)) (by omega) hstop hz hfu
              refine lv_aload_n hx hb dX3_scanAnew_120 rfl (lv_at hl 1 rfl) ?_
              refine va_get (D := D) (ci := 3) (v := .ref f) (C := RX3) (T := TX3) (N := 7) hx hb hw iwX3 hown hK.1 hP 5 rfl rfl 3 (by decide) (hw _ xw_210) (fun _ h9 => h9) rfl dX3_scanAnew_121 ?_
              refine vp_callSi (va_Run.run (va_runV (As := []) (rest := []) ⟨hx, hb, hml, hown, hw⟩ (c_X0_nextBegin l D cI f b0 b1 b2 b3 (es_row4 (upd (E 0) mm (nI b)) (upd (E 1) mm (nI (es_Le ar ki (es_lk tx n) b))) (upd (E 2) mm (es_Kd ar ki (es_lk tx n) b)) (upd (E 3) mm (nI (es_Lo ar (es_lk tx n) b)))) (mm + 1) (by first | assumption | omega)) (cwV 0 hw (es_v xw_219 xw_220 xw_221 xw_222 xw_83) rfl rfl rfl kv_X0_nextBegin ⟨Nat.le_trans (Nat.le_of_ble_eq_true rfl) hRm.1, Nat.le_trans (Nat.le_of_ble_eq_true rfl) hRm.2⟩) (es_RV hK (hP.sub (ws' := [(f, .inr (0, [.ref b0, .ref b1, .ref b2, .ref b3, .int (nI (mm + 1))])), (b0, .inl (cI, 400, .inl (upd (E 0) mm (nI b)))), (b1, .inl (cI, 400, .inl (upd (E 1) mm (nI (es_Le ar ki (es_lk tx n) b))))), (b2, .inl (cI, 400, .inl (upd (E 2) mm (es_Kd ar ki (es_lk tx n) b)))), (b3, .inl (cI, 400, .inl (upd (E 3) mm (nI (es_Lo ar (es_lk tx n) b)))))]) [11, 12, 13, 14, 15] rfl) rfl rfl) rfl rfl hl.1 rfl (lv_room (Nat.le_of_ble_eq_true rfl)) dX3_scanAnew_124 ⟨(Nat.zero_le _), (Nat.zero_le _)⟩)) (fun r_11 er_11 => ?_)
              obtain rfl : r_11 = if 0 < (mm + 1) then (es_row4 (upd (E 0) mm (nI b)) (upd (E 1) mm (nI (es_Le ar ki (es_lk tx n) b))) (upd (E 2) mm (es_Kd ar ki (es_lk tx n) b)) (upd (E 3) mm (nI (es_Lo ar (es_lk tx n) b)))) 0 ((mm + 1) - 1) + (es_row4 (upd (E 0) mm (nI b)) (upd (E 1) mm (nI (es_Le ar ki (es_lk tx n) b))) (upd (E 2) mm (es_Kd ar ki (es_lk tx n) b)) (upd (E 3) mm (nI (es_Lo ar (es_lk tx n) b)))) 1 ((mm + 1) - 1) else 0 := er_11
              refine es_top (y := nI (b + es_Le ar ki (es_lk tx n) b)) es_nb ?_
              refine lv_istore (lv' := [(5, .int (nI (b + es_Le ar ki (es_lk tx n) b))), (4, .int (nI i1)), (0, .ref h), (2, .int (nI (pl + cn))), (3, .int ((nI cn) - (nI ou))), (6, .int (nI st))]) hx hb dX3_scanAnew_127 hl (by decide) rfl (fun ls hl => ?_)
              refine lv_iinc (v := nI (st + 1)) (lv' := [(6, .int (nI (st + 1))), (5, .int (nI (b + es_Le ar ki (es_lk tx n) b))), (4, .int (nI i1)), (0, .ref h), (2, .int (nI (pl + cn))), (3, .int ((nI cn) - (nI ou)))]) hx hb dX3_scanAnew_129 hl (k := 5) rfl (nI_1 _) (by decide) rfl (fun ls hl => ?_)
              refine lv_goto (tgt := 27) hx hb dX3_scanAnew_132 (by decide) ?_
              exact ih (es_row4 (upd (E 0) mm (nI b)) (upd (E 1) mm (nI (es_Le ar ki (es_lk tx n) b))) (upd (E 2) mm (es_Kd ar ki (es_lk tx n) b)) (upd (E 3) mm (nI (es_Lo ar (es_lk tx n) b)))) (mm + 1) i1 (b + es_Le ar ki (es_lk tx n) b) (st + 1) (rd + es_Lo ar (es_lk tx n) b) (sc + 1) (fu - 1) (es_fnd_s hE hbm) (lt_s htok (by rw [← hbm]; exact ⟨by omega, Nat.pos_of_ne_zero hz⟩)) (by rw [es_B, ← hbm]) (by omega) (by omega) (by omega) (fun j hj => by first | (have := hold j hj; omega) | (have := (es_nostop hG hcc hn0 (by omega) hcn (by omega) hold (by omega) hi2 hi3 hi4 ebo c_81).2 j hj; omega)) (hgo2.1.symm.trans hgo) hgo2.2 (by omega) H locs (hP.sub [5, 6, 7, 8, 9, 10, 11, 12, 13, 14, 15, 0, 1, 2, 3, 4] rfl) (hD.sub [5, 6, 7, 8, 9, 10, 11, 12, 13, 14, 15, 0, 1, 2, 3, 4] (by decide) rfl) hS ls (lv_sub hl [3, 4, 5, 2, 1, 0] rfl)
            ·
              have c_114 := es_if1 c_114
              have hz := (es_nf (by omega)).mp c_114
              rw [if_neg (by omega)] at hus2
              subst us
              refine lv_goto (tgt := 135) hx hb dX3_scanAnew_117 (by decide) ?_
              exact hex (es_row4 (upd (E 0) mm (nI b)) (upd (E 1) mm (nI (es_Le ar ki (es_lk tx n) b))) (upd (E 2) mm (es_Kd ar ki (es_lk tx n) b)) (upd (E 3) mm (nI (es_Lo ar (es_lk tx n) b)))) (mm + 1) (rd + es_Lo ar (es_lk tx n) b) sc (es_fail_cnt (by omega) (hbm ▸ hz) htok) (es_fnd_s hE hbm) ((es_go_fail (by omega) hstop hz hfu).symm.trans hgo)  H locs (hP.sub [5, 6, 7, 8, 9, 10, 11, 12, 13, 14, 15, 0, 1, 2, 3, 4] rfl) (hD.sub [5, 6, 7, 8, 9, 10, 11, 12, 13, 14, 15, 0, 1, 2, 3, 4] (by decide) rfl) hS ls (lv_sub hl [1] rfl)
          ·
            obtain ⟨hk1, hB1⟩ := es_syn hG hcc hn0 ebo hi2 (by omega) c_81
            have hb1 : pl + ou ≤ es_B (es_Le ar ki lk0) i1 := by omega
            have hm1 : es_B (es_Le ar ki (es_lk tx n)) mm + ou = es_B (es_Le ar ki lk0) i1 + cn := by rw [← hbm]; omega
            have hst1 : es_stop (es_B (es_Le ar ki lk0)) gn pl ou cn b = true := es_stop_iff.mpr ⟨by omega, i1, hk1, by omega⟩
            have hc400 := es_cnt_n (es_cnt_suf hchg hcc hk1 hb1 hm1 htok)
            refine lv_aload_n hx hb dX3_scanAnew_84 rfl (lv_at hl 1 rfl) ?_
            refine va_get (D := D) (ci := 3) (v := .ref f) (C := RX3) (T := TX3) (N := 7) hx hb hw iwX3 hown hK.1 hP 0 rfl rfl 3 (by decide) (hw _ xw_210) (fun _ h9 => h9) rfl dX3_scanAnew_85 ?_
            refine lv_aload_n hx hb dX3_scanAnew_88 rfl (lv_at hl 1 rfl) ?_
            refine va_get (D := D) (ci := 3) (v := .ref g) (C := RX3) (T := TX3) (N := 7) hx hb hw iwX3 hown hK.1 hP 0 rfl rfl 2 (by decide) (hw _ xw_146) (fun _ h9 => h9) rfl dX3_scanAnew_89 ?_
            refine lv_iload hx hb dX3_scanAnew_92 (lv_at hl 0 rfl) ?_
            refine lv_iload_n hx hb dX3_scanAnew_94 rfl (lv_at hl 3 rfl) ?_
            refine es_cv (wr := [(h, .inr (3, [.ref tb, .ref t, .ref g, .ref f, .int (nI rd), .int (nI sc), .int ed])), (tb, .inr (1, [.ref a, .ref k])), (a, .inl (cI, 200, .inl ar)), (k, .inl (cI, 20, .inl ki)), (t, .inr (2, [.ref r, .int (nI n)])), (r, .inl (cI, 400, .inl tx))]) (va_runV (As := [.ref g, .int (nI i1), .int ((nI cn) - (nI ou))]) (rest := []) ⟨hx, hb, hml, hown, hw⟩ (c_X0_takeMoved l D cI H.size f b0 b1 b2 b3 E mm g g0 g1 g2 g3 G gn i1 ((nI cn) - (nI ou)) (by first | assumption | omega) (by first | assumption | omega) (by omega)) (cwV 3 hw (es_v xw_227 xw_228 xw_229 xw_230 xw_83) rfl rfl rfl kv_X0_takeMoved ⟨Nat.le_trans (Nat.le_of_ble_eq_true rfl) hRm.1, Nat.le_trans (Nat.le_of_ble_eq_true rfl) hRm.2⟩) (es_WV hK (hP.sub (ws' := [(f, .inr (0, [.ref b0, .ref b1, .ref b2, .ref b3, .int (nI mm)])), (b0, .inl (cI, 400, .inl (E 0))), (b1, .inl (cI, 400, .inl (E 1))), (b2, .inl (cI, 400, .inl (E 2))), (b3, .inl (cI, 400, .inl (E 3))), (g, .inr (0, [.ref g0, .ref g1, .ref g2, .ref g3, .int (nI gn)])), (g0, .inl (cI, 400, .inl (G 0))), (g1, .inl (cI, 400, .inl (G 1))), (g2, .inl (cI, 400, .inl (G 2))), (g3, .inl (cI, 400, .inl (G 3)))]) [6, 7, 8, 9, 10, 11, 12, 13, 14, 15] rfl) (hD.sub (ws' := [(f, .inr (0, [.ref b0, .ref b1, .ref b2, .ref b3, .int (nI mm)])), (b0, .inl (cI, 400, .inl (E 0))), (b1, .inl (cI, 400, .inl (E 1))), (b2, .inl (cI, 400, .inl (E 2))), (b3, .inl (cI, 400, .inl (E 3))), (g, .inr (0, [.ref g0, .ref g1, .ref g2, .ref g3, .int (nI gn)])), (g0, .inl (cI, 400, .inl (G 0))), (g1, .inl (cI, 400, .inl (G 1))), (g2, .inl (cI, 400, .inl (G 2))), (g3, .inl (cI, 400, .inl (G 3)))]) [6, 7, 8, 9, 10, 11, 12, 13, 14, 15] (by decide) rfl) rfl rfl) rfl rfl hl.1 rfl (lv_room (Nat.le_of_ble_eq_true rfl)) dX3_scanAnew_95 ⟨(Nat.zero_le _), (Nat.zero_le _)⟩) hP hD hS hA [6, 7, 8, 9, 10, 11, 12, 13, 14, 15] [0, 1, 2, 3, 4, 5] rfl rfl (by decide) (by decide) (fun uv H locs huv hP hD hS => ?_)
            have hP : va_P D vwCl [(h, .inr (3, [.ref tb, .ref t, .ref g, .ref f, .int (nI rd), .int (nI sc), .int ed])), (tb, .inr (1, [.ref a, .ref k])), (a, .inl (cI, 200, .inl ar)), (k, .inl (cI, 20, .inl ki)), (t, .inr (2, [.ref r, .int (nI n)])), (r, .inl (cI, 400, .inl tx)), (f, .inr (0, [.ref b0, .ref b1, .ref b2, .ref b3, .int (nI (mm + (gn - i1)))])), (b0, .inl (cI, 400, .inl (uv 0))), (b1, .inl (cI, 400, .inl (uv 1))), (b2, .inl (cI, 400, .inl (uv 2))), (b3, .inl (cI, 400, .inl (uv 3))), (g, .inr (0, [.ref g0, .ref g1, .ref g2, .ref g3, .int (nI gn)])), (g0, .inl (cI, 400, .inl (G 0))), (g1, .inl (cI, 400, .inl (G 1))), (g2, .inl (cI, 400, .inl (G 2))), (g3, .inl (cI, 400, .inl (G 3)))] H := hP
            have hD : va_D A [(h, .inr (3, [.ref tb, .ref t, .ref g, .ref f, .int (nI rd), .int (nI sc), .int ed])), (tb, .inr (1, [.ref a, .ref k])), (a, .inl (cI, 200, .inl ar)), (k, .inl (cI, 20, .inl ki)), (t, .inr (2, [.ref r, .int (nI n)])), (r, .inl (cI, 400, .inl tx)), (f, .inr (0, [.ref b0, .ref b1, .ref b2, .ref b3, .int (nI (mm + (gn - i1)))])), (b0, .inl (cI, 400, .inl (uv 0))), (b1, .inl (cI, 400, .inl (uv 1))), (b2, .inl (cI, 400, .inl (uv 2))), (b3, .inl (cI, 400, .inl (uv 3))), (g, .inr (0, [.ref g0, .ref g1, .ref g2, .ref g3, .int (nI gn)])), (g0, .inl (cI, 400, .inl (G 0))), (g1, .inl (cI, 400, .inl (G 1))), (g2, .inl (cI, 400, .inl (G 2))), (g3, .inl (cI, 400, .inl (G 3)))] := hD
            have hmv := huv
            refine lv_goto (tgt := 135) hx hb dX3_scanAnew_98 (by decide) ?_
            exact hex uv (mm + (gn - i1)) rd sc (es_cnt_suf hchg hcc hk1 hb1 hm1 htok) (es_fnd_mv hchg hG hE (Nat.le_of_lt hk1) hmv hb1 hm1) ((es_go_end (fun z => absurd (z.2.symm.trans hst1) (by decide))).symm.trans hgo)  H locs (hP.sub [0, 1, 2, 3, 4, 5, 6, 7, 8, 9, 10, 11, 12, 13, 14, 15] rfl) (hD.sub [0, 1, 2, 3, 4, 5, 6, 7, 8, 9, 10, 11, 12, 13, 14, 15] (by decide) rfl) hS ls (lv_sub hl [1] rfl)
set_option maxHeartbeats 1000000 in
set_option maxRecDepth 100000 in
/-- X3.scanAnew  -/
theorem c_X3_scanAnew (l : Launch) (D : va_G) (cI : ClassId) (sz : Nat) (h : Nat) (tb : Nat) (a : Nat) (k : Nat) (ar : Nat → Int32) (ki : Nat → Int32) (t : Nat) (r : Nat) (tx : Nat → Int32) (n : Nat) (f : Nat) (b0 : Nat) (b1 : Nat) (b2 : Nat) (b3 : Nat) (F : Nat → Nat → Int32) (mm : Nat) (g : Nat) (g0 : Nat) (g1 : Nat) (g2 : Nat) (g3 : Nat) (G : Nat → Nat → Int32) (gn : Nat) (ed : Int32) (lk0 : Nat → Int32) (n0 : Nat) (pl : Nat) (ou : Nat) (cn : Nat) (fi : Nat) (hta : es_ta ar) (hsy : es_sy (es_lk tx n)) (hcn : cn ≤ 16) (hchg : es_chg lk0 (es_lk tx n) n0 n pl ou cn) (hcc : es_cnt (es_Le ar ki lk0) n0 gn) (hG : es_fnd ar ki lk0 G gn) (hfi : fi ≤ gn) (hfp : ∀ i, i < fi → es_B (es_Le ar ki lk0) i + es_Lo ar lk0 (es_B (es_Le ar ki lk0) i) ≤ pl) (hfs : fi < gn ∨ gn = 0) : Met l yX3_scanAnew (Cond.code yX3_scanAnew cX3_scanAnew 7 none :: es_T) { frames := 3, cells := 0, slots := 0, locals := 67 } (va_Pc [.ref h, .int (nI fi), .int (nI (pl + cn)), .int ((nI cn) - (nI ou))] (es_W D cI sz [(h, .inr (3, [.ref tb, .ref t, .ref g, .ref f, .int (nI 0), .int (nI 0), .int ed])), (tb, .inr (1, [.ref a, .ref k])), (a, .inl (cI, 200, .inl ar)), (k, .inl (cI, 20, .inl ki)), (t, .inr (2, [.ref r, .int (nI n)])), (r, .inl (cI, 400, .inl tx)), (f, .inr (0, [.ref b0, .ref b1, .ref b2, .ref b3, .int (nI mm)])), (b0, .inl (cI, 400, .inl (F 0))), (b1, .inl (cI, 400, .inl (F 1))), (b2, .inl (cI, 400, .inl (F 2))), (b3, .inl (cI, 400, .inl (F 3))), (g, .inr (0, [.ref g0, .ref g1, .ref g2, .ref g3, .int (nI gn)])), (g0, .inl (cI, 400, .inl (G 0))), (g1, .inl (cI, 400, .inl (G 1))), (g2, .inl (cI, 400, .inl (G 2))), (g3, .inl (cI, 400, .inl (G 3)))])) (va_Qv (fun u => es_cnt (es_Le ar ki (es_lk tx n)) n u.2.1 ∧ es_fnd ar ki (es_lk tx n) u.1 u.2.1 ∧ (u.2.2.1, u.2.2.2) = es_go (es_stop (es_B (es_Le ar ki lk0)) gn pl ou cn) (es_Le ar ki (es_lk tx n)) (es_Lo ar (es_lk tx n)) n (n + 1) (es_B (es_Le ar ki lk0) fi) 0 0) (fun (u : (Nat → Nat → Int32) × Nat × Nat × Nat) zt => va_P D vwCl [(h, .inr (3, [.ref tb, .ref t, .ref f, .ref g, .int (nI u.2.2.1), .int (nI u.2.2.2), .int ed])), (tb, .inr (1, [.ref a, .ref k])), (a, .inl (cI, 200, .inl ar)), (k, .inl (cI, 20, .inl ki)), (t, .inr (2, [.ref r, .int (nI n)])), (r, .inl (cI, 400, .inl tx)), (f, .inr (0, [.ref b0, .ref b1, .ref b2, .ref b3, .int (nI u.2.1)])), (b0, .inl (cI, 400, .inl (u.1 0))), (b1, .inl (cI, 400, .inl (u.1 1))), (b2, .inl (cI, 400, .inl (u.1 2))), (b3, .inl (cI, 400, .inl (u.1 3))), (g, .inr (0, [.ref g0, .ref g1, .ref g2, .ref g3, .int (nI gn)])), (g0, .inl (cI, 400, .inl (G 0))), (g1, .inl (cI, 400, .inl (G 1))), (g2, .inl (cI, 400, .inl (G 2))), (g3, .inl (cI, 400, .inl (G 3)))] zt.heap ∧ va_D (va_A [(h, .inr (3, [.ref tb, .ref t, .ref g, .ref f, .int (nI 0), .int (nI 0), .int ed])), (tb, .inr (1, [.ref a, .ref k])), (a, .inl (cI, 200, .inl ar)), (k, .inl (cI, 20, .inl ki)), (t, .inr (2, [.ref r, .int (nI n)])), (r, .inl (cI, 400, .inl tx)), (f, .inr (0, [.ref b0, .ref b1, .ref b2, .ref b3, .int (nI mm)])), (b0, .inl (cI, 400, .inl (F 0))), (b1, .inl (cI, 400, .inl (F 1))), (b2, .inl (cI, 400, .inl (F 2))), (b3, .inl (cI, 400, .inl (F 3))), (g, .inr (0, [.ref g0, .ref g1, .ref g2, .ref g3, .int (nI gn)])), (g0, .inl (cI, 400, .inl (G 0))), (g1, .inl (cI, 400, .inl (G 1))), (g2, .inl (cI, 400, .inl (G 2))), (g3, .inl (cI, 400, .inl (G 3)))] sz) [(h, .inr (3, [.ref tb, .ref t, .ref f, .ref g, .int (nI u.2.2.1), .int (nI u.2.2.2), .int ed])), (tb, .inr (1, [.ref a, .ref k])), (a, .inl (cI, 200, .inl ar)), (k, .inl (cI, 20, .inl ki)), (t, .inr (2, [.ref r, .int (nI n)])), (r, .inl (cI, 400, .inl tx)), (f, .inr (0, [.ref b0, .ref b1, .ref b2, .ref b3, .int (nI u.2.1)])), (b0, .inl (cI, 400, .inl (u.1 0))), (b1, .inl (cI, 400, .inl (u.1 1))), (b2, .inl (cI, 400, .inl (u.1 2))), (b3, .inl (cI, 400, .inl (u.1 3))), (g, .inr (0, [.ref g0, .ref g1, .ref g2, .ref g3, .int (nI gn)])), (g0, .inl (cI, 400, .inl (G 0))), (g1, .inl (cI, 400, .inl (G 1))), (g2, .inl (cI, 400, .inl (G 2))), (g3, .inl (cI, 400, .inl (G 3)))]) (va_A [(h, .inr (3, [.ref tb, .ref t, .ref g, .ref f, .int (nI 0), .int (nI 0), .int ed])), (tb, .inr (1, [.ref a, .ref k])), (a, .inl (cI, 200, .inl ar)), (k, .inl (cI, 20, .inl ki)), (t, .inr (2, [.ref r, .int (nI n)])), (r, .inl (cI, 400, .inl tx)), (f, .inr (0, [.ref b0, .ref b1, .ref b2, .ref b3, .int (nI mm)])), (b0, .inl (cI, 400, .inl (F 0))), (b1, .inl (cI, 400, .inl (F 1))), (b2, .inl (cI, 400, .inl (F 2))), (b3, .inl (cI, 400, .inl (F 3))), (g, .inr (0, [.ref g0, .ref g1, .ref g2, .ref g3, .int (nI gn)])), (g0, .inl (cI, 400, .inl (G 0))), (g1, .inl (cI, 400, .inl (G 1))), (g2, .inl (cI, 400, .inl (G 2))), (g3, .inl (cI, 400, .inl (G 3)))] sz)) 0 0 (va_A [(h, .inr (3, [.ref tb, .ref t, .ref g, .ref f, .int (nI 0), .int (nI 0), .int ed])), (tb, .inr (1, [.ref a, .ref k])), (a, .inl (cI, 200, .inl ar)), (k, .inl (cI, 20, .inl ki)), (t, .inr (2, [.ref r, .int (nI n)])), (r, .inl (cI, 400, .inl tx)), (f, .inr (0, [.ref b0, .ref b1, .ref b2, .ref b3, .int (nI mm)])), (b0, .inl (cI, 400, .inl (F 0))), (b1, .inl (cI, 400, .inl (F 1))), (b2, .inl (cI, 400, .inl (F 2))), (b3, .inl (cI, 400, .inl (F 3))), (g, .inr (0, [.ref g0, .ref g1, .ref g2, .ref g3, .int (nI gn)])), (g0, .inl (cI, 400, .inl (G 0))), (g1, .inl (cI, 400, .inl (G 1))), (g2, .inl (cI, 400, .inl (G 2))), (g3, .inl (cI, 400, .inl (G 3)))] sz) := by
  refine Met.ofW (cc := cX3_scanAnew) (maxL := 7) (ret := none) (by decide) rfl ?_
  intro p e s m args below meth c s₁ B hml hv
  obtain ⟨rfl, hsz, hP, hK, hD0⟩ := hv
  have hx := B.exec
  have hb := B.bytes
  have hr := B.returns
  have hts := atoms_spec (ws := (Cond.code yX3_scanAnew cX3_scanAnew 7 none :: es_T)) B.pre
  have hw : ∀ w ∈ es_T, w.before _ s = true := fun w h => hts w (List.mem_cons_of_mem _ h)
  have hown : s.vm.findClass RX3 = some m.cls := findClass_of_methodNamed B.named
  have hlocks := B.notSynchronized
  have hRm : 3 ≤ (headSpec (Cond.code yX3_scanAnew cX3_scanAnew 7 none :: es_T) { frames := 3, cells := 0, slots := 0, locals := 67 }).room.frames ∧ 67 ≤ (headSpec (Cond.code yX3_scanAnew cX3_scanAnew 7 none :: es_T) { frames := 3, cells := 0, slots := 0, locals := 67 }).room.locals := ⟨Nat.le_refl _, Nat.le_refl _⟩
  have hRc : 0 ≤ (headSpec (Cond.code yX3_scanAnew cX3_scanAnew 7 none :: es_T) { frames := 3, cells := 0, slots := 0, locals := 67 }).room.cells ∧ 0 ≤ (headSpec (Cond.code yX3_scanAnew cX3_scanAnew 7 none :: es_T) { frames := 3, cells := 0, slots := 0, locals := 67 }).room.slots := ⟨Nat.le_refl _, Nat.le_refl _⟩
  subst hsz
  have hD := hD0.self (sz := s.heap.size)
  generalize hAe : va_A [(h, .inr (3, [.ref tb, .ref t, .ref g, .ref f, .int (nI 0), .int (nI 0), .int ed])), (tb, .inr (1, [.ref a, .ref k])), (a, .inl (cI, 200, .inl ar)), (k, .inl (cI, 20, .inl ki)), (t, .inr (2, [.ref r, .int (nI n)])), (r, .inl (cI, 400, .inl tx)), (f, .inr (0, [.ref b0, .ref b1, .ref b2, .ref b3, .int (nI mm)])), (b0, .inl (cI, 400, .inl (F 0))), (b1, .inl (cI, 400, .inl (F 1))), (b2, .inl (cI, 400, .inl (F 2))), (b3, .inl (cI, 400, .inl (F 3))), (g, .inr (0, [.ref g0, .ref g1, .ref g2, .ref g3, .int (nI gn)])), (g0, .inl (cI, 400, .inl (G 0))), (g1, .inl (cI, 400, .inl (G 1))), (g2, .inl (cI, 400, .inl (G 2))), (g3, .inl (cI, 400, .inl (G 3)))] s.heap.size = A at hD ⊢
  have hA : ∀ q : Nat, s.heap.size ≤ q → A q := fun q h => by rw [← hAe]; exact Or.inr h
  have hS : va_S A s.heap s.heap [] := va_S.rf
  have hl := lv_entry ([.ref h, .int (nI fi), .int (nI (pl + cn)), .int ((nI cn) - (nI ou))]) (n := 7) (Nat.le_of_ble_eq_true rfl)
  rw [lg_entry_eq]
  generalize (lg_sl ([.ref h, .int (nI fi), .int (nI (pl + cn)), .int ((nI cn) - (nI ou))]) ++ List.replicate (7 - (lg_sl ([.ref h, .int (nI fi), .int (nI (pl + cn)), .int ((nI cn) - (nI ou))])).length) Slot.unset).toArray = ls at hl ⊢
  have hl : lv_has ls 7 [(0, .ref h), (1, .int (nI fi)), (2, .int (nI (pl + cn))), (3, .int ((nI cn) - (nI ou)))] := hl
  obtain ⟨hn0, hn, hpo, hnn, hlk0, hlk1, hpre_, hsuf_⟩ := id hchg
  have hgn := es_cnt_n hcc
  have hBf := es_B_fi hchg hfp
  refine lv_aload_n hx hb dX3_scanAnew_0 rfl (lv_at hl 0 rfl) ?_
  refine va_get (D := D) (ci := 3) (v := .ref f) (C := RX3) (T := TX3) (N := 7) hx hb hw iwX3 hown hK.1 hP 0 rfl rfl 3 (by decide) (hw _ xw_210) (fun _ h9 => h9) rfl dX3_scanAnew_1 ?_
  refine lv_aload_n hx hb dX3_scanAnew_4 rfl (lv_at hl 0 rfl) ?_
  refine va_get (D := D) (ci := 3) (v := .ref g) (C := RX3) (T := TX3) (N := 7) hx hb hw iwX3 hown hK.1 hP 0 rfl rfl 2 (by decide) (hw _ xw_146) (fun _ h9 => h9) rfl dX3_scanAnew_5 ?_
  refine lv_iload_n hx hb dX3_scanAnew_8 rfl (lv_at hl 1 rfl) ?_
  refine es_cv (wr := [(h, .inr (3, [.ref tb, .ref t, .ref g, .ref f, .int (nI 0), .int (nI 0), .int ed])), (tb, .inr (1, [.ref a, .ref k])), (a, .inl (cI, 200, .inl ar)), (k, .inl (cI, 20, .inl ki)), (t, .inr (2, [.ref r, .int (nI n)])), (r, .inl (cI, 400, .inl tx))]) (va_runV (As := [.ref g, .int (nI fi)]) (rest := []) ⟨hx, hb, hml, hown, hw⟩ (c_X0_takeUpTo l D cI s.heap.size f b0 b1 b2 b3 F mm g g0 g1 g2 g3 G gn fi (by first | assumption | omega) (by first | assumption | omega)) (cwV 2 hw (es_v xw_215 xw_216 xw_217 xw_218 xw_83) rfl rfl rfl kv_X0_takeUpTo ⟨Nat.le_trans (Nat.le_of_ble_eq_true rfl) hRm.1, Nat.le_trans (Nat.le_of_ble_eq_true rfl) hRm.2⟩) (es_WV hK (hP.sub (ws' := [(f, .inr (0, [.ref b0, .ref b1, .ref b2, .ref b3, .int (nI mm)])), (b0, .inl (cI, 400, .inl (F 0))), (b1, .inl (cI, 400, .inl (F 1))), (b2, .inl (cI, 400, .inl (F 2))), (b3, .inl (cI, 400, .inl (F 3))), (g, .inr (0, [.ref g0, .ref g1, .ref g2, .ref g3, .int (nI gn)])), (g0, .inl (cI, 400, .inl (G 0))), (g1, .inl (cI, 400, .inl (G 1))), (g2, .inl (cI, 400, .inl (G 2))), (g3, .inl (cI, 400, .inl (G 3)))]) [6, 7, 8, 9, 10, 11, 12, 13, 14, 15] rfl) (hD.sub (ws' := [(f, .inr (0, [.ref b0, .ref b1, .ref b2, .ref b3, .int (nI mm)])), (b0, .inl (cI, 400, .inl (F 0))), (b1, .inl (cI, 400, .inl (F 1))), (b2, .inl (cI, 400, .inl (F 2))), (b3, .inl (cI, 400, .inl (F 3))), (g, .inr (0, [.ref g0, .ref g1, .ref g2, .ref g3, .int (nI gn)])), (g0, .inl (cI, 400, .inl (G 0))), (g1, .inl (cI, 400, .inl (G 1))), (g2, .inl (cI, 400, .inl (G 2))), (g3, .inl (cI, 400, .inl (G 3)))]) [6, 7, 8, 9, 10, 11, 12, 13, 14, 15] (by decide) rfl) rfl rfl) rfl rfl hl.1 rfl (lv_room (Nat.le_of_ble_eq_true rfl)) dX3_scanAnew_9 ⟨(Nat.zero_le _), (Nat.zero_le _)⟩) hP hD hS hA [6, 7, 8, 9, 10, 11, 12, 13, 14, 15] [0, 1, 2, 3, 4, 5] rfl rfl (by decide) (by decide) (fun ut H locs hut hP hD hS => ?_)
  have hP : va_P D vwCl [(h, .inr (3, [.ref tb, .ref t, .ref g, .ref f, .int (nI 0), .int (nI 0), .int ed])), (tb, .inr (1, [.ref a, .ref k])), (a, .inl (cI, 200, .inl ar)), (k, .inl (cI, 20, .inl ki)), (t, .inr (2, [.ref r, .int (nI n)])), (r, .inl (cI, 400, .inl tx)), (f, .inr (0, [.ref b0, .ref b1, .ref b2, .ref b3, .int (nI fi)])), (b0, .inl (cI, 400, .inl (ut 0))), (b1, .inl (cI, 400, .inl (ut 1))), (b2, .inl (cI, 400, .inl (ut 2))), (b3, .inl (cI, 400, .inl (ut 3))), (g, .inr (0, [.ref g0, .ref g1, .ref g2, .ref g3, .int (nI gn)])), (g0, .inl (cI, 400, .inl (G 0))), (g1, .inl (cI, 400, .inl (G 1))), (g2, .inl (cI, 400, .inl (G 2))), (g3, .inl (cI, 400, .inl (G 3)))] H := hP
  have hD : va_D A [(h, .inr (3, [.ref tb, .ref t, .ref g, .ref f, .int (nI 0), .int (nI 0), .int ed])), (tb, .inr (1, [.ref a, .ref k])), (a, .inl (cI, 200, .inl ar)), (k, .inl (cI, 20, .inl ki)), (t, .inr (2, [.ref r, .int (nI n)])), (r, .inl (cI, 400, .inl tx)), (f, .inr (0, [.ref b0, .ref b1, .ref b2, .ref b3, .int (nI fi)])), (b0, .inl (cI, 400, .inl (ut 0))), (b1, .inl (cI, 400, .inl (ut 1))), (b2, .inl (cI, 400, .inl (ut 2))), (b3, .inl (cI, 400, .inl (ut 3))), (g, .inr (0, [.ref g0, .ref g1, .ref g2, .ref g3, .int (nI gn)])), (g0, .inl (cI, 400, .inl (G 0))), (g1, .inl (cI, 400, .inl (G 1))), (g2, .inl (cI, 400, .inl (G 2))), (g3, .inl (cI, 400, .inl (G 3)))] := hD
  refine lv_iload_n hx hb dX3_scanAnew_12 rfl (lv_at hl 1 rfl) ?_
  refine lv_istore (lv' := [(4, .int (nI fi)), (0, .ref h), (1, .int (nI fi)), (2, .int (nI (pl + cn))), (3, .int ((nI cn) - (nI ou)))]) hx hb dX3_scanAnew_13 hl (by decide) rfl (fun ls hl => ?_)
  refine lv_aload_n hx hb dX3_scanAnew_15 rfl (lv_at hl 1 rfl) ?_
  refine va_get (D := D) (ci := 3) (v := .ref f) (C := RX3) (T := TX3) (N := 7) hx hb hw iwX3 hown hK.1 hP 0 rfl rfl 3 (by decide) (hw _ xw_210) (fun _ h9 => h9) rfl dX3_scanAnew_16 ?_
  refine vp_callSi (va_Run.run (va_runV (As := []) (rest := []) ⟨hx, hb, hml, hown, hw⟩ (c_X0_nextBegin l D cI f b0 b1 b2 b3 ut fi (by first | assumption | omega)) (cwV 0 hw (es_v xw_219 xw_220 xw_221 xw_222 xw_83) rfl rfl rfl kv_X0_nextBegin ⟨Nat.le_trans (Nat.le_of_ble_eq_true rfl) hRm.1, Nat.le_trans (Nat.le_of_ble_eq_true rfl) hRm.2⟩) (es_RV hK (hP.sub (ws' := [(f, .inr (0, [.ref b0, .ref b1, .ref b2, .ref b3, .int (nI fi)])), (b0, .inl (cI, 400, .inl (ut 0))), (b1, .inl (cI, 400, .inl (ut 1))), (b2, .inl (cI, 400, .inl (ut 2))), (b3, .inl (cI, 400, .inl (ut 3)))]) [6, 7, 8, 9, 10] rfl) rfl rfl) rfl rfl hl.1 rfl (lv_room (Nat.le_of_ble_eq_true rfl)) dX3_scanAnew_19 ⟨(Nat.zero_le _), (Nat.zero_le _)⟩)) (fun r_3 er_3 => ?_)
  obtain rfl : r_3 = if 0 < fi then ut 0 (fi - 1) + ut 1 (fi - 1) else 0 := er_3
  refine es_top (y := nI (es_B (es_Le ar ki lk0) fi)) (es_nb_pre hG hfi hut) ?_
  refine lv_istore (lv' := [(5, .int (nI (es_B (es_Le ar ki lk0) fi))), (4, .int (nI fi)), (0, .ref h), (1, .int (nI fi)), (2, .int (nI (pl + cn))), (3, .int ((nI cn) - (nI ou)))]) hx hb dX3_scanAnew_22 hl (by decide) rfl (fun ls hl => ?_)
  refine lv_iconst (v := nI 0) hx hb dX3_scanAnew_24 (by decide) ?_
  refine lv_istore (lv' := [(6, .int (nI 0)), (5, .int (nI (es_B (es_Le ar ki lk0) fi))), (4, .int (nI fi)), (0, .ref h), (1, .int (nI fi)), (2, .int (nI (pl + cn))), (3, .int ((nI cn) - (nI ou)))]) hx hb dX3_scanAnew_25 hl (by decide) rfl (fun ls hl => ?_)
  refine lp_scanAnew D cI h tb a k ar ki t r tx n f b0 b1 b2 b3 g g0 g1 g2 g3 G gn ed lk0 n0 pl ou cn (es_go (es_stop (es_B (es_Le ar ki lk0)) gn pl ou cn) (es_Le ar ki (es_lk tx n)) (es_Lo ar (es_lk tx n)) n (n + 1) (es_B (es_Le ar ki lk0) fi) 0 0) hx hb hml hown hw hK ⟨Nat.le_trans (Nat.le_of_ble_eq_true rfl) hRm.1, Nat.le_trans (Nat.le_of_ble_eq_true rfl) hRm.2⟩ hA (by first | assumption | omega) (by first | assumption | omega) (by first | assumption | omega) (by first | assumption | omega) (by first | assumption | omega) (by first | assumption | omega) (fun E mm rd sc hct hE hT H locs hP hD hS ls hl => ?_) ((n - (es_B (es_Le ar ki lk0) fi)) + 1) ut fi fi (es_B (es_Le ar ki lk0) fi) 0 0 0 (n + 1) (es_fnd_pre hchg hG hfi hfp hut) (es_tok_pre hchg hcc hfs hfp) (es_B_pre hchg hfp fi (Nat.le_refl _)).symm (by omega) (Nat.zero_le _) hfi (fun j hj => Or.inl (by have := hfp j hj; have := es_Lo_pos (ar := ar) (b := es_B (es_Le ar ki lk0) j) hn0 hlk0; omega)) rfl (by omega) (Nat.lt_succ_self _) H locs (hP.sub [0, 1, 2, 3, 4, 5, 6, 7, 8, 9, 10, 11, 12, 13, 14, 15] rfl) (hD.sub [0, 1, 2, 3, 4, 5, 6, 7, 8, 9, 10, 11, 12, 13, 14, 15] (by decide) rfl) hS ls (lv_sub hl [3, 5, 6, 2, 1, 0] rfl)
  refine lv_aload_n hx hb dX3_scanAnew_135 rfl (lv_at hl 0 rfl) ?_
  refine va_get (D := D) (ci := 3) (v := .ref g) (C := RX3) (T := TX3) (N := 7) hx hb hw iwX3 hown hK.1 hP 0 rfl rfl 2 (by decide) (hw _ xw_146) (fun _ h9 => h9) rfl dX3_scanAnew_136 ?_
  refine lv_astore (lv' := [(6, .ref g), (0, .ref h)]) hx hb dX3_scanAnew_139 hl (by decide) rfl (fun ls hl => ?_)
  refine lv_aload_n hx hb dX3_scanAnew_141 rfl (lv_at hl 1 rfl) ?_
  refine lv_aload_n hx hb dX3_scanAnew_142 rfl (lv_at hl 1 rfl) ?_
  refine va_get (D := D) (ci := 3) (v := .ref f) (C := RX3) (T := TX3) (N := 7) hx hb hw iwX3 hown hK.1 hP 0 rfl rfl 3 (by decide) (hw _ xw_210) (fun _ h9 => h9) rfl dX3_scanAnew_143 ?_
  refine va_put (D := D) (ci := 3) (v := .ref f) (ty := (.object "EditedScanner$Findings")) (C := RX3) (T := TX3) (N := 7) hx hb hw iwX3 tyX3 tyX3_ok nmX3 hown hK.1 hP hD hS 0 rfl rfl 2 (by decide) (hw _ xw_146) (fun _ h9 => h9) rfl (by decide +kernel) rfl rfl (Nat.le_of_ble_eq_true rfl) dX3_scanAnew_146 (fun H locs hP hD hS => ?_)
  have hP : va_P D vwCl [(h, .inr (3, [.ref tb, .ref t, .ref f, .ref f, .int (nI rd), .int (nI sc), .int ed])), (tb, .inr (1, [.ref a, .ref k])), (a, .inl (cI, 200, .inl ar)), (k, .inl (cI, 20, .inl ki)), (t, .inr (2, [.ref r, .int (nI n)])), (r, .inl (cI, 400, .inl tx)), (f, .inr (0, [.ref b0, .ref b1, .ref b2, .ref b3, .int (nI mm)])), (b0, .inl (cI, 400, .inl (E 0))), (b1, .inl (cI, 400, .inl (E 1))), (b2, .inl (cI, 400, .inl (E 2))), (b3, .inl (cI, 400, .inl (E 3))), (g, .inr (0, [.ref g0, .ref g1, .ref g2, .ref g3, .int (nI gn)])), (g0, .inl (cI, 400, .inl (G 0))), (g1, .inl (cI, 400, .inl (G 1))), (g2, .inl (cI, 400, .inl (G 2))), (g3, .inl (cI, 400, .inl (G 3)))] H := hP
  have hD : va_D A [(h, .inr (3, [.ref tb, .ref t, .ref f, .ref f, .int (nI rd), .int (nI sc), .int ed])), (tb, .inr (1, [.ref a, .ref k])), (a, .inl (cI, 200, .inl ar)), (k, .inl (cI, 20, .inl ki)), (t, .inr (2, [.ref r, .int (nI n)])), (r, .inl (cI, 400, .inl tx)), (f, .inr (0, [.ref b0, .ref b1, .ref b2, .ref b3, .int (nI mm)])), (b0, .inl (cI, 400, .inl (E 0))), (b1, .inl (cI, 400, .inl (E 1))), (b2, .inl (cI, 400, .inl (E 2))), (b3, .inl (cI, 400, .inl (E 3))), (g, .inr (0, [.ref g0, .ref g1, .ref g2, .ref g3, .int (nI gn)])), (g0, .inl (cI, 400, .inl (G 0))), (g1, .inl (cI, 400, .inl (G 1))), (g2, .inl (cI, 400, .inl (G 2))), (g3, .inl (cI, 400, .inl (G 3)))] := hD
  refine lv_aload_n hx hb dX3_scanAnew_149 rfl (lv_at hl 1 rfl) ?_
  refine lv_aload hx hb dX3_scanAnew_150 (lv_at hl 0 rfl) ?_
  refine va_put (D := D) (ci := 3) (v := .ref g) (ty := (.object "EditedScanner$Findings")) (C := RX3) (T := TX3) (N := 7) hx hb hw iwX3 tyX3 tyX3_ok nmX3 hown hK.1 hP hD hS 0 rfl rfl 3 (by decide) (hw _ xw_210) (fun _ h9 => h9) rfl (by decide +kernel) rfl rfl (Nat.le_of_ble_eq_true rfl) dX3_scanAnew_152 (fun H locs hP hD hS => ?_)
  have hP : va_P D vwCl [(h, .inr (3, [.ref tb, .ref t, .ref f, .ref g, .int (nI rd), .int (nI sc), .int ed])), (tb, .inr (1, [.ref a, .ref k])), (a, .inl (cI, 200, .inl ar)), (k, .inl (cI, 20, .inl ki)), (t, .inr (2, [.ref r, .int (nI n)])), (r, .inl (cI, 400, .inl tx)), (f, .inr (0, [.ref b0, .ref b1, .ref b2, .ref b3, .int (nI mm)])), (b0, .inl (cI, 400, .inl (E 0))), (b1, .inl (cI, 400, .inl (E 1))), (b2, .inl (cI, 400, .inl (E 2))), (b3, .inl (cI, 400, .inl (E 3))), (g, .inr (0, [.ref g0, .ref g1, .ref g2, .ref g3, .int (nI gn)])), (g0, .inl (cI, 400, .inl (G 0))), (g1, .inl (cI, 400, .inl (G 1))), (g2, .inl (cI, 400, .inl (G 2))), (g3, .inl (cI, 400, .inl (G 3)))] H := hP
  have hD : va_D A [(h, .inr (3, [.ref tb, .ref t, .ref f, .ref g, .int (nI rd), .int (nI sc), .int ed])), (tb, .inr (1, [.ref a, .ref k])), (a, .inl (cI, 200, .inl ar)), (k, .inl (cI, 20, .inl ki)), (t, .inr (2, [.ref r, .int (nI n)])), (r, .inl (cI, 400, .inl tx)), (f, .inr (0, [.ref b0, .ref b1, .ref b2, .ref b3, .int (nI mm)])), (b0, .inl (cI, 400, .inl (E 0))), (b1, .inl (cI, 400, .inl (E 1))), (b2, .inl (cI, 400, .inl (E 2))), (b3, .inl (cI, 400, .inl (E 3))), (g, .inr (0, [.ref g0, .ref g1, .ref g2, .ref g3, .int (nI gn)])), (g0, .inl (cI, 400, .inl (G 0))), (g1, .inl (cI, 400, .inl (G 1))), (g2, .inl (cI, 400, .inl (G 2))), (g3, .inl (cI, 400, .inl (G 3)))] := hD
  exact W.vret hx hb hr (fun zt ht hW => ⟨⟨(E, mm, rd, sc), rfl, ⟨hct, hE, hT⟩, ⟨by rw [ht]; exact hP.sub [0, 1, 2, 3, 4, 5, 6, 7, 8, 9, 10, 11, 12, 13, 14, 15] rfl, hD.sub [0, 1, 2, 3, 4, 5, 6, 7, 8, 9, 10, 11, 12, 13, 14, 15] (by decide) rfl⟩⟩, hS.F ht⟩) hS.2.2 dX3_scanAnew_155
end
section
-- ===== an edit, whole =====
abbrev es_okE (n : Nat) (x y z : Int32) (sy : Int64) : Prop := es_can n x y z ∧ ∀ j, j < z.toNatClampNeg → es_dg sy j < 10
/-- what an edit reads and scans anew -/
def es_rs (ar ki lk lk' : Nat → Int32) (n n' c pl ou cn : Nat) (T : Nat × Nat) : Prop := ∃ fi, fi ≤ c ∧ (∀ i, i < fi → es_B (es_Le ar ki lk) i + es_Lo ar lk (es_B (es_Le ar ki lk) i) ≤ pl) ∧ (fi < c → pl < es_B (es_Le ar ki lk) fi + es_Lo ar lk (es_B (es_Le ar ki lk) fi)) ∧
  ((fi < c ∨ n = 0) → T = es_go (es_stop (es_B (es_Le ar ki lk)) c pl ou cn) (es_Le ar ki lk') (es_Lo ar lk') n' (n' + 1) (es_B (es_Le ar ki lk) fi) 0 0) ∧ (¬ (fi < c ∨ n = 0) → T = (0, 0))
theorem es_rs_eq {ar ki lk lk' : Nat → Int32} {n n' c pl ou cn : Nat} {T T' : Nat × Nat} (h : es_rs ar ki lk lk' n n' c pl ou cn T) (h' : es_rs ar ki lk lk' n n' c pl ou cn T') : T = T' := by
  obtain ⟨f, h1, h2, h3, h4, h5⟩ := h
  obtain ⟨f', h1', h2', h3', h4', h5'⟩ := h'
  have e : f = f' := by
    rcases Nat.lt_trichotomy f f' with h6 | h6 | h6
    · have := h2' f h6; have := h3 (by omega); omega
    · exact h6
    · have := h2 f' h6; have := h3' (by omega); omega
  subst e
  by_cases hz : f < c ∨ n = 0
  · rw [h4 hz, h4' hz]
  · rw [h5 hz, h5' hz]
def es_edP (ar ki : Nat → Int32) (tx : Nat → Int32) (n c : Nat) (x y : Int32) (sy : Int64) (z : Int32) (tx' : Nat → Int32) (n' : Nat) (T : Nat × Nat) : Prop := ∃ pl ou cn, x = nI pl ∧ y = nI ou ∧ z = nI cn ∧ pl + ou ≤ n ∧ cn ≤ 16 ∧ n' = n - ou + cn ∧ n' ≤ 400 ∧ (∀ j, j < cn → es_dg sy j < 10) ∧ es_rep tx tx' n pl ou sy cn ∧ es_rs ar ki (es_lk tx n) (es_lk tx' n') n n' c pl ou cn T
theorem es_chg_of {tx ux : Nat → Int32} {n pl ou cn : Nat} {sy : Int64} (hn : n ≤ 400) (h1 : pl + ou ≤ n) (h3 : n - ou + cn ≤ 400) (h : es_rep tx ux n pl ou sy cn) : es_chg (es_lk tx n) (es_lk ux (n - ou + cn)) n (n - ou + cn) pl ou cn := by
  refine ⟨hn, h3, h1, by omega, fun j hj => es_lk_end hj, fun j hj => es_lk_end hj, fun j hj => ?_, fun j k hj hk => ?_⟩
  · unfold es_lk
    rw [if_pos (by omega), if_pos (by omega)]
    exact h.1 j hj
  · unfold es_lk
    rcases Nat.lt_or_ge j n with h4 | h4
    · rw [if_pos (by omega), if_pos h4, ← h.2.2 j hj h4]
      congr 1
      omega
    · rw [if_neg (by omega), if_neg (by omega)]
theorem es_sy_of {tx ux : Nat → Int32} {n pl ou cn : Nat} {sy : Int64} (hs : es_sy (es_lk tx n)) (h1 : pl + ou ≤ n) (h : es_rep tx ux n pl ou sy cn) (hd : ∀ j, j < cn → es_dg sy j < 10) : es_sy (es_lk ux (n - ou + cn)) := by
  intro j
  unfold es_lk
  rcases Nat.lt_or_ge j (n - ou + cn) with h2 | h2
  · rw [if_pos h2]
    rcases Nat.lt_or_ge j pl with h3 | h3
    · rw [h.1 j h3]
      have h4 := hs j
      unfold es_lk at h4
      rwa [if_pos (by omega)] at h4
    · rcases Nat.lt_or_ge j (pl + cn) with h5 | h5
      · have h6 := h.2.1 (j - pl) (by omega)
        rw [show pl + (j - pl) = j by omega] at h6
        exact Or.inr ⟨_, hd (cn - 1 - (j - pl)) (by omega), h6⟩
      · have h6 := h.2.2 (j + ou - cn) (by omega) (by omega)
        rw [show j + ou - cn - ou + cn = j by omega] at h6
        rw [h6]
        have h4 := hs (j + ou - cn)
        unfold es_lk at h4
        rwa [if_pos (by omega)] at h4
  · rw [if_neg (by omega)]; exact Or.inl rfl
theorem es_Lo_le {ar tx : Nat → Int32} {n b : Nat} (hn : n ≤ 400) : es_Lo ar (es_lk tx n) b ≤ 401 := by
  have := (es_Lo_is (ar := ar) (lk := es_lk tx n) (b := b) (e := n - b) (es_lk_end (by omega)) (by omega)).2.1
  omega
theorem es_fi1 {ar ki tx : Nat → Int32} {F : Nat → Nat → Int32} {n c fi pl : Nat} (hF : es_fnd ar ki (es_lk tx n) F c) (hc : es_cnt (es_Le ar ki (es_lk tx n)) n c) (hn : n ≤ 400) (hp : pl ≤ 400) (hfi : fi ≤ c) (h : ∀ j, j < fi → ¬ nI pl < F 0 j + F 3 j) : ∀ i, i < fi → es_B (es_Le ar ki (es_lk tx n)) i + es_Lo ar (es_lk tx n) (es_B (es_Le ar ki (es_lk tx n)) i) ≤ pl := by
  intro i hi
  have h1 := h i hi
  obtain ⟨e0, -, -, e3⟩ := hF i (by omega)
  have hb := hc.1 i (by omega)
  have hl := es_Lo_le (ar := ar) (tx := tx) (b := es_B (es_Le ar ki (es_lk tx n)) i) hn
  rw [e0, e3, nI_add, nI_ltI (by omega) (by omega)] at h1
  omega
theorem es_fi2 {ar ki tx : Nat → Int32} {F : Nat → Nat → Int32} {n c fi pl : Nat} (hF : es_fnd ar ki (es_lk tx n) F c) (hc : es_cnt (es_Le ar ki (es_lk tx n)) n c) (hn : n ≤ 400) (hp : pl ≤ 400) (h : fi < c → nI pl < F 0 fi + F 3 fi) : fi < c → pl < es_B (es_Le ar ki (es_lk tx n)) fi + es_Lo ar (es_lk tx n) (es_B (es_Le ar ki (es_lk tx n)) fi) := by
  intro hi
  have h1 := h hi
  obtain ⟨e0, -, -, e3⟩ := hF fi hi
  have hb := hc.1 fi hi
  have hl := es_Lo_le (ar := ar) (tx := tx) (b := es_B (es_Le ar ki (es_lk tx n)) fi) hn
  rw [e0, e3, nI_add, nI_ltI (by omega) (by omega)] at h1
  exact h1
/-- nothing looked at the place: all stays -/
theorem es_keep {ar ki lk lk' : Nat → Int32} {F : Nat → Nat → Int32} {n n' pl ou cn c : Nat} (h : es_chg lk lk' n n' pl ou cn) (hc : es_cnt (es_Le ar ki lk) n c) (hF : es_fnd ar ki lk F c) (h0 : ¬ n = 0) (hf : ∀ i, i < c → es_B (es_Le ar ki lk) i + es_Lo ar lk (es_B (es_Le ar ki lk) i) ≤ pl) : es_cnt (es_Le ar ki lk') n' c ∧ es_fnd ar ki lk' F c := by
  have hb := es_B_pre (ar := ar) (ki := ki) h hf
  have hp : ∀ i, i < c → es_Le ar ki lk' (es_B (es_Le ar ki lk') i) = es_Le ar ki lk (es_B (es_Le ar ki lk) i) := fun i hi => by rw [hb i (by omega), (es_pre (ki := ki) h (hf i hi)).2.1]
  refine ⟨⟨fun i hi => ?_, fun i hi => ?_, ?_⟩, es_fnd_pre h hF (Nat.le_refl c) hf (fun _ _ _ _ => rfl)⟩
  · rw [hb i (by omega)]
    have := hf i hi
    have := es_Lo_pos (ar := ar) (b := es_B (es_Le ar ki lk) i) h.1 h.2.2.2.2.1
    have := h.2.2.1; have := h.2.2.2.1
    omega
  · rw [hp i (by omega)]; exact hc.2.1 i hi
  · rcases hc.2.2 with ⟨h1, h2⟩ | ⟨h1, h2 | h2⟩
    · omega
    · right
      refine ⟨h1, Or.inl ?_⟩
      rw [hp (c - 1) (by omega)]; exact h2
    · exfalso
      have h3 := hf (c - 1) (by omega)
      obtain ⟨e, he, hl, -⟩ := es_end (b := es_B (es_Le ar ki lk) (c - 1)) h.1 h.2.2.2.2.1
      have h4 := (es_Le_lt (ar := ar) (ki := ki) he hl).1
      obtain ⟨k, rfl⟩ : ∃ k, c = k + 1 := ⟨c - 1, by omega⟩
      rw [es_B] at h2
      have := h.2.2.1
      rw [Nat.add_sub_cancel] at h3 h4
      omega
end
section
set_option maxHeartbeats 1000000 in
set_option maxRecDepth 100000 in
/-- X3.arrow  -/
theorem c_X3_arrow (l : Launch) (D : va_G) (cI : ClassId) (sz : Nat) (h : Nat) (tb : Nat) (a : Nat) (k : Nat) (ar : Nat → Int32) (ki : Nat → Int32) (t : Nat) (r : Nat) (tx : Nat → Int32) (n : Nat) (f : Nat) (b0 : Nat) (b1 : Nat) (b2 : Nat) (b3 : Nat) (F : Nat → Nat → Int32) (cc : Nat) (g : Nat) (g0 : Nat) (g1 : Nat) (g2 : Nat) (g3 : Nat) (G : Nat → Nat → Int32) (gn : Nat) (rd : Nat) (sc : Nat) (ed : Nat) (x : Int32) (y : Int32) (z : Int32) (hn : n ≤ 400) : Met l yX3_arrow (Cond.code yX3_arrow cX3_arrow 4 (some .boolean) :: es_T) { frames := 2, cells := 0, slots := 0, locals := 43 } (va_Pc [.ref h, .int x, .int y, .int z] (es_W D cI sz [(h, .inr (3, [.ref tb, .ref t, .ref f, .ref g, .int (nI rd), .int (nI sc), .int (nI ed)])), (tb, .inr (1, [.ref a, .ref k])), (a, .inl (cI, 200, .inl ar)), (k, .inl (cI, 20, .inl ki)), (t, .inr (2, [.ref r, .int (nI n)])), (r, .inl (cI, 400, .inl tx)), (f, .inr (0, [.ref b0, .ref b1, .ref b2, .ref b3, .int (nI cc)])), (b0, .inl (cI, 400, .inl (F 0))), (b1, .inl (cI, 400, .inl (F 1))), (b2, .inl (cI, 400, .inl (F 2))), (b3, .inl (cI, 400, .inl (F 3))), (g, .inr (0, [.ref g0, .ref g1, .ref g2, .ref g3, .int (nI gn)])), (g0, .inl (cI, 400, .inl (G 0))), (g1, .inl (cI, 400, .inl (G 1))), (g2, .inl (cI, 400, .inl (G 2))), (g3, .inl (cI, 400, .inl (G 3)))])) (va_Qi (fun q u => (q = nI 1 ∧ (n = 0 ∧ es_okA x y z) ∧ u = upd ar (10 * x.toNatClampNeg + y.toNatClampNeg) z) ∨ (q = nI 0 ∧ ¬ (n = 0 ∧ es_okA x y z) ∧ u = ar)) (fun (u : Nat → Int32) zt => va_P D vwCl [(h, .inr (3, [.ref tb, .ref t, .ref f, .ref g, .int (nI rd), .int (nI sc), .int (nI ed)])), (tb, .inr (1, [.ref a, .ref k])), (a, .inl (cI, 200, .inl u)), (k, .inl (cI, 20, .inl ki)), (t, .inr (2, [.ref r, .int (nI n)])), (r, .inl (cI, 400, .inl tx)), (f, .inr (0, [.ref b0, .ref b1, .ref b2, .ref b3, .int (nI cc)])), (b0, .inl (cI, 400, .inl (F 0))), (b1, .inl (cI, 400, .inl (F 1))), (b2, .inl (cI, 400, .inl (F 2))), (b3, .inl (cI, 400, .inl (F 3))), (g, .inr (0, [.ref g0, .ref g1, .ref g2, .ref g3, .int (nI gn)])), (g0, .inl (cI, 400, .inl (G 0))), (g1, .inl (cI, 400, .inl (G 1))), (g2, .inl (cI, 400, .inl (G 2))), (g3, .inl (cI, 400, .inl (G 3)))] zt.heap ∧ va_D (va_A [(h, .inr (3, [.ref tb, .ref t, .ref f, .ref g, .int (nI rd), .int (nI sc), .int (nI ed)])), (tb, .inr (1, [.ref a, .ref k])), (a, .inl (cI, 200, .inl ar)), (k, .inl (cI, 20, .inl ki)), (t, .inr (2, [.ref r, .int (nI n)])), (r, .inl (cI, 400, .inl tx)), (f, .inr (0, [.ref b0, .ref b1, .ref b2, .ref b3, .int (nI cc)])), (b0, .inl (cI, 400, .inl (F 0))), (b1, .inl (cI, 400, .inl (F 1))), (b2, .inl (cI, 400, .inl (F 2))), (b3, .inl (cI, 400, .inl (F 3))), (g, .inr (0, [.ref g0, .ref g1, .ref g2, .ref g3, .int (nI gn)])), (g0, .inl (cI, 400, .inl (G 0))), (g1, .inl (cI, 400, .inl (G 1))), (g2, .inl (cI, 400, .inl (G 2))), (g3, .inl (cI, 400, .inl (G 3)))] sz) [(h, .inr (3, [.ref tb, .ref t, .ref f, .ref g, .int (nI rd), .int (nI sc), .int (nI ed)])), (tb, .inr (1, [.ref a, .ref k])), (a, .inl (cI, 200, .inl u)), (k, .inl (cI, 20, .inl ki)), (t, .inr (2, [.ref r, .int (nI n)])), (r, .inl (cI, 400, .inl tx)), (f, .inr (0, [.ref b0, .ref b1, .ref b2, .ref b3, .int (nI cc)])), (b0, .inl (cI, 400, .inl (F 0))), (b1, .inl (cI, 400, .inl (F 1))), (b2, .inl (cI, 400, .inl (F 2))), (b3, .inl (cI, 400, .inl (F 3))), (g, .inr (0, [.ref g0, .ref g1, .ref g2, .ref g3, .int (nI gn)])), (g0, .inl (cI, 400, .inl (G 0))), (g1, .inl (cI, 400, .inl (G 1))), (g2, .inl (cI, 400, .inl (G 2))), (g3, .inl (cI, 400, .inl (G 3)))]) (va_A [(h, .inr (3, [.ref tb, .ref t, .ref f, .ref g, .int (nI rd), .int (nI sc), .int (nI ed)])), (tb, .inr (1, [.ref a, .ref k])), (a, .inl (cI, 200, .inl ar)), (k, .inl (cI, 20, .inl ki)), (t, .inr (2, [.ref r, .int (nI n)])), (r, .inl (cI, 400, .inl tx)), (f, .inr (0, [.ref b0, .ref b1, .ref b2, .ref b3, .int (nI cc)])), (b0, .inl (cI, 400, .inl (F 0))), (b1, .inl (cI, 400, .inl (F 1))), (b2, .inl (cI, 400, .inl (F 2))), (b3, .inl (cI, 400, .inl (F 3))), (g, .inr (0, [.ref g0, .ref g1, .ref g2, .ref g3, .int (nI gn)])), (g0, .inl (cI, 400, .inl (G 0))), (g1, .inl (cI, 400, .inl (G 1))), (g2, .inl (cI, 400, .inl (G 2))), (g3, .inl (cI, 400, .inl (G 3)))] sz)) 0 0 (va_A [(h, .inr (3, [.ref tb, .ref t, .ref f, .ref g, .int (nI rd), .int (nI sc), .int (nI ed)])), (tb, .inr (1, [.ref a, .ref k])), (a, .inl (cI, 200, .inl ar)), (k, .inl (cI, 20, .inl ki)), (t, .inr (2, [.ref r, .int (nI n)])), (r, .inl (cI, 400, .inl tx)), (f, .inr (0, [.ref b0, .ref b1, .ref b2, .ref b3, .int (nI cc)])), (b0, .inl (cI, 400, .inl (F 0))), (b1, .inl (cI, 400, .inl (F 1))), (b2, .inl (cI, 400, .inl (F 2))), (b3, .inl (cI, 400, .inl (F 3))), (g, .inr (0, [.ref g0, .ref g1, .ref g2, .ref g3, .int (nI gn)])), (g0, .inl (cI, 400, .inl (G 0))), (g1, .inl (cI, 400, .inl (G 1))), (g2, .inl (cI, 400, .inl (G 2))), (g3, .inl (cI, 400, .inl (G 3)))] sz) := by
  refine Met.ofW (cc := cX3_arrow) (maxL := 4) (ret := (some .boolean)) (by decide) rfl ?_
  intro p e s m args below meth c s₁ B hml hv
  obtain ⟨rfl, hsz, hP, hK, hD0⟩ := hv
  have hx := B.exec
  have hb := B.bytes
  have hr := B.returns
  have hts := atoms_spec (ws := (Cond.code yX3_arrow cX3_arrow 4 (some .boolean) :: es_T)) B.pre
  have hw : ∀ w ∈ es_T, w.before _ s = true := fun w h => hts w (List.mem_cons_of_mem _ h)
  have hown : s.vm.findClass RX3 = some m.cls := findClass_of_methodNamed B.named
  have hlocks := B.notSynchronized
  have hRm : 2 ≤ (headSpec (Cond.code yX3_arrow cX3_arrow 4 (some .boolean) :: es_T) { frames := 2, cells := 0, slots := 0, locals := 43 }).room.frames ∧ 43 ≤ (headSpec (Cond.code yX3_arrow cX3_arrow 4 (some .boolean) :: es_T) { frames := 2, cells := 0, slots := 0, locals := 43 }).room.locals := ⟨Nat.le_refl _, Nat.le_refl _⟩
  have hRc : 0 ≤ (headSpec (Cond.code yX3_arrow cX3_arrow 4 (some .boolean) :: es_T) { frames := 2, cells := 0, slots := 0, locals := 43 }).room.cells ∧ 0 ≤ (headSpec (Cond.code yX3_arrow cX3_arrow 4 (some .boolean) :: es_T) { frames := 2, cells := 0, slots := 0, locals := 43 }).room.slots := ⟨Nat.le_refl _, Nat.le_refl _⟩
  subst hsz
  have hD := hD0.self (sz := s.heap.size)
  generalize hAe : va_A [(h, .inr (3, [.ref tb, .ref t, .ref f, .ref g, .int (nI rd), .int (nI sc), .int (nI ed)])), (tb, .inr (1, [.ref a, .ref k])), (a, .inl (cI, 200, .inl ar)), (k, .inl (cI, 20, .inl ki)), (t, .inr (2, [.ref r, .int (nI n)])), (r, .inl (cI, 400, .inl tx)), (f, .inr (0, [.ref b0, .ref b1, .ref b2, .ref b3, .int (nI cc)])), (b0, .inl (cI, 400, .inl (F 0))), (b1, .inl (cI, 400, .inl (F 1))), (b2, .inl (cI, 400, .inl (F 2))), (b3, .inl (cI, 400, .inl (F 3))), (g, .inr (0, [.ref g0, .ref g1, .ref g2, .ref g3, .int (nI gn)])), (g0, .inl (cI, 400, .inl (G 0))), (g1, .inl (cI, 400, .inl (G 1))), (g2, .inl (cI, 400, .inl (G 2))), (g3, .inl (cI, 400, .inl (G 3)))] s.heap.size = A at hD ⊢
  have hA : ∀ q : Nat, s.heap.size ≤ q → A q := fun q h => by rw [← hAe]; exact Or.inr h
  have hS : va_S A s.heap s.heap [] := va_S.rf
  have hl := lv_entry ([.ref h, .int x, .int y, .int z]) (n := 4) (Nat.le_of_ble_eq_true rfl)
  rw [lg_entry_eq]
  generalize (lg_sl ([.ref h, .int x, .int y, .int z]) ++ List.replicate (4 - (lg_sl ([.ref h, .int x, .int y, .int z])).length) Slot.unset).toArray = ls at hl ⊢
  have hl : lv_has ls 4 [(0, .ref h), (1, .int x), (2, .int y), (3, .int z)] := hl
  refine lv_aload_n hx hb dX3_arrow_0 rfl (lv_at hl 0 rfl) ?_
  refine va_get (D := D) (ci := 3) (v := .ref t) (C := RX3) (T := TX3) (N := 7) hx hb hw iwX3 hown hK.1 hP 0 rfl rfl 1 (by decide) (hw _ xw_136) (fun _ h9 => h9) rfl dX3_arrow_1 ?_
  refine vp_callSi (va_Run.run (va_runV (As := []) (rest := []) ⟨hx, hb, hml, hown, hw⟩ (c_X2_isEmpty l D cI t r tx n (by first | assumption | omega)) (cwV 0 hw (es_v xw_137 xw_138 xw_139 xw_140 xw_125) rfl rfl rfl kv_X2_isEmpty ⟨Nat.le_trans (Nat.le_of_ble_eq_true rfl) hRm.1, Nat.le_trans (Nat.le_of_ble_eq_true rfl) hRm.2⟩) (es_RV hK (hP.sub (ws' := [(t, .inr (2, [.ref r, .int (nI n)])), (r, .inl (cI, 400, .inl tx))]) [4, 5] rfl) rfl rfl) rfl rfl hl.1 rfl (lv_room (Nat.le_of_ble_eq_true rfl)) dX3_arrow_4 ⟨(Nat.zero_le _), (Nat.zero_le _)⟩)) (fun r_1 er_1 => ?_)
  obtain rfl : r_1 = if n = 0 then (1 : Int32) else 0 := er_1
  refine lv_if_eq (tgt := 27) hx hb dX3_arrow_7 (by decide) (fun c_7 => ?_) (fun c_7 => ?_)
  ·
    have c_7 := es_if0 c_7
    refine lv_iconst (v := nI 0) hx hb dX3_arrow_27 (by decide) ?_
    exact W.zret (v := nI 0) hx hb hr rfl (fun zt ht hW => ⟨⟨_, ar, rfl, (by first | exact Or.inr ⟨rfl, fun h => c_7 h.1, rfl⟩ | (rcases huv with h | h; exact Or.inl ⟨rfl, ⟨c_7, h.2.1⟩, h.2.2⟩; exact absurd h.1 c_20) | (rcases huv with h | h; exact absurd (h.1.symm.trans c_20) (by decide); exact Or.inr ⟨rfl, fun h2 => h.2.1 h2.2, h.2.2⟩)), ⟨by rw [ht]; exact hP.sub [0, 1, 2, 3, 4, 5, 6, 7, 8, 9, 10, 11, 12, 13, 14, 15] rfl, hD.sub [0, 1, 2, 3, 4, 5, 6, 7, 8, 9, 10, 11, 12, 13, 14, 15] (by decide) rfl⟩⟩, hS.F ht⟩) hS.2.2 dX3_arrow_28
  ·
    have c_7 := es_if1 c_7
    refine lv_aload_n hx hb dX3_arrow_10 rfl (lv_at hl 0 rfl) ?_
    refine va_get (D := D) (ci := 3) (v := .ref tb) (C := RX3) (T := TX3) (N := 7) hx hb hw iwX3 hown hK.1 hP 0 rfl rfl 0 (by decide) (hw _ xw_141) (fun _ h9 => h9) rfl dX3_arrow_11 ?_
    refine lv_iload_n hx hb dX3_arrow_14 rfl (lv_at hl 1 rfl) ?_
    refine lv_iload_n hx hb dX3_arrow_15 rfl (lv_at hl 2 rfl) ?_
    refine lv_iload_n hx hb dX3_arrow_16 rfl (lv_at hl 3 rfl) ?_
    refine es_ci (wr := [(h, .inr (3, [.ref tb, .ref t, .ref f, .ref g, .int (nI rd), .int (nI sc), .int (nI ed)])), (t, .inr (2, [.ref r, .int (nI n)])), (r, .inl (cI, 400, .inl tx)), (f, .inr (0, [.ref b0, .ref b1, .ref b2, .ref b3, .int (nI cc)])), (b0, .inl (cI, 400, .inl (F 0))), (b1, .inl (cI, 400, .inl (F 1))), (b2, .inl (cI, 400, .inl (F 2))), (b3, .inl (cI, 400, .inl (F 3))), (g, .inr (0, [.ref g0, .ref g1, .ref g2, .ref g3, .int (nI gn)])), (g0, .inl (cI, 400, .inl (G 0))), (g1, .inl (cI, 400, .inl (G 1))), (g2, .inl (cI, 400, .inl (G 2))), (g3, .inl (cI, 400, .inl (G 3)))]) (va_runV (As := [.int x, .int y, .int z]) (rest := []) ⟨hx, hb, hml, hown, hw⟩ (c_X1_setArrow l D cI s.heap.size tb a k ar ki x y z ) (cwV 3 hw (es_v xw_142 xw_143 xw_144 xw_145 xw_111) rfl rfl rfl kv_X1_setArrow ⟨Nat.le_trans (Nat.le_of_ble_eq_true rfl) hRm.1, Nat.le_trans (Nat.le_of_ble_eq_true rfl) hRm.2⟩) (es_WV hK (hP.sub (ws' := [(tb, .inr (1, [.ref a, .ref k])), (a, .inl (cI, 200, .inl ar)), (k, .inl (cI, 20, .inl ki))]) [1, 2, 3] rfl) (hD.sub (ws' := [(tb, .inr (1, [.ref a, .ref k])), (a, .inl (cI, 200, .inl ar)), (k, .inl (cI, 20, .inl ki))]) [1, 2, 3] (by decide) rfl) rfl rfl) rfl rfl hl.1 rfl (lv_room (Nat.le_of_ble_eq_true rfl)) dX3_arrow_17 ⟨(Nat.zero_le _), (Nat.zero_le _)⟩) hP hD hS hA [1, 2, 3] [0, 4, 5, 6, 7, 8, 9, 10, 11, 12, 13, 14, 15] rfl rfl (by decide) (by decide) (fun rv uv H locs huv hP hD hS => ?_)
    have hP : va_P D vwCl [(h, .inr (3, [.ref tb, .ref t, .ref f, .ref g, .int (nI rd), .int (nI sc), .int (nI ed)])), (t, .inr (2, [.ref r, .int (nI n)])), (r, .inl (cI, 400, .inl tx)), (f, .inr (0, [.ref b0, .ref b1, .ref b2, .ref b3, .int (nI cc)])), (b0, .inl (cI, 400, .inl (F 0))), (b1, .inl (cI, 400, .inl (F 1))), (b2, .inl (cI, 400, .inl (F 2))), (b3, .inl (cI, 400, .inl (F 3))), (g, .inr (0, [.ref g0, .ref g1, .ref g2, .ref g3, .int (nI gn)])), (g0, .inl (cI, 400, .inl (G 0))), (g1, .inl (cI, 400, .inl (G 1))), (g2, .inl (cI, 400, .inl (G 2))), (g3, .inl (cI, 400, .inl (G 3))), (tb, .inr (1, [.ref a, .ref k])), (a, .inl (cI, 200, .inl uv)), (k, .inl (cI, 20, .inl ki))] H := hP
    have hD : va_D A [(h, .inr (3, [.ref tb, .ref t, .ref f, .ref g, .int (nI rd), .int (nI sc), .int (nI ed)])), (t, .inr (2, [.ref r, .int (nI n)])), (r, .inl (cI, 400, .inl tx)), (f, .inr (0, [.ref b0, .ref b1, .ref b2, .ref b3, .int (nI cc)])), (b0, .inl (cI, 400, .inl (F 0))), (b1, .inl (cI, 400, .inl (F 1))), (b2, .inl (cI, 400, .inl (F 2))), (b3, .inl (cI, 400, .inl (F 3))), (g, .inr (0, [.ref g0, .ref g1, .ref g2, .ref g3, .int (nI gn)])), (g0, .inl (cI, 400, .inl (G 0))), (g1, .inl (cI, 400, .inl (G 1))), (g2, .inl (cI, 400, .inl (G 2))), (g3, .inl (cI, 400, .inl (G 3))), (tb, .inr (1, [.ref a, .ref k])), (a, .inl (cI, 200, .inl uv)), (k, .inl (cI, 20, .inl ki))] := hD
    refine lv_if_eq (tgt := 27) hx hb dX3_arrow_20 (by decide) (fun c_20 => ?_) (fun c_20 => ?_)
    ·
      refine lv_iconst (v := nI 0) hx hb dX3_arrow_27 (by decide) ?_
      exact W.zret (v := nI 0) hx hb hr rfl (fun zt ht hW => ⟨⟨_, uv, rfl, (by first | exact Or.inr ⟨rfl, fun h => c_7 h.1, rfl⟩ | (rcases huv with h | h; exact Or.inl ⟨rfl, ⟨c_7, h.2.1⟩, h.2.2⟩; exact absurd h.1 c_20) | (rcases huv with h | h; exact absurd (h.1.symm.trans c_20) (by decide); exact Or.inr ⟨rfl, fun h2 => h.2.1 h2.2, h.2.2⟩)), ⟨by rw [ht]; exact hP.sub [0, 13, 14, 15, 1, 2, 3, 4, 5, 6, 7, 8, 9, 10, 11, 12] rfl, hD.sub [0, 13, 14, 15, 1, 2, 3, 4, 5, 6, 7, 8, 9, 10, 11, 12] (by decide) rfl⟩⟩, hS.F ht⟩) hS.2.2 dX3_arrow_28
    ·
      refine lv_iconst (v := nI 1) hx hb dX3_arrow_23 (by decide) ?_
      refine lv_goto (tgt := 28) hx hb dX3_arrow_24 (by decide) ?_
      exact W.zret (v := nI 1) hx hb hr rfl (fun zt ht hW => ⟨⟨_, uv, rfl, (by first | exact Or.inr ⟨rfl, fun h => c_7 h.1, rfl⟩ | (rcases huv with h | h; exact Or.inl ⟨rfl, ⟨c_7, h.2.1⟩, h.2.2⟩; exact absurd h.1 c_20) | (rcases huv with h | h; exact absurd (h.1.symm.trans c_20) (by decide); exact Or.inr ⟨rfl, fun h2 => h.2.1 h2.2, h.2.2⟩)), ⟨by rw [ht]; exact hP.sub [0, 13, 14, 15, 1, 2, 3, 4, 5, 6, 7, 8, 9, 10, 11, 12] rfl, hD.sub [0, 13, 14, 15, 1, 2, 3, 4, 5, 6, 7, 8, 9, 10, 11, 12] (by decide) rfl⟩⟩, hS.F ht⟩) hS.2.2 dX3_arrow_28
set_option maxHeartbeats 1000000 in
set_option maxRecDepth 100000 in
/-- X3.kind  -/
theorem c_X3_kind (l : Launch) (D : va_G) (cI : ClassId) (sz : Nat) (h : Nat) (tb : Nat) (a : Nat) (k : Nat) (ar : Nat → Int32) (ki : Nat → Int32) (t : Nat) (r : Nat) (tx : Nat → Int32) (n : Nat) (f : Nat) (b0 : Nat) (b1 : Nat) (b2 : Nat) (b3 : Nat) (F : Nat → Nat → Int32) (cc : Nat) (g : Nat) (g0 : Nat) (g1 : Nat) (g2 : Nat) (g3 : Nat) (G : Nat → Nat → Int32) (gn : Nat) (rd : Nat) (sc : Nat) (ed : Nat) (x : Int32) (y : Int32) (hn : n ≤ 400) : Met l yX3_kind (Cond.code yX3_kind cX3_kind 3 (some .boolean) :: es_T) { frames := 2, cells := 0, slots := 0, locals := 42 } (va_Pc [.ref h, .int x, .int y] (es_W D cI sz [(h, .inr (3, [.ref tb, .ref t, .ref f, .ref g, .int (nI rd), .int (nI sc), .int (nI ed)])), (tb, .inr (1, [.ref a, .ref k])), (a, .inl (cI, 200, .inl ar)), (k, .inl (cI, 20, .inl ki)), (t, .inr (2, [.ref r, .int (nI n)])), (r, .inl (cI, 400, .inl tx)), (f, .inr (0, [.ref b0, .ref b1, .ref b2, .ref b3, .int (nI cc)])), (b0, .inl (cI, 400, .inl (F 0))), (b1, .inl (cI, 400, .inl (F 1))), (b2, .inl (cI, 400, .inl (F 2))), (b3, .inl (cI, 400, .inl (F 3))), (g, .inr (0, [.ref g0, .ref g1, .ref g2, .ref g3, .int (nI gn)])), (g0, .inl (cI, 400, .inl (G 0))), (g1, .inl (cI, 400, .inl (G 1))), (g2, .inl (cI, 400, .inl (G 2))), (g3, .inl (cI, 400, .inl (G 3)))])) (va_Qi (fun q u => (q = nI 1 ∧ (n = 0 ∧ es_okK x y) ∧ u = upd ki x.toNatClampNeg y) ∨ (q = nI 0 ∧ ¬ (n = 0 ∧ es_okK x y) ∧ u = ki)) (fun (u : Nat → Int32) zt => va_P D vwCl [(h, .inr (3, [.ref tb, .ref t, .ref f, .ref g, .int (nI rd), .int (nI sc), .int (nI ed)])), (tb, .inr (1, [.ref a, .ref k])), (a, .inl (cI, 200, .inl ar)), (k, .inl (cI, 20, .inl u)), (t, .inr (2, [.ref r, .int (nI n)])), (r, .inl (cI, 400, .inl tx)), (f, .inr (0, [.ref b0, .ref b1, .ref b2, .ref b3, .int (nI cc)])), (b0, .inl (cI, 400, .inl (F 0))), (b1, .inl (cI, 400, .inl (F 1))), (b2, .inl (cI, 400, .inl (F 2))), (b3, .inl (cI, 400, .inl (F 3))), (g, .inr (0, [.ref g0, .ref g1, .ref g2, .ref g3, .int (nI gn)])), (g0, .inl (cI, 400, .inl (G 0))), (g1, .inl (cI, 400, .inl (G 1))), (g2, .inl (cI, 400, .inl (G 2))), (g3, .inl (cI, 400, .inl (G 3)))] zt.heap ∧ va_D (va_A [(h, .inr (3, [.ref tb, .ref t, .ref f, .ref g, .int (nI rd), .int (nI sc), .int (nI ed)])), (tb, .inr (1, [.ref a, .ref k])), (a, .inl (cI, 200, .inl ar)), (k, .inl (cI, 20, .inl ki)), (t, .inr (2, [.ref r, .int (nI n)])), (r, .inl (cI, 400, .inl tx)), (f, .inr (0, [.ref b0, .ref b1, .ref b2, .ref b3, .int (nI cc)])), (b0, .inl (cI, 400, .inl (F 0))), (b1, .inl (cI, 400, .inl (F 1))), (b2, .inl (cI, 400, .inl (F 2))), (b3, .inl (cI, 400, .inl (F 3))), (g, .inr (0, [.ref g0, .ref g1, .ref g2, .ref g3, .int (nI gn)])), (g0, .inl (cI, 400, .inl (G 0))), (g1, .inl (cI, 400, .inl (G 1))), (g2, .inl (cI, 400, .inl (G 2))), (g3, .inl (cI, 400, .inl (G 3)))] sz) [(h, .inr (3, [.ref tb, .ref t, .ref f, .ref g, .int (nI rd), .int (nI sc), .int (nI ed)])), (tb, .inr (1, [.ref a, .ref k])), (a, .inl (cI, 200, .inl ar)), (k, .inl (cI, 20, .inl u)), (t, .inr (2, [.ref r, .int (nI n)])), (r, .inl (cI, 400, .inl tx)), (f, .inr (0, [.ref b0, .ref b1, .ref b2, .ref b3, .int (nI cc)])), (b0, .inl (cI, 400, .inl (F 0))), (b1, .inl (cI, 400, .inl (F 1))), (b2, .inl (cI, 400, .inl (F 2))), (b3, .inl (cI, 400, .inl (F 3))), (g, .inr (0, [.ref g0, .ref g1, .ref g2, .ref g3, .int (nI gn)])), (g0, .inl (cI, 400, .inl (G 0))), (g1, .inl (cI, 400, .inl (G 1))), (g2, .inl (cI, 400, .inl (G 2))), (g3, .inl (cI, 400, .inl (G 3)))]) (va_A [(h, .inr (3, [.ref tb, .ref t, .ref f, .ref g, .int (nI rd), .int (nI sc), .int (nI ed)])), (tb, .inr (1, [.ref a, .ref k])), (a, .inl (cI, 200, .inl ar)), (k, .inl (cI, 20, .inl ki)), (t, .inr (2, [.ref r, .int (nI n)])), (r, .inl (cI, 400, .inl tx)), (f, .inr (0, [.ref b0, .ref b1, .ref b2, .ref b3, .int (nI cc)])), (b0, .inl (cI, 400, .inl (F 0))), (b1, .inl (cI, 400, .inl (F 1))), (b2, .inl (cI, 400, .inl (F 2))), (b3, .inl (cI, 400, .inl (F 3))), (g, .inr (0, [.ref g0, .ref g1, .ref g2, .ref g3, .int (nI gn)])), (g0, .inl (cI, 400, .inl (G 0))), (g1, .inl (cI, 400, .inl (G 1))), (g2, .inl (cI, 400, .inl (G 2))), (g3, .inl (cI, 400, .inl (G 3)))] sz)) 0 0 (va_A [(h, .inr (3, [.ref tb, .ref t, .ref f, .ref g, .int (nI rd), .int (nI sc), .int (nI ed)])), (tb, .inr (1, [.ref a, .ref k])), (a, .inl (cI, 200, .inl ar)), (k, .inl (cI, 20, .inl ki)), (t, .inr (2, [.ref r, .int (nI n)])), (r, .inl (cI, 400, .inl tx)), (f, .inr (0, [.ref b0, .ref b1, .ref b2, .ref b3, .int (nI cc)])), (b0, .inl (cI, 400, .inl (F 0))), (b1, .inl (cI, 400, .inl (F 1))), (b2, .inl (cI, 400, .inl (F 2))), (b3, .inl (cI, 400, .inl (F 3))), (g, .inr (0, [.ref g0, .ref g1, .ref g2, .ref g3, .int (nI gn)])), (g0, .inl (cI, 400, .inl (G 0))), (g1, .inl (cI, 400, .inl (G 1))), (g2, .inl (cI, 400, .inl (G 2))), (g3, .inl (cI, 400, .inl (G 3)))] sz) := by
  refine Met.ofW (cc := cX3_kind) (maxL := 3) (ret := (some .boolean)) (by decide) rfl ?_
  intro p e s m args below meth c s₁ B hml hv
  obtain ⟨rfl, hsz, hP, hK, hD0⟩ := hv
  have hx := B.exec
  have hb := B.bytes
  have hr := B.returns
  have hts := atoms_spec (ws := (Cond.code yX3_kind cX3_kind 3 (some .boolean) :: es_T)) B.pre
  have hw : ∀ w ∈ es_T, w.before _ s = true := fun w h => hts w (List.mem_cons_of_mem _ h)
  have hown : s.vm.findClass RX3 = some m.cls := findClass_of_methodNamed B.named
  have hlocks := B.notSynchronized
  have hRm : 2 ≤ (headSpec (Cond.code yX3_kind cX3_kind 3 (some .boolean) :: es_T) { frames := 2, cells := 0, slots := 0, locals := 42 }).room.frames ∧ 42 ≤ (headSpec (Cond.code yX3_kind cX3_kind 3 (some .boolean) :: es_T) { frames := 2, cells := 0, slots := 0, locals := 42 }).room.locals := ⟨Nat.le_refl _, Nat.le_refl _⟩
  have hRc : 0 ≤ (headSpec (Cond.code yX3_kind cX3_kind 3 (some .boolean) :: es_T) { frames := 2, cells := 0, slots := 0, locals := 42 }).room.cells ∧ 0 ≤ (headSpec (Cond.code yX3_kind cX3_kind 3 (some .boolean) :: es_T) { frames := 2, cells := 0, slots := 0, locals := 42 }).room.slots := ⟨Nat.le_refl _, Nat.le_refl _⟩
  subst hsz
  have hD := hD0.self (sz := s.heap.size)
  generalize hAe : va_A [(h, .inr (3, [.ref tb, .ref t, .ref f, .ref g, .int (nI rd), .int (nI sc), .int (nI ed)])), (tb, .inr (1, [.ref a, .ref k])), (a, .inl (cI, 200, .inl ar)), (k, .inl (cI, 20, .inl ki)), (t, .inr (2, [.ref r, .int (nI n)])), (r, .inl (cI, 400, .inl tx)), (f, .inr (0, [.ref b0, .ref b1, .ref b2, .ref b3, .int (nI cc)])), (b0, .inl (cI, 400, .inl (F 0))), (b1, .inl (cI, 400, .inl (F 1))), (b2, .inl (cI, 400, .inl (F 2))), (b3, .inl (cI, 400, .inl (F 3))), (g, .inr (0, [.ref g0, .ref g1, .ref g2, .ref g3, .int (nI gn)])), (g0, .inl (cI, 400, .inl (G 0))), (g1, .inl (cI, 400, .inl (G 1))), (g2, .inl (cI, 400, .inl (G 2))), (g3, .inl (cI, 400, .inl (G 3)))] s.heap.size = A at hD ⊢
  have hA : ∀ q : Nat, s.heap.size ≤ q → A q := fun q h => by rw [← hAe]; exact Or.inr h
  have hS : va_S A s.heap s.heap [] := va_S.rf
  have hl := lv_entry ([.ref h, .int x, .int y]) (n := 3) (Nat.le_of_ble_eq_true rfl)
  rw [lg_entry_eq]
  generalize (lg_sl ([.ref h, .int x, .int y]) ++ List.replicate (3 - (lg_sl ([.ref h, .int x, .int y])).length) Slot.unset).toArray = ls at hl ⊢
  have hl : lv_has ls 3 [(0, .ref h), (1, .int x), (2, .int y)] := hl
  refine lv_aload_n hx hb dX3_kind_0 rfl (lv_at hl 0 rfl) ?_
  refine va_get (D := D) (ci := 3) (v := .ref t) (C := RX3) (T := TX3) (N := 7) hx hb hw iwX3 hown hK.1 hP 0 rfl rfl 1 (by decide) (hw _ xw_136) (fun _ h9 => h9) rfl dX3_kind_1 ?_
  refine vp_callSi (va_Run.run (va_runV (As := []) (rest := []) ⟨hx, hb, hml, hown, hw⟩ (c_X2_isEmpty l D cI t r tx n (by first | assumption | omega)) (cwV 0 hw (es_v xw_137 xw_138 xw_139 xw_140 xw_125) rfl rfl rfl kv_X2_isEmpty ⟨Nat.le_trans (Nat.le_of_ble_eq_true rfl) hRm.1, Nat.le_trans (Nat.le_of_ble_eq_true rfl) hRm.2⟩) (es_RV hK (hP.sub (ws' := [(t, .inr (2, [.ref r, .int (nI n)])), (r, .inl (cI, 400, .inl tx))]) [4, 5] rfl) rfl rfl) rfl rfl hl.1 rfl (lv_room (Nat.le_of_ble_eq_true rfl)) dX3_kind_4 ⟨(Nat.zero_le _), (Nat.zero_le _)⟩)) (fun r_1 er_1 => ?_)
  obtain rfl : r_1 = if n = 0 then (1 : Int32) else 0 := er_1
  refine lv_if_eq (tgt := 26) hx hb dX3_kind_7 (by decide) (fun c_7 => ?_) (fun c_7 => ?_)
  ·
    have c_7 := es_if0 c_7
    refine lv_iconst (v := nI 0) hx hb dX3_kind_26 (by decide) ?_
    exact W.zret (v := nI 0) hx hb hr rfl (fun zt ht hW => ⟨⟨_, ki, rfl, (by first | exact Or.inr ⟨rfl, fun h => c_7 h.1, rfl⟩ | (rcases huv with h | h; exact Or.inl ⟨rfl, ⟨c_7, h.2.1⟩, h.2.2⟩; exact absurd h.1 c_19) | (rcases huv with h | h; exact absurd (h.1.symm.trans c_19) (by decide); exact Or.inr ⟨rfl, fun h2 => h.2.1 h2.2, h.2.2⟩)), ⟨by rw [ht]; exact hP.sub [0, 1, 2, 3, 4, 5, 6, 7, 8, 9, 10, 11, 12, 13, 14, 15] rfl, hD.sub [0, 1, 2, 3, 4, 5, 6, 7, 8, 9, 10, 11, 12, 13, 14, 15] (by decide) rfl⟩⟩, hS.F ht⟩) hS.2.2 dX3_kind_27
  ·
    have c_7 := es_if1 c_7
    refine lv_aload_n hx hb dX3_kind_10 rfl (lv_at hl 0 rfl) ?_
    refine va_get (D := D) (ci := 3) (v := .ref tb) (C := RX3) (T := TX3) (N := 7) hx hb hw iwX3 hown hK.1 hP 0 rfl rfl 0 (by decide) (hw _ xw_141) (fun _ h9 => h9) rfl dX3_kind_11 ?_
    refine lv_iload_n hx hb dX3_kind_14 rfl (lv_at hl 1 rfl) ?_
    refine lv_iload_n hx hb dX3_kind_15 rfl (lv_at hl 2 rfl) ?_
    refine es_ci (wr := [(h, .inr (3, [.ref tb, .ref t, .ref f, .ref g, .int (nI rd), .int (nI sc), .int (nI ed)])), (t, .inr (2, [.ref r, .int (nI n)])), (r, .inl (cI, 400, .inl tx)), (f, .inr (0, [.ref b0, .ref b1, .ref b2, .ref b3, .int (nI cc)])), (b0, .inl (cI, 400, .inl (F 0))), (b1, .inl (cI, 400, .inl (F 1))), (b2, .inl (cI, 400, .inl (F 2))), (b3, .inl (cI, 400, .inl (F 3))), (g, .inr (0, [.ref g0, .ref g1, .ref g2, .ref g3, .int (nI gn)])), (g0, .inl (cI, 400, .inl (G 0))), (g1, .inl (cI, 400, .inl (G 1))), (g2, .inl (cI, 400, .inl (G 2))), (g3, .inl (cI, 400, .inl (G 3)))]) (va_runV (As := [.int x, .int y]) (rest := []) ⟨hx, hb, hml, hown, hw⟩ (c_X1_setKind l D cI s.heap.size tb a k ar ki x y ) (cwV 2 hw (es_v xw_211 xw_212 xw_213 xw_214 xw_111) rfl rfl rfl kv_X1_setKind ⟨Nat.le_trans (Nat.le_of_ble_eq_true rfl) hRm.1, Nat.le_trans (Nat.le_of_ble_eq_true rfl) hRm.2⟩) (es_WV hK (hP.sub (ws' := [(tb, .inr (1, [.ref a, .ref k])), (a, .inl (cI, 200, .inl ar)), (k, .inl (cI, 20, .inl ki))]) [1, 2, 3] rfl) (hD.sub (ws' := [(tb, .inr (1, [.ref a, .ref k])), (a, .inl (cI, 200, .inl ar)), (k, .inl (cI, 20, .inl ki))]) [1, 2, 3] (by decide) rfl) rfl rfl) rfl rfl hl.1 rfl (lv_room (Nat.le_of_ble_eq_true rfl)) dX3_kind_16 ⟨(Nat.zero_le _), (Nat.zero_le _)⟩) hP hD hS hA [1, 2, 3] [0, 4, 5, 6, 7, 8, 9, 10, 11, 12, 13, 14, 15] rfl rfl (by decide) (by decide) (fun rv uv H locs huv hP hD hS => ?_)
    have hP : va_P D vwCl [(h, .inr (3, [.ref tb, .ref t, .ref f, .ref g, .int (nI rd), .int (nI sc), .int (nI ed)])), (t, .inr (2, [.ref r, .int (nI n)])), (r, .inl (cI, 400, .inl tx)), (f, .inr (0, [.ref b0, .ref b1, .ref b2, .ref b3, .int (nI cc)])), (b0, .inl (cI, 400, .inl (F 0))), (b1, .inl (cI, 400, .inl (F 1))), (b2, .inl (cI, 400, .inl (F 2))), (b3, .inl (cI, 400, .inl (F 3))), (g, .inr (0, [.ref g0, .ref g1, .ref g2, .ref g3, .int (nI gn)])), (g0, .inl (cI, 400, .inl (G 0))), (g1, .inl (cI, 400, .inl (G 1))), (g2, .inl (cI, 400, .inl (G 2))), (g3, .inl (cI, 400, .inl (G 3))), (tb, .inr (1, [.ref a, .ref k])), (a, .inl (cI, 200, .inl ar)), (k, .inl (cI, 20, .inl uv))] H := hP
    have hD : va_D A [(h, .inr (3, [.ref tb, .ref t, .ref f, .ref g, .int (nI rd), .int (nI sc), .int (nI ed)])), (t, .inr (2, [.ref r, .int (nI n)])), (r, .inl (cI, 400, .inl tx)), (f, .inr (0, [.ref b0, .ref b1, .ref b2, .ref b3, .int (nI cc)])), (b0, .inl (cI, 400, .inl (F 0))), (b1, .inl (cI, 400, .inl (F 1))), (b2, .inl (cI, 400, .inl (F 2))), (b3, .inl (cI, 400, .inl (F 3))), (g, .inr (0, [.ref g0, .ref g1, .ref g2, .ref g3, .int (nI gn)])), (g0, .inl (cI, 400, .inl (G 0))), (g1, .inl (cI, 400, .inl (G 1))), (g2, .inl (cI, 400, .inl (G 2))), (g3, .inl (cI, 400, .inl (G 3))), (tb, .inr (1, [.ref a, .ref k])), (a, .inl (cI, 200, .inl ar)), (k, .inl (cI, 20, .inl uv))] := hD
    refine lv_if_eq (tgt := 26) hx hb dX3_kind_19 (by decide) (fun c_19 => ?_) (fun c_19 => ?_)
    ·
      refine lv_iconst (v := nI 0) hx hb dX3_kind_26 (by decide) ?_
      exact W.zret (v := nI 0) hx hb hr rfl (fun zt ht hW => ⟨⟨_, uv, rfl, (by first | exact Or.inr ⟨rfl, fun h => c_7 h.1, rfl⟩ | (rcases huv with h | h; exact Or.inl ⟨rfl, ⟨c_7, h.2.1⟩, h.2.2⟩; exact absurd h.1 c_19) | (rcases huv with h | h; exact absurd (h.1.symm.trans c_19) (by decide); exact Or.inr ⟨rfl, fun h2 => h.2.1 h2.2, h.2.2⟩)), ⟨by rw [ht]; exact hP.sub [0, 13, 14, 15, 1, 2, 3, 4, 5, 6, 7, 8, 9, 10, 11, 12] rfl, hD.sub [0, 13, 14, 15, 1, 2, 3, 4, 5, 6, 7, 8, 9, 10, 11, 12] (by decide) rfl⟩⟩, hS.F ht⟩) hS.2.2 dX3_kind_27
    ·
      refine lv_iconst (v := nI 1) hx hb dX3_kind_22 (by decide) ?_
      refine lv_goto (tgt := 27) hx hb dX3_kind_23 (by decide) ?_
      exact W.zret (v := nI 1) hx hb hr rfl (fun zt ht hW => ⟨⟨_, uv, rfl, (by first | exact Or.inr ⟨rfl, fun h => c_7 h.1, rfl⟩ | (rcases huv with h | h; exact Or.inl ⟨rfl, ⟨c_7, h.2.1⟩, h.2.2⟩; exact absurd h.1 c_19) | (rcases huv with h | h; exact absurd (h.1.symm.trans c_19) (by decide); exact Or.inr ⟨rfl, fun h2 => h.2.1 h2.2, h.2.2⟩)), ⟨by rw [ht]; exact hP.sub [0, 13, 14, 15, 1, 2, 3, 4, 5, 6, 7, 8, 9, 10, 11, 12] rfl, hD.sub [0, 13, 14, 15, 1, 2, 3, 4, 5, 6, 7, 8, 9, 10, 11, 12] (by decide) rfl⟩⟩, hS.F ht⟩) hS.2.2 dX3_kind_27
set_option maxHeartbeats 1000000 in
set_option maxRecDepth 100000 in
/-- X3.edit  -/
theorem c_X3_edit (l : Launch) (D : va_G) (cI : ClassId) (sz : Nat) (h : Nat) (tb : Nat) (a : Nat) (k : Nat) (ar : Nat → Int32) (ki : Nat → Int32) (t : Nat) (r : Nat) (tx : Nat → Int32) (n : Nat) (f : Nat) (b0 : Nat) (b1 : Nat) (b2 : Nat) (b3 : Nat) (F : Nat → Nat → Int32) (cc : Nat) (g : Nat) (g0 : Nat) (g1 : Nat) (g2 : Nat) (g3 : Nat) (G : Nat → Nat → Int32) (gn : Nat) (rd : Nat) (sc : Nat) (ed : Nat) (x : Int32) (y : Int32) (sy : Int64) (z : Int32) (hn : n ≤ 400) (hta : es_ta ar) (hsy : es_sy (es_lk tx n)) (hcc : es_cnt (es_Le ar ki (es_lk tx n)) n cc) (hF : es_fnd ar ki (es_lk tx n) F cc) : Met l yX3_edit (Cond.code yX3_edit cX3_edit 8 (some .int) :: es_T) { frames := 4, cells := 0, slots := 0, locals := 93 } (va_Pc [.ref h, .int x, .int y, .long sy, .int z] (es_W D cI sz [(h, .inr (3, [.ref tb, .ref t, .ref f, .ref g, .int (nI rd), .int (nI sc), .int (nI ed)])), (tb, .inr (1, [.ref a, .ref k])), (a, .inl (cI, 200, .inl ar)), (k, .inl (cI, 20, .inl ki)), (t, .inr (2, [.ref r, .int (nI n)])), (r, .inl (cI, 400, .inl tx)), (f, .inr (0, [.ref b0, .ref b1, .ref b2, .ref b3, .int (nI cc)])), (b0, .inl (cI, 400, .inl (F 0))), (b1, .inl (cI, 400, .inl (F 1))), (b2, .inl (cI, 400, .inl (F 2))), (b3, .inl (cI, 400, .inl (F 3))), (g, .inr (0, [.ref g0, .ref g1, .ref g2, .ref g3, .int (nI gn)])), (g0, .inl (cI, 400, .inl (G 0))), (g1, .inl (cI, 400, .inl (G 1))), (g2, .inl (cI, 400, .inl (G 2))), (g3, .inl (cI, 400, .inl (G 3)))])) (va_Qi (fun q u => (¬ es_okE n x y z sy ∧ q = -1 ∧ u = ((f, b0, b1, b2, b3), (g, g0, g1, g2, g3), tx, n, F, cc, G, gn, rd, sc, ed)) ∨ (es_okE n x y z sy ∧ es_cnt (es_Le ar ki (es_lk u.2.2.1 u.2.2.2.1)) u.2.2.2.1 u.2.2.2.2.2.1 ∧ es_fnd ar ki (es_lk u.2.2.1 u.2.2.2.1) u.2.2.2.2.1 u.2.2.2.2.2.1 ∧ q = nI u.2.2.2.2.2.2.2.2.1 ∧ u.2.2.2.2.2.2.2.2.2.2 = ed + 1 ∧ es_edP ar ki tx n cc x y sy z u.2.2.1 u.2.2.2.1 (u.2.2.2.2.2.2.2.2.1, u.2.2.2.2.2.2.2.2.2.1))) (fun (u : (Nat × Nat × Nat × Nat × Nat) × (Nat × Nat × Nat × Nat × Nat) × (Nat → Int32) × Nat × (Nat → Nat → Int32) × Nat × (Nat → Nat → Int32) × Nat × Nat × Nat × Nat) zt => va_P D vwCl [(h, .inr (3, [.ref tb, .ref t, .ref u.1.1, .ref u.2.1.1, .int (nI u.2.2.2.2.2.2.2.2.1), .int (nI u.2.2.2.2.2.2.2.2.2.1), .int (nI u.2.2.2.2.2.2.2.2.2.2)])), (tb, .inr (1, [.ref a, .ref k])), (a, .inl (cI, 200, .inl ar)), (k, .inl (cI, 20, .inl ki)), (t, .inr (2, [.ref r, .int (nI u.2.2.2.1)])), (r, .inl (cI, 400, .inl u.2.2.1)), (u.1.1, .inr (0, [.ref u.1.2.1, .ref u.1.2.2.1, .ref u.1.2.2.2.1, .ref u.1.2.2.2.2, .int (nI u.2.2.2.2.2.1)])), (u.1.2.1, .inl (cI, 400, .inl (u.2.2.2.2.1 0))), (u.1.2.2.1, .inl (cI, 400, .inl (u.2.2.2.2.1 1))), (u.1.2.2.2.1, .inl (cI, 400, .inl (u.2.2.2.2.1 2))), (u.1.2.2.2.2, .inl (cI, 400, .inl (u.2.2.2.2.1 3))), (u.2.1.1, .inr (0, [.ref u.2.1.2.1, .ref u.2.1.2.2.1, .ref u.2.1.2.2.2.1, .ref u.2.1.2.2.2.2, .int (nI u.2.2.2.2.2.2.2.1)])), (u.2.1.2.1, .inl (cI, 400, .inl (u.2.2.2.2.2.2.1 0))), (u.2.1.2.2.1, .inl (cI, 400, .inl (u.2.2.2.2.2.2.1 1))), (u.2.1.2.2.2.1, .inl (cI, 400, .inl (u.2.2.2.2.2.2.1 2))), (u.2.1.2.2.2.2, .inl (cI, 400, .inl (u.2.2.2.2.2.2.1 3)))] zt.heap ∧ va_D (va_A [(h, .inr (3, [.ref tb, .ref t, .ref f, .ref g, .int (nI rd), .int (nI sc), .int (nI ed)])), (tb, .inr (1, [.ref a, .ref k])), (a, .inl (cI, 200, .inl ar)), (k, .inl (cI, 20, .inl ki)), (t, .inr (2, [.ref r, .int (nI n)])), (r, .inl (cI, 400, .inl tx)), (f, .inr (0, [.ref b0, .ref b1, .ref b2, .ref b3, .int (nI cc)])), (b0, .inl (cI, 400, .inl (F 0))), (b1, .inl (cI, 400, .inl (F 1))), (b2, .inl (cI, 400, .inl (F 2))), (b3, .inl (cI, 400, .inl (F 3))), (g, .inr (0, [.ref g0, .ref g1, .ref g2, .ref g3, .int (nI gn)])), (g0, .inl (cI, 400, .inl (G 0))), (g1, .inl (cI, 400, .inl (G 1))), (g2, .inl (cI, 400, .inl (G 2))), (g3, .inl (cI, 400, .inl (G 3)))] sz) [(h, .inr (3, [.ref tb, .ref t, .ref u.1.1, .ref u.2.1.1, .int (nI u.2.2.2.2.2.2.2.2.1), .int (nI u.2.2.2.2.2.2.2.2.2.1), .int (nI u.2.2.2.2.2.2.2.2.2.2)])), (tb, .inr (1, [.ref a, .ref k])), (a, .inl (cI, 200, .inl ar)), (k, .inl (cI, 20, .inl ki)), (t, .inr (2, [.ref r, .int (nI u.2.2.2.1)])), (r, .inl (cI, 400, .inl u.2.2.1)), (u.1.1, .inr (0, [.ref u.1.2.1, .ref u.1.2.2.1, .ref u.1.2.2.2.1, .ref u.1.2.2.2.2, .int (nI u.2.2.2.2.2.1)])), (u.1.2.1, .inl (cI, 400, .inl (u.2.2.2.2.1 0))), (u.1.2.2.1, .inl (cI, 400, .inl (u.2.2.2.2.1 1))), (u.1.2.2.2.1, .inl (cI, 400, .inl (u.2.2.2.2.1 2))), (u.1.2.2.2.2, .inl (cI, 400, .inl (u.2.2.2.2.1 3))), (u.2.1.1, .inr (0, [.ref u.2.1.2.1, .ref u.2.1.2.2.1, .ref u.2.1.2.2.2.1, .ref u.2.1.2.2.2.2, .int (nI u.2.2.2.2.2.2.2.1)])), (u.2.1.2.1, .inl (cI, 400, .inl (u.2.2.2.2.2.2.1 0))), (u.2.1.2.2.1, .inl (cI, 400, .inl (u.2.2.2.2.2.2.1 1))), (u.2.1.2.2.2.1, .inl (cI, 400, .inl (u.2.2.2.2.2.2.1 2))), (u.2.1.2.2.2.2, .inl (cI, 400, .inl (u.2.2.2.2.2.2.1 3)))]) (va_A [(h, .inr (3, [.ref tb, .ref t, .ref f, .ref g, .int (nI rd), .int (nI sc), .int (nI ed)])), (tb, .inr (1, [.ref a, .ref k])), (a, .inl (cI, 200, .inl ar)), (k, .inl (cI, 20, .inl ki)), (t, .inr (2, [.ref r, .int (nI n)])), (r, .inl (cI, 400, .inl tx)), (f, .inr (0, [.ref b0, .ref b1, .ref b2, .ref b3, .int (nI cc)])), (b0, .inl (cI, 400, .inl (F 0))), (b1, .inl (cI, 400, .inl (F 1))), (b2, .inl (cI, 400, .inl (F 2))), (b3, .inl (cI, 400, .inl (F 3))), (g, .inr (0, [.ref g0, .ref g1, .ref g2, .ref g3, .int (nI gn)])), (g0, .inl (cI, 400, .inl (G 0))), (g1, .inl (cI, 400, .inl (G 1))), (g2, .inl (cI, 400, .inl (G 2))), (g3, .inl (cI, 400, .inl (G 3)))] sz)) 0 0 (va_A [(h, .inr (3, [.ref tb, .ref t, .ref f, .ref g, .int (nI rd), .int (nI sc), .int (nI ed)])), (tb, .inr (1, [.ref a, .ref k])), (a, .inl (cI, 200, .inl ar)), (k, .inl (cI, 20, .inl ki)), (t, .inr (2, [.ref r, .int (nI n)])), (r, .inl (cI, 400, .inl tx)), (f, .inr (0, [.ref b0, .ref b1, .ref b2, .ref b3, .int (nI cc)])), (b0, .inl (cI, 400, .inl (F 0))), (b1, .inl (cI, 400, .inl (F 1))), (b2, .inl (cI, 400, .inl (F 2))), (b3, .inl (cI, 400, .inl (F 3))), (g, .inr (0, [.ref g0, .ref g1, .ref g2, .ref g3, .int (nI gn)])), (g0, .inl (cI, 400, .inl (G 0))), (g1, .inl (cI, 400, .inl (G 1))), (g2, .inl (cI, 400, .inl (G 2))), (g3, .inl (cI, 400, .inl (G 3)))] sz) := by
  refine Met.ofW (cc := cX3_edit) (maxL := 8) (ret := (some .int)) (by decide) rfl ?_
  intro p e s m args below meth c s₁ B hml hv
  obtain ⟨rfl, hsz, hP, hK, hD0⟩ := hv
  have hx := B.exec
  have hb := B.bytes
  have hr := B.returns
  have hts := atoms_spec (ws := (Cond.code yX3_edit cX3_edit 8 (some .int) :: es_T)) B.pre
  have hw : ∀ w ∈ es_T, w.before _ s = true := fun w h => hts w (List.mem_cons_of_mem _ h)
  have hown : s.vm.findClass RX3 = some m.cls := findClass_of_methodNamed B.named
  have hlocks := B.notSynchronized
  have hRm : 4 ≤ (headSpec (Cond.code yX3_edit cX3_edit 8 (some .int) :: es_T) { frames := 4, cells := 0, slots := 0, locals := 93 }).room.frames ∧ 93 ≤ (headSpec (Cond.code yX3_edit cX3_edit 8 (some .int) :: es_T) { frames := 4, cells := 0, slots := 0, locals := 93 }).room.locals := ⟨Nat.le_refl _, Nat.le_refl _⟩
  have hRc : 0 ≤ (headSpec (Cond.code yX3_edit cX3_edit 8 (some .int) :: es_T) { frames := 4, cells := 0, slots := 0, locals := 93 }).room.cells ∧ 0 ≤ (headSpec (Cond.code yX3_edit cX3_edit 8 (some .int) :: es_T) { frames := 4, cells := 0, slots := 0, locals := 93 }).room.slots := ⟨Nat.le_refl _, Nat.le_refl _⟩
  subst hsz
  have hD := hD0.self (sz := s.heap.size)
  generalize hAe : va_A [(h, .inr (3, [.ref tb, .ref t, .ref f, .ref g, .int (nI rd), .int (nI sc), .int (nI ed)])), (tb, .inr (1, [.ref a, .ref k])), (a, .inl (cI, 200, .inl ar)), (k, .inl (cI, 20, .inl ki)), (t, .inr (2, [.ref r, .int (nI n)])), (r, .inl (cI, 400, .inl tx)), (f, .inr (0, [.ref b0, .ref b1, .ref b2, .ref b3, .int (nI cc)])), (b0, .inl (cI, 400, .inl (F 0))), (b1, .inl (cI, 400, .inl (F 1))), (b2, .inl (cI, 400, .inl (F 2))), (b3, .inl (cI, 400, .inl (F 3))), (g, .inr (0, [.ref g0, .ref g1, .ref g2, .ref g3, .int (nI gn)])), (g0, .inl (cI, 400, .inl (G 0))), (g1, .inl (cI, 400, .inl (G 1))), (g2, .inl (cI, 400, .inl (G 2))), (g3, .inl (cI, 400, .inl (G 3)))] s.heap.size = A at hD ⊢
  have hA : ∀ q : Nat, s.heap.size ≤ q → A q := fun q h => by rw [← hAe]; exact Or.inr h
  have hS : va_S A s.heap s.heap [] := va_S.rf
  have hl := lv_entry ([.ref h, .int x, .int y, .long sy, .int z]) (n := 8) (Nat.le_of_ble_eq_true rfl)
  rw [lg_entry_eq]
  generalize (lg_sl ([.ref h, .int x, .int y, .long sy, .int z]) ++ List.replicate (8 - (lg_sl ([.ref h, .int x, .int y, .long sy, .int z])).length) Slot.unset).toArray = ls at hl ⊢
  have hl : lv_has ls 8 [(0, .ref h), (1, .int x), (2, .int y), (3, .long sy), (5, .int z)] := hl
  have hcn := es_cnt_n hcc
  refine lv_aload_n hx hb dX3_edit_0 rfl (lv_at hl 0 rfl) ?_
  refine va_get (D := D) (ci := 3) (v := .ref t) (C := RX3) (T := TX3) (N := 7) hx hb hw iwX3 hown hK.1 hP 0 rfl rfl 1 (by decide) (hw _ xw_136) (fun _ h9 => h9) rfl dX3_edit_1 ?_
  refine lv_iload_n hx hb dX3_edit_4 rfl (lv_at hl 1 rfl) ?_
  refine lv_iload_n hx hb dX3_edit_5 rfl (lv_at hl 2 rfl) ?_
  refine lv_iload hx hb dX3_edit_6 (lv_at hl 4 rfl) ?_
  refine vp_callSi (va_Run.run (va_runV (As := [.int x, .int y, .int z]) (rest := []) ⟨hx, hb, hml, hown, hw⟩ (c_X2_canReplace l D cI t r tx n x y z ) (cwV 3 hw (es_v xw_124 xw_176 xw_127 xw_128 xw_125) rfl rfl rfl kv_X2_canReplace ⟨Nat.le_trans (Nat.le_of_ble_eq_true rfl) hRm.1, Nat.le_trans (Nat.le_of_ble_eq_true rfl) hRm.2⟩) (es_RV hK (hP.sub (ws' := [(t, .inr (2, [.ref r, .int (nI n)])), (r, .inl (cI, 400, .inl tx))]) [4, 5] rfl) rfl rfl) rfl rfl hl.1 rfl (lv_room (Nat.le_of_ble_eq_true rfl)) dX3_edit_8 ⟨(Nat.zero_le _), (Nat.zero_le _)⟩)) (fun r_1 er_1 => ?_)
  obtain rfl : r_1 = if es_can n x y z then (1 : Int32) else 0 := er_1
  refine lv_if_eq (tgt := 23) hx hb dX3_edit_11 (by decide) (fun c_11 => ?_) (fun c_11 => ?_)
  ·
    have c_11 := es_if0 c_11
    refine lv_iconst (v := (-1)) hx hb dX3_edit_23 (by decide) ?_
    exact W.iret (v := (-1)) hx hb hr (fun zt ht hW => ⟨⟨_, ((f, b0, b1, b2, b3), (g, g0, g1, g2, g3), tx, n, F, cc, G, gn, rd, sc, ed), rfl, Or.inl ⟨(fun h => by first | exact c_11 h.1 | (obtain ⟨j, hj, hj2⟩ := hdg; exact hj2 (h.2 j (by rw [nI_clamp (by omega)]; exact hj)))), rfl, rfl⟩, ⟨by rw [ht]; exact hP.sub [0, 1, 2, 3, 4, 5, 6, 7, 8, 9, 10, 11, 12, 13, 14, 15] rfl, hD.sub [0, 1, 2, 3, 4, 5, 6, 7, 8, 9, 10, 11, 12, 13, 14, 15] (by decide) rfl⟩⟩, hS.F ht⟩) hS.2.2 dX3_edit_24
  ·
    have c_11 := es_if1 c_11
    obtain ⟨pl, ou, cn, rfl, rfl, rfl, h1, h2, h3⟩ := es_can_nat hn c_11
    refine lv_lload_n hx hb dX3_edit_14 rfl (lv_at hl 3 rfl) ?_
    refine lv_iload hx hb dX3_edit_15 (lv_at hl 4 rfl) ?_
    refine vp_callSi (va_Run.run (va_runS (As := [.long sy, .int (nI cn)]) (rest := []) ⟨hx, hb, hml, hown, hw⟩ (c_X3_areSymbols l D cI sy cn (by first | assumption | omega)) (cwS 2 hw (es_s xw_177 xw_178 xw_179 xw_2) rfl rfl rfl kv_X3_areSymbols ⟨Nat.le_trans (Nat.le_of_ble_eq_true rfl) hRm.1, Nat.le_trans (Nat.le_of_ble_eq_true rfl) hRm.2⟩) (es_RS hK (hP.sub (ws' := []) [] rfl)) rfl rfl hl.1 rfl (lv_room (Nat.le_of_ble_eq_true rfl)) dX3_edit_17 ⟨(Nat.zero_le _), (Nat.zero_le _)⟩)) (fun ra era => ?_)
    refine lv_if_ne (tgt := 25) hx hb dX3_edit_20 (by decide) (fun c_20 => ?_) (fun c_20 => ?_)
    ·
      have hdg := (era.resolve_right (fun h => c_20 h.1)).2
      have hok : es_okE n (nI pl) (nI ou) (nI cn) sy := ⟨c_11, by rw [nI_clamp (by omega)]; exact hdg⟩
      refine lv_aload_n hx hb dX3_edit_25 rfl (lv_at hl 0 rfl) ?_
      refine va_get (D := D) (ci := 3) (v := .ref f) (C := RX3) (T := TX3) (N := 7) hx hb hw iwX3 hown hK.1 hP 0 rfl rfl 2 (by decide) (hw _ xw_146) (fun _ h9 => h9) rfl dX3_edit_26 ?_
      refine lv_iload_n hx hb dX3_edit_29 rfl (lv_at hl 1 rfl) ?_
      refine vp_callSi (va_Run.run (va_runV (As := [.int (nI pl)]) (rest := []) ⟨hx, hb, hml, hown, hw⟩ (c_X0_firstThatLookedAt l D cI f b0 b1 b2 b3 F cc (nI pl) (by first | assumption | omega)) (cwV 1 hw (es_v xw_180 xw_181 xw_182 xw_183 xw_83) rfl rfl rfl kv_X0_firstThatLookedAt ⟨Nat.le_trans (Nat.le_of_ble_eq_true rfl) hRm.1, Nat.le_trans (Nat.le_of_ble_eq_true rfl) hRm.2⟩) (es_RV hK (hP.sub (ws' := [(f, .inr (0, [.ref b0, .ref b1, .ref b2, .ref b3, .int (nI cc)])), (b0, .inl (cI, 400, .inl (F 0))), (b1, .inl (cI, 400, .inl (F 1))), (b2, .inl (cI, 400, .inl (F 2))), (b3, .inl (cI, 400, .inl (F 3)))]) [6, 7, 8, 9, 10] rfl) rfl rfl) rfl rfl hl.1 rfl (lv_room (Nat.le_of_ble_eq_true rfl)) dX3_edit_30 ⟨(Nat.zero_le _), (Nat.zero_le _)⟩)) (fun rf erf => ?_)
      obtain ⟨fi, hfi, rfl, hf1, hf2⟩ := erf
      have hfp := es_fi1 hF hcc hn (by omega) hfi hf1
      have hfq := es_fi2 hF hcc hn (by omega) hf2
      refine lv_istore (lv' := [(6, .int (nI fi)), (0, .ref h), (1, .int (nI pl)), (2, .int (nI ou)), (3, .long sy), (5, .int (nI cn))]) hx hb dX3_edit_33 hl (by decide) rfl (fun ls hl => ?_)
      refine lv_aload_n hx hb dX3_edit_35 rfl (lv_at hl 1 rfl) ?_
      refine va_get (D := D) (ci := 3) (v := .ref t) (C := RX3) (T := TX3) (N := 7) hx hb hw iwX3 hown hK.1 hP 0 rfl rfl 1 (by decide) (hw _ xw_136) (fun _ h9 => h9) rfl dX3_edit_36 ?_
      refine vp_callSi (va_Run.run (va_runV (As := []) (rest := []) ⟨hx, hb, hml, hown, hw⟩ (c_X2_isEmpty l D cI t r tx n (by first | assumption | omega)) (cwV 0 hw (es_v xw_137 xw_138 xw_139 xw_140 xw_125) rfl rfl rfl kv_X2_isEmpty ⟨Nat.le_trans (Nat.le_of_ble_eq_true rfl) hRm.1, Nat.le_trans (Nat.le_of_ble_eq_true rfl) hRm.2⟩) (es_RV hK (hP.sub (ws' := [(t, .inr (2, [.ref r, .int (nI n)])), (r, .inl (cI, 400, .inl tx))]) [4, 5] rfl) rfl rfl) rfl rfl hl.1 rfl (lv_room (Nat.le_of_ble_eq_true rfl)) dX3_edit_39 ⟨(Nat.zero_le _), (Nat.zero_le _)⟩)) (fun r_4 er_4 => ?_)
      obtain rfl : r_4 = if n = 0 then (1 : Int32) else 0 := er_4
      refine lv_if_ne (tgt := 57) hx hb dX3_edit_42 (by decide) (fun c_42 => ?_) (fun c_42 => ?_)
      ·
        have c_42 := es_if1 c_42
        refine lv_iconst (v := nI 1) hx hb dX3_edit_57 (by decide) ?_
        refine lv_goto (tgt := 62) hx hb dX3_edit_58 (by decide) ?_
        refine lv_istore (lv' := [(7, .int (nI 1)), (6, .int (nI fi)), (0, .ref h), (1, .int (nI pl)), (2, .int (nI ou)), (3, .long sy), (5, .int (nI cn))]) hx hb dX3_edit_62 hl (by decide) rfl (fun ls hl => ?_)
        refine lv_aload_n hx hb dX3_edit_64 rfl (lv_at hl 2 rfl) ?_
        refine va_get (D := D) (ci := 3) (v := .ref t) (C := RX3) (T := TX3) (N := 7) hx hb hw iwX3 hown hK.1 hP 0 rfl rfl 1 (by decide) (hw _ xw_136) (fun _ h9 => h9) rfl dX3_edit_65 ?_
        refine lv_iload_n hx hb dX3_edit_68 rfl (lv_at hl 3 rfl) ?_
        refine lv_iload_n hx hb dX3_edit_69 rfl (lv_at hl 4 rfl) ?_
        refine lv_lload_n hx hb dX3_edit_70 rfl (lv_at hl 5 rfl) ?_
        refine lv_iload hx hb dX3_edit_71 (lv_at hl 6 rfl) ?_
        refine es_cv (wr := [(h, .inr (3, [.ref tb, .ref t, .ref f, .ref g, .int (nI rd), .int (nI sc), .int (nI ed)])), (tb, .inr (1, [.ref a, .ref k])), (a, .inl (cI, 200, .inl ar)), (k, .inl (cI, 20, .inl ki)), (f, .inr (0, [.ref b0, .ref b1, .ref b2, .ref b3, .int (nI cc)])), (b0, .inl (cI, 400, .inl (F 0))), (b1, .inl (cI, 400, .inl (F 1))), (b2, .inl (cI, 400, .inl (F 2))), (b3, .inl (cI, 400, .inl (F 3))), (g, .inr (0, [.ref g0, .ref g1, .ref g2, .ref g3, .int (nI gn)])), (g0, .inl (cI, 400, .inl (G 0))), (g1, .inl (cI, 400, .inl (G 1))), (g2, .inl (cI, 400, .inl (G 2))), (g3, .inl (cI, 400, .inl (G 3)))]) (va_runV (As := [.int (nI pl), .int (nI ou), .long sy, .int (nI cn)]) (rest := []) ⟨hx, hb, hml, hown, hw⟩ (c_X2_replace l D cI s.heap.size t r tx n pl ou sy cn (by first | assumption | omega) (by first | assumption | omega) (by first | assumption | omega) (by first | assumption | omega)) (cwV 4 hw (es_v xw_188 xw_189 xw_190 xw_191 xw_125) rfl rfl rfl kv_X2_replace ⟨Nat.le_trans (Nat.le_of_ble_eq_true rfl) hRm.1, Nat.le_trans (Nat.le_of_ble_eq_true rfl) hRm.2⟩) (es_WV hK (hP.sub (ws' := [(t, .inr (2, [.ref r, .int (nI n)])), (r, .inl (cI, 400, .inl tx))]) [4, 5] rfl) (hD.sub (ws' := [(t, .inr (2, [.ref r, .int (nI n)])), (r, .inl (cI, 400, .inl tx))]) [4, 5] (by decide) rfl) rfl rfl) rfl rfl hl.1 rfl (lv_room (Nat.le_of_ble_eq_true rfl)) dX3_edit_73 ⟨(Nat.zero_le _), (Nat.zero_le _)⟩) hP hD hS hA [4, 5] [0, 1, 2, 3, 6, 7, 8, 9, 10, 11, 12, 13, 14, 15] rfl rfl (by decide) (by decide) (fun ux H locs hux hP hD hS => ?_)
        have hP : va_P D vwCl [(h, .inr (3, [.ref tb, .ref t, .ref f, .ref g, .int (nI rd), .int (nI sc), .int (nI ed)])), (tb, .inr (1, [.ref a, .ref k])), (a, .inl (cI, 200, .inl ar)), (k, .inl (cI, 20, .inl ki)), (f, .inr (0, [.ref b0, .ref b1, .ref b2, .ref b3, .int (nI cc)])), (b0, .inl (cI, 400, .inl (F 0))), (b1, .inl (cI, 400, .inl (F 1))), (b2, .inl (cI, 400, .inl (F 2))), (b3, .inl (cI, 400, .inl (F 3))), (g, .inr (0, [.ref g0, .ref g1, .ref g2, .ref g3, .int (nI gn)])), (g0, .inl (cI, 400, .inl (G 0))), (g1, .inl (cI, 400, .inl (G 1))), (g2, .inl (cI, 400, .inl (G 2))), (g3, .inl (cI, 400, .inl (G 3))), (t, .inr (2, [.ref r, .int (nI (n - ou + cn))])), (r, .inl (cI, 400, .inl ux))] H := hP
        have hD : va_D A [(h, .inr (3, [.ref tb, .ref t, .ref f, .ref g, .int (nI rd), .int (nI sc), .int (nI ed)])), (tb, .inr (1, [.ref a, .ref k])), (a, .inl (cI, 200, .inl ar)), (k, .inl (cI, 20, .inl ki)), (f, .inr (0, [.ref b0, .ref b1, .ref b2, .ref b3, .int (nI cc)])), (b0, .inl (cI, 400, .inl (F 0))), (b1, .inl (cI, 400, .inl (F 1))), (b2, .inl (cI, 400, .inl (F 2))), (b3, .inl (cI, 400, .inl (F 3))), (g, .inr (0, [.ref g0, .ref g1, .ref g2, .ref g3, .int (nI gn)])), (g0, .inl (cI, 400, .inl (G 0))), (g1, .inl (cI, 400, .inl (G 1))), (g2, .inl (cI, 400, .inl (G 2))), (g3, .inl (cI, 400, .inl (G 3))), (t, .inr (2, [.ref r, .int (nI (n - ou + cn))])), (r, .inl (cI, 400, .inl ux))] := hD
        have hchg := es_chg_of hn h1 h3 hux
        have hsy2 := es_sy_of hsy h1 hux hdg
        refine lv_aload_n hx hb dX3_edit_76 rfl (lv_at hl 2 rfl) ?_
        refine lv_iconst (v := nI 0) hx hb dX3_edit_77 (by decide) ?_
        refine va_put (D := D) (ci := 3) (v := .int (nI 0)) (ty := .int) (C := RX3) (T := TX3) (N := 7) hx hb hw iwX3 tyX3 tyX3_ok nmX3 hown hK.1 hP hD hS 0 rfl rfl 4 (by decide) (hw _ xw_160) (fun _ h9 => h9) rfl (by decide +kernel) rfl rfl (Nat.le_of_ble_eq_true rfl) dX3_edit_78 (fun H locs hP hD hS => ?_)
        have hP : va_P D vwCl [(h, .inr (3, [.ref tb, .ref t, .ref f, .ref g, .int (nI 0), .int (nI sc), .int (nI ed)])), (tb, .inr (1, [.ref a, .ref k])), (a, .inl (cI, 200, .inl ar)), (k, .inl (cI, 20, .inl ki)), (f, .inr (0, [.ref b0, .ref b1, .ref b2, .ref b3, .int (nI cc)])), (b0, .inl (cI, 400, .inl (F 0))), (b1, .inl (cI, 400, .inl (F 1))), (b2, .inl (cI, 400, .inl (F 2))), (b3, .inl (cI, 400, .inl (F 3))), (g, .inr (0, [.ref g0, .ref g1, .ref g2, .ref g3, .int (nI gn)])), (g0, .inl (cI, 400, .inl (G 0))), (g1, .inl (cI, 400, .inl (G 1))), (g2, .inl (cI, 400, .inl (G 2))), (g3, .inl (cI, 400, .inl (G 3))), (t, .inr (2, [.ref r, .int (nI (n - ou + cn))])), (r, .inl (cI, 400, .inl ux))] H := hP
        have hD : va_D A [(h, .inr (3, [.ref tb, .ref t, .ref f, .ref g, .int (nI 0), .int (nI sc), .int (nI ed)])), (tb, .inr (1, [.ref a, .ref k])), (a, .inl (cI, 200, .inl ar)), (k, .inl (cI, 20, .inl ki)), (f, .inr (0, [.ref b0, .ref b1, .ref b2, .ref b3, .int (nI cc)])), (b0, .inl (cI, 400, .inl (F 0))), (b1, .inl (cI, 400, .inl (F 1))), (b2, .inl (cI, 400, .inl (F 2))), (b3, .inl (cI, 400, .inl (F 3))), (g, .inr (0, [.ref g0, .ref g1, .ref g2, .ref g3, .int (nI gn)])), (g0, .inl (cI, 400, .inl (G 0))), (g1, .inl (cI, 400, .inl (G 1))), (g2, .inl (cI, 400, .inl (G 2))), (g3, .inl (cI, 400, .inl (G 3))), (t, .inr (2, [.ref r, .int (nI (n - ou + cn))])), (r, .inl (cI, 400, .inl ux))] := hD
        refine lv_aload_n hx hb dX3_edit_81 rfl (lv_at hl 2 rfl) ?_
        refine lv_iconst (v := nI 0) hx hb dX3_edit_82 (by decide) ?_
        refine va_put (D := D) (ci := 3) (v := .int (nI 0)) (ty := .int) (C := RX3) (T := TX3) (N := 7) hx hb hw iwX3 tyX3 tyX3_ok nmX3 hown hK.1 hP hD hS 0 rfl rfl 5 (by decide) (hw _ xw_161) (fun _ h9 => h9) rfl (by decide +kernel) rfl rfl (Nat.le_of_ble_eq_true rfl) dX3_edit_83 (fun H locs hP hD hS => ?_)
        have hP : va_P D vwCl [(h, .inr (3, [.ref tb, .ref t, .ref f, .ref g, .int (nI 0), .int (nI 0), .int (nI ed)])), (tb, .inr (1, [.ref a, .ref k])), (a, .inl (cI, 200, .inl ar)), (k, .inl (cI, 20, .inl ki)), (f, .inr (0, [.ref b0, .ref b1, .ref b2, .ref b3, .int (nI cc)])), (b0, .inl (cI, 400, .inl (F 0))), (b1, .inl (cI, 400, .inl (F 1))), (b2, .inl (cI, 400, .inl (F 2))), (b3, .inl (cI, 400, .inl (F 3))), (g, .inr (0, [.ref g0, .ref g1, .ref g2, .ref g3, .int (nI gn)])), (g0, .inl (cI, 400, .inl (G 0))), (g1, .inl (cI, 400, .inl (G 1))), (g2, .inl (cI, 400, .inl (G 2))), (g3, .inl (cI, 400, .inl (G 3))), (t, .inr (2, [.ref r, .int (nI (n - ou + cn))])), (r, .inl (cI, 400, .inl ux))] H := hP
        have hD : va_D A [(h, .inr (3, [.ref tb, .ref t, .ref f, .ref g, .int (nI 0), .int (nI 0), .int (nI ed)])), (tb, .inr (1, [.ref a, .ref k])), (a, .inl (cI, 200, .inl ar)), (k, .inl (cI, 20, .inl ki)), (f, .inr (0, [.ref b0, .ref b1, .ref b2, .ref b3, .int (nI cc)])), (b0, .inl (cI, 400, .inl (F 0))), (b1, .inl (cI, 400, .inl (F 1))), (b2, .inl (cI, 400, .inl (F 2))), (b3, .inl (cI, 400, .inl (F 3))), (g, .inr (0, [.ref g0, .ref g1, .ref g2, .ref g3, .int (nI gn)])), (g0, .inl (cI, 400, .inl (G 0))), (g1, .inl (cI, 400, .inl (G 1))), (g2, .inl (cI, 400, .inl (G 2))), (g3, .inl (cI, 400, .inl (G 3))), (t, .inr (2, [.ref r, .int (nI (n - ou + cn))])), (r, .inl (cI, 400, .inl ux))] := hD
        refine lv_aload_n hx hb dX3_edit_86 rfl (lv_at hl 2 rfl) ?_
        refine lv_dup hx hb dX3_edit_87 rfl ?_
        refine va_get (D := D) (ci := 3) (v := .int (nI ed)) (C := RX3) (T := TX3) (N := 7) hx hb hw iwX3 hown hK.1 hP 0 rfl rfl 6 (by decide) (hw _ xw_162) (fun _ h9 => h9) rfl dX3_edit_88 ?_
        refine lv_iconst (v := nI 1) hx hb dX3_edit_91 (by decide) ?_
        refine lv_iadd hx hb dX3_edit_92 ?_
        refine es_top (y := nI (ed + 1)) (nI_add _ _) ?_
        refine va_put (D := D) (ci := 3) (v := .int (nI (ed + 1))) (ty := .int) (C := RX3) (T := TX3) (N := 7) hx hb hw iwX3 tyX3 tyX3_ok nmX3 hown hK.1 hP hD hS 0 rfl rfl 6 (by decide) (hw _ xw_162) (fun _ h9 => h9) rfl (by decide +kernel) rfl rfl (Nat.le_of_ble_eq_true rfl) dX3_edit_93 (fun H locs hP hD hS => ?_)
        have hP : va_P D vwCl [(h, .inr (3, [.ref tb, .ref t, .ref f, .ref g, .int (nI 0), .int (nI 0), .int (nI (ed + 1))])), (tb, .inr (1, [.ref a, .ref k])), (a, .inl (cI, 200, .inl ar)), (k, .inl (cI, 20, .inl ki)), (f, .inr (0, [.ref b0, .ref b1, .ref b2, .ref b3, .int (nI cc)])), (b0, .inl (cI, 400, .inl (F 0))), (b1, .inl (cI, 400, .inl (F 1))), (b2, .inl (cI, 400, .inl (F 2))), (b3, .inl (cI, 400, .inl (F 3))), (g, .inr (0, [.ref g0, .ref g1, .ref g2, .ref g3, .int (nI gn)])), (g0, .inl (cI, 400, .inl (G 0))), (g1, .inl (cI, 400, .inl (G 1))), (g2, .inl (cI, 400, .inl (G 2))), (g3, .inl (cI, 400, .inl (G 3))), (t, .inr (2, [.ref r, .int (nI (n - ou + cn))])), (r, .inl (cI, 400, .inl ux))] H := hP
        have hD : va_D A [(h, .inr (3, [.ref tb, .ref t, .ref f, .ref g, .int (nI 0), .int (nI 0), .int (nI (ed + 1))])), (tb, .inr (1, [.ref a, .ref k])), (a, .inl (cI, 200, .inl ar)), (k, .inl (cI, 20, .inl ki)), (f, .inr (0, [.ref b0, .ref b1, .ref b2, .ref b3, .int (nI cc)])), (b0, .inl (cI, 400, .inl (F 0))), (b1, .inl (cI, 400, .inl (F 1))), (b2, .inl (cI, 400, .inl (F 2))), (b3, .inl (cI, 400, .inl (F 3))), (g, .inr (0, [.ref g0, .ref g1, .ref g2, .ref g3, .int (nI gn)])), (g0, .inl (cI, 400, .inl (G 0))), (g1, .inl (cI, 400, .inl (G 1))), (g2, .inl (cI, 400, .inl (G 2))), (g3, .inl (cI, 400, .inl (G 3))), (t, .inr (2, [.ref r, .int (nI (n - ou + cn))])), (r, .inl (cI, 400, .inl ux))] := hD
        refine lv_iload hx hb dX3_edit_96 (lv_at hl 0 rfl) ?_
        refine lv_if_eq (tgt := 115) hx hb dX3_edit_98 (by decide) (fun c_98 => ?_) (fun c_98 => ?_)
        ·
          exact absurd c_98 (by decide)
        ·
          refine lv_aload_n hx hb dX3_edit_101 rfl (lv_at hl 2 rfl) ?_
          refine lv_iload hx hb dX3_edit_102 (lv_at hl 1 rfl) ?_
          refine lv_iload_n hx hb dX3_edit_104 rfl (lv_at hl 3 rfl) ?_
          refine lv_iload hx hb dX3_edit_105 (lv_at hl 6 rfl) ?_
          refine lv_iadd hx hb dX3_edit_107 ?_
          refine es_top (y := nI (pl + cn)) (nI_add _ _) ?_
          refine lv_iload hx hb dX3_edit_108 (lv_at hl 6 rfl) ?_
          refine lv_iload_n hx hb dX3_edit_110 rfl (lv_at hl 4 rfl) ?_
          refine lv_isub hx hb dX3_edit_111 ?_
          refine es_cv (wr := []) (va_runV (As := [.int (nI fi), .int (nI (pl + cn)), .int ((nI cn) - (nI ou))]) (rest := []) ⟨hx, hb, hml, hown, hw⟩ (c_X3_scanAnew l D cI H.size h tb a k ar ki t r ux (n - ou + cn) g g0 g1 g2 g3 G gn f b0 b1 b2 b3 F cc (nI (ed + 1)) (es_lk tx n) n pl ou cn fi hta hsy2 h2 hchg hcc hF hfi hfp (by first | exact Or.inl c_54 | exact Or.inl (by omega) | exact Or.inr (by omega))) (cwV 3 hw (es_v xw_192 xw_193 xw_194 xw_195 xw_2) rfl rfl rfl kv_X3_scanAnew ⟨Nat.le_trans (Nat.le_of_ble_eq_true rfl) hRm.1, Nat.le_trans (Nat.le_of_ble_eq_true rfl) hRm.2⟩) (es_WV hK (hP.sub (ws' := [(h, .inr (3, [.ref tb, .ref t, .ref f, .ref g, .int (nI 0), .int (nI 0), .int (nI (ed + 1))])), (tb, .inr (1, [.ref a, .ref k])), (a, .inl (cI, 200, .inl ar)), (k, .inl (cI, 20, .inl ki)), (t, .inr (2, [.ref r, .int (nI (n - ou + cn))])), (r, .inl (cI, 400, .inl ux)), (g, .inr (0, [.ref g0, .ref g1, .ref g2, .ref g3, .int (nI gn)])), (g0, .inl (cI, 400, .inl (G 0))), (g1, .inl (cI, 400, .inl (G 1))), (g2, .inl (cI, 400, .inl (G 2))), (g3, .inl (cI, 400, .inl (G 3))), (f, .inr (0, [.ref b0, .ref b1, .ref b2, .ref b3, .int (nI cc)])), (b0, .inl (cI, 400, .inl (F 0))), (b1, .inl (cI, 400, .inl (F 1))), (b2, .inl (cI, 400, .inl (F 2))), (b3, .inl (cI, 400, .inl (F 3)))]) [0, 1, 2, 3, 14, 15, 9, 10, 11, 12, 13, 4, 5, 6, 7, 8] rfl) (hD.sub (ws' := [(h, .inr (3, [.ref tb, .ref t, .ref f, .ref g, .int (nI 0), .int (nI 0), .int (nI (ed + 1))])), (tb, .inr (1, [.ref a, .ref k])), (a, .inl (cI, 200, .inl ar)), (k, .inl (cI, 20, .inl ki)), (t, .inr (2, [.ref r, .int (nI (n - ou + cn))])), (r, .inl (cI, 400, .inl ux)), (g, .inr (0, [.ref g0, .ref g1, .ref g2, .ref g3, .int (nI gn)])), (g0, .inl (cI, 400, .inl (G 0))), (g1, .inl (cI, 400, .inl (G 1))), (g2, .inl (cI, 400, .inl (G 2))), (g3, .inl (cI, 400, .inl (G 3))), (f, .inr (0, [.ref b0, .ref b1, .ref b2, .ref b3, .int (nI cc)])), (b0, .inl (cI, 400, .inl (F 0))), (b1, .inl (cI, 400, .inl (F 1))), (b2, .inl (cI, 400, .inl (F 2))), (b3, .inl (cI, 400, .inl (F 3)))]) [0, 1, 2, 3, 14, 15, 9, 10, 11, 12, 13, 4, 5, 6, 7, 8] (by decide) rfl) rfl rfl) rfl rfl hl.1 rfl (lv_room (Nat.le_of_ble_eq_true rfl)) dX3_edit_112 ⟨(Nat.zero_le _), (Nat.zero_le _)⟩) hP hD hS hA [0, 1, 2, 3, 14, 15, 9, 10, 11, 12, 13, 4, 5, 6, 7, 8] [] rfl rfl (by decide) (by decide) (fun us H locs hus hP hD hS => ?_)
          have hP : va_P D vwCl [(h, .inr (3, [.ref tb, .ref t, .ref g, .ref f, .int (nI us.2.2.1), .int (nI us.2.2.2), .int (nI (ed + 1))])), (tb, .inr (1, [.ref a, .ref k])), (a, .inl (cI, 200, .inl ar)), (k, .inl (cI, 20, .inl ki)), (t, .inr (2, [.ref r, .int (nI (n - ou + cn))])), (r, .inl (cI, 400, .inl ux)), (g, .inr (0, [.ref g0, .ref g1, .ref g2, .ref g3, .int (nI us.2.1)])), (g0, .inl (cI, 400, .inl (us.1 0))), (g1, .inl (cI, 400, .inl (us.1 1))), (g2, .inl (cI, 400, .inl (us.1 2))), (g3, .inl (cI, 400, .inl (us.1 3))), (f, .inr (0, [.ref b0, .ref b1, .ref b2, .ref b3, .int (nI cc)])), (b0, .inl (cI, 400, .inl (F 0))), (b1, .inl (cI, 400, .inl (F 1))), (b2, .inl (cI, 400, .inl (F 2))), (b3, .inl (cI, 400, .inl (F 3)))] H := hP
          have hD : va_D A [(h, .inr (3, [.ref tb, .ref t, .ref g, .ref f, .int (nI us.2.2.1), .int (nI us.2.2.2), .int (nI (ed + 1))])), (tb, .inr (1, [.ref a, .ref k])), (a, .inl (cI, 200, .inl ar)), (k, .inl (cI, 20, .inl ki)), (t, .inr (2, [.ref r, .int (nI (n - ou + cn))])), (r, .inl (cI, 400, .inl ux)), (g, .inr (0, [.ref g0, .ref g1, .ref g2, .ref g3, .int (nI us.2.1)])), (g0, .inl (cI, 400, .inl (us.1 0))), (g1, .inl (cI, 400, .inl (us.1 1))), (g2, .inl (cI, 400, .inl (us.1 2))), (g3, .inl (cI, 400, .inl (us.1 3))), (f, .inr (0, [.ref b0, .ref b1, .ref b2, .ref b3, .int (nI cc)])), (b0, .inl (cI, 400, .inl (F 0))), (b1, .inl (cI, 400, .inl (F 1))), (b2, .inl (cI, 400, .inl (F 2))), (b3, .inl (cI, 400, .inl (F 3)))] := hD
          refine lv_aload_n hx hb dX3_edit_115 rfl (lv_at hl 2 rfl) ?_
          refine va_get (D := D) (ci := 3) (v := .int (nI us.2.2.1)) (C := RX3) (T := TX3) (N := 7) hx hb hw iwX3 hown hK.1 hP 0 rfl rfl 4 (by decide) (hw _ xw_160) (fun _ h9 => h9) rfl dX3_edit_116 ?_
          exact W.iret (v := nI us.2.2.1) hx hb hr (fun zt ht hW => ⟨⟨_, ((g, g0, g1, g2, g3), (f, b0, b1, b2, b3), ux, n - ou + cn, us.1, us.2.1, F, cc, us.2.2.1, us.2.2.2, ed + 1), rfl, Or.inr ⟨hok, hus.1, hus.2.1, rfl, rfl, pl, ou, cn, rfl, rfl, rfl, h1, h2, rfl, h3, hdg, hux, fi, hfi, hfp, hfq, (fun _ => hus.2.2), (fun z => absurd (by first | exact Or.inr c_42 | exact Or.inl c_54 | exact Or.inl (by omega)) z)⟩, ⟨by rw [ht]; exact hP.sub [0, 1, 2, 3, 4, 5, 6, 7, 8, 9, 10, 11, 12, 13, 14, 15] rfl, hD.sub [0, 1, 2, 3, 4, 5, 6, 7, 8, 9, 10, 11, 12, 13, 14, 15] (by decide) rfl⟩⟩, hS.F ht⟩) hS.2.2 dX3_edit_119
      ·
        have c_42 := es_if0 c_42
        refine lv_iload hx hb dX3_edit_45 (lv_at hl 0 rfl) ?_
        refine lv_aload_n hx hb dX3_edit_47 rfl (lv_at hl 1 rfl) ?_
        refine va_get (D := D) (ci := 3) (v := .ref f) (C := RX3) (T := TX3) (N := 7) hx hb hw iwX3 hown hK.1 hP 0 rfl rfl 2 (by decide) (hw _ xw_146) (fun _ h9 => h9) rfl dX3_edit_48 ?_
        refine vp_callSi (va_Run.run (va_runV (As := []) (rest := [.int (nI fi)]) ⟨hx, hb, hml, hown, hw⟩ (c_X0_size l D cI f b0 b1 b2 b3 F cc ) (cwV 0 hw (es_v xw_184 xw_185 xw_186 xw_187 xw_83) rfl rfl rfl kv_X0_size ⟨Nat.le_trans (Nat.le_of_ble_eq_true rfl) hRm.1, Nat.le_trans (Nat.le_of_ble_eq_true rfl) hRm.2⟩) (es_RV hK (hP.sub (ws' := [(f, .inr (0, [.ref b0, .ref b1, .ref b2, .ref b3, .int (nI cc)])), (b0, .inl (cI, 400, .inl (F 0))), (b1, .inl (cI, 400, .inl (F 1))), (b2, .inl (cI, 400, .inl (F 2))), (b3, .inl (cI, 400, .inl (F 3)))]) [6, 7, 8, 9, 10] rfl) rfl rfl) rfl rfl hl.1 rfl (lv_room (Nat.le_of_ble_eq_true rfl)) dX3_edit_51 ⟨(Nat.zero_le _), (Nat.zero_le _)⟩)) (fun r_9 er_9 => ?_)
        obtain rfl : r_9 = nI cc := er_9
        refine lv_icmp_ge (tgt := 61) hx hb dX3_edit_54 (by decide) (fun c_54 => ?_) (fun c_54 => ?_)
        ·
          have c_54 := (nI_leI (by omega) (by omega)).mp c_54
          refine lv_iconst (v := nI 0) hx hb dX3_edit_61 (by decide) ?_
          refine lv_istore (lv' := [(7, .int (nI 0)), (6, .int (nI fi)), (0, .ref h), (1, .int (nI pl)), (2, .int (nI ou)), (3, .long sy), (5, .int (nI cn))]) hx hb dX3_edit_62 hl (by decide) rfl (fun ls hl => ?_)
          refine lv_aload_n hx hb dX3_edit_64 rfl (lv_at hl 2 rfl) ?_
          refine va_get (D := D) (ci := 3) (v := .ref t) (C := RX3) (T := TX3) (N := 7) hx hb hw iwX3 hown hK.1 hP 0 rfl rfl 1 (by decide) (hw _ xw_136) (fun _ h9 => h9) rfl dX3_edit_65 ?_
          refine lv_iload_n hx hb dX3_edit_68 rfl (lv_at hl 3 rfl) ?_
          refine lv_iload_n hx hb dX3_edit_69 rfl (lv_at hl 4 rfl) ?_
          refine lv_lload_n hx hb dX3_edit_70 rfl (lv_at hl 5 rfl) ?_
          refine lv_iload hx hb dX3_edit_71 (lv_at hl 6 rfl) ?_
          refine es_cv (wr := [(h, .inr (3, [.ref tb, .ref t, .ref f, .ref g, .int (nI rd), .int (nI sc), .int (nI ed)])), (tb, .inr (1, [.ref a, .ref k])), (a, .inl (cI, 200, .inl ar)), (k, .inl (cI, 20, .inl ki)), (f, .inr (0, [.ref b0, .ref b1, .ref b2, .ref b3, .int (nI cc)])), (b0, .inl (cI, 400, .inl (F 0))), (b1, .inl (cI, 400, .inl (F 1))), (b2, .inl (cI, 400, .inl (F 2))), (b3, .inl (cI, 400, .inl (F 3))), (g, .inr (0, [.ref g0, .ref g1, .ref g2, .ref g3, .int (nI gn)])), (g0, .inl (cI, 400, .inl (G 0))), (g1, .inl (cI, 400, .inl (G 1))), (g2, .inl (cI, 400, .inl (G 2))), (g3, .inl (cI, 400, .inl (G 3)))]) (va_runV (As := [.int (nI pl), .int (nI ou), .long sy, .int (nI cn)]) (rest := []) ⟨hx, hb, hml, hown, hw⟩ (c_X2_replace l D cI s.heap.size t r tx n pl ou sy cn (by first | assumption | omega) (by first | assumption | omega) (by first | assumption | omega) (by first | assumption | omega)) (cwV 4 hw (es_v xw_188 xw_189 xw_190 xw_191 xw_125) rfl rfl rfl kv_X2_replace ⟨Nat.le_trans (Nat.le_of_ble_eq_true rfl) hRm.1, Nat.le_trans (Nat.le_of_ble_eq_true rfl) hRm.2⟩) (es_WV hK (hP.sub (ws' := [(t, .inr (2, [.ref r, .int (nI n)])), (r, .inl (cI, 400, .inl tx))]) [4, 5] rfl) (hD.sub (ws' := [(t, .inr (2, [.ref r, .int (nI n)])), (r, .inl (cI, 400, .inl tx))]) [4, 5] (by decide) rfl) rfl rfl) rfl rfl hl.1 rfl (lv_room (Nat.le_of_ble_eq_true rfl)) dX3_edit_73 ⟨(Nat.zero_le _), (Nat.zero_le _)⟩) hP hD hS hA [4, 5] [0, 1, 2, 3, 6, 7, 8, 9, 10, 11, 12, 13, 14, 15] rfl rfl (by decide) (by decide) (fun ux H locs hux hP hD hS => ?_)
          have hP : va_P D vwCl [(h, .inr (3, [.ref tb, .ref t, .ref f, .ref g, .int (nI rd), .int (nI sc), .int (nI ed)])), (tb, .inr (1, [.ref a, .ref k])), (a, .inl (cI, 200, .inl ar)), (k, .inl (cI, 20, .inl ki)), (f, .inr (0, [.ref b0, .ref b1, .ref b2, .ref b3, .int (nI cc)])), (b0, .inl (cI, 400, .inl (F 0))), (b1, .inl (cI, 400, .inl (F 1))), (b2, .inl (cI, 400, .inl (F 2))), (b3, .inl (cI, 400, .inl (F 3))), (g, .inr (0, [.ref g0, .ref g1, .ref g2, .ref g3, .int (nI gn)])), (g0, .inl (cI, 400, .inl (G 0))), (g1, .inl (cI, 400, .inl (G 1))), (g2, .inl (cI, 400, .inl (G 2))), (g3, .inl (cI, 400, .inl (G 3))), (t, .inr (2, [.ref r, .int (nI (n - ou + cn))])), (r, .inl (cI, 400, .inl ux))] H := hP
          have hD : va_D A [(h, .inr (3, [.ref tb, .ref t, .ref f, .ref g, .int (nI rd), .int (nI sc), .int (nI ed)])), (tb, .inr (1, [.ref a, .ref k])), (a, .inl (cI, 200, .inl ar)), (k, .inl (cI, 20, .inl ki)), (f, .inr (0, [.ref b0, .ref b1, .ref b2, .ref b3, .int (nI cc)])), (b0, .inl (cI, 400, .inl (F 0))), (b1, .inl (cI, 400, .inl (F 1))), (b2, .inl (cI, 400, .inl (F 2))), (b3, .inl (cI, 400, .inl (F 3))), (g, .inr (0, [.ref g0, .ref g1, .ref g2, .ref g3, .int (nI gn)])), (g0, .inl (cI, 400, .inl (G 0))), (g1, .inl (cI, 400, .inl (G 1))), (g2, .inl (cI, 400, .inl (G 2))), (g3, .inl (cI, 400, .inl (G 3))), (t, .inr (2, [.ref r, .int (nI (n - ou + cn))])), (r, .inl (cI, 400, .inl ux))] := hD
          have hchg := es_chg_of hn h1 h3 hux
          have hsy2 := es_sy_of hsy h1 hux hdg
          refine lv_aload_n hx hb dX3_edit_76 rfl (lv_at hl 2 rfl) ?_
          refine lv_iconst (v := nI 0) hx hb dX3_edit_77 (by decide) ?_
          refine va_put (D := D) (ci := 3) (v := .int (nI 0)) (ty := .int) (C := RX3) (T := TX3) (N := 7) hx hb hw iwX3 tyX3 tyX3_ok nmX3 hown hK.1 hP hD hS 0 rfl rfl 4 (by decide) (hw _ xw_160) (fun _ h9 => h9) rfl (by decide +kernel) rfl rfl (Nat.le_of_ble_eq_true rfl) dX3_edit_78 (fun H locs hP hD hS => ?_)
          have hP : va_P D vwCl [(h, .inr (3, [.ref tb, .ref t, .ref f, .ref g, .int (nI 0), .int (nI sc), .int (nI ed)])), (tb, .inr (1, [.ref a, .ref k])), (a, .inl (cI, 200, .inl ar)), (k, .inl (cI, 20, .inl ki)), (f, .inr (0, [.ref b0, .ref b1, .ref b2, .ref b3, .int (nI cc)])), (b0, .inl (cI, 400, .inl (F 0))), (b1, .inl (cI, 400, .inl (F 1))), (b2, .inl (cI, 400, .inl (F 2))), (b3, .inl (cI, 400, .inl (F 3))), (g, .inr (0, [.ref g0, .ref g1, .ref g2, .ref g3, .int (nI gn)])), (g0, .inl (cI, 400, .inl (G 0))), (g1, .inl (cI, 400, .inl (G 1))), (g2, .inl (cI, 400, .inl (G 2))), (g3, .inl (cI, 400, .inl (G 3))), (t, .inr (2, [.ref r, .int (nI (n - ou + cn))])), (r, .inl (cI, 400, .inl ux))] H := hP
          have hD : va_D A [(h, .inr (3, [.ref tb, .ref t, .ref f, .ref g, .int (nI 0), .int (nI sc), .int (nI ed)])), (tb, .inr (1, [.ref a, .ref k])), (a, .inl (cI, 200, .inl ar)), (k, .inl (cI, 20, .inl ki)), (f, .inr (0, [.ref b0, .ref b1, .ref b2, .ref b3, .int (nI cc)])), (b0, .inl (cI, 400, .inl (F 0))), (b1, .inl (cI, 400, .inl (F 1))), (b2, .inl (cI, 400, .inl (F 2))), (b3, .inl (cI, 400, .inl (F 3))), (g, .inr (0, [.ref g0, .ref g1, .ref g2, .ref g3, .int (nI gn)])), (g0, .inl (cI, 400, .inl (G 0))), (g1, .inl (cI, 400, .inl (G 1))), (g2, .inl (cI, 400, .inl (G 2))), (g3, .inl (cI, 400, .inl (G 3))), (t, .inr (2, [.ref r, .int (nI (n - ou + cn))])), (r, .inl (cI, 400, .inl ux))] := hD
          refine lv_aload_n hx hb dX3_edit_81 rfl (lv_at hl 2 rfl) ?_
          refine lv_iconst (v := nI 0) hx hb dX3_edit_82 (by decide) ?_
          refine va_put (D := D) (ci := 3) (v := .int (nI 0)) (ty := .int) (C := RX3) (T := TX3) (N := 7) hx hb hw iwX3 tyX3 tyX3_ok nmX3 hown hK.1 hP hD hS 0 rfl rfl 5 (by decide) (hw _ xw_161) (fun _ h9 => h9) rfl (by decide +kernel) rfl rfl (Nat.le_of_ble_eq_true rfl) dX3_edit_83 (fun H locs hP hD hS => ?_)
          have hP : va_P D vwCl [(h, .inr (3, [.ref tb, .ref t, .ref f, .ref g, .int (nI 0), .int (nI 0), .int (nI ed)])), (tb, .inr (1, [.ref a, .ref k])), (a, .inl (cI, 200, .inl ar)), (k, .inl (cI, 20, .inl ki)), (f, .inr (0, [.ref b0, .ref b1, .ref b2, .ref b3, .int (nI cc)])), (b0, .inl (cI, 400, .inl (F 0))), (b1, .inl (cI, 400, .inl (F 1))), (b2, .inl (cI, 400, .inl (F 2))), (b3, .inl (cI, 400, .inl (F 3))), (g, .inr (0, [.ref g0, .ref g1, .ref g2, .ref g3, .int (nI gn)])), (g0, .inl (cI, 400, .inl (G 0))), (g1, .inl (cI, 400, .inl (G 1))), (g2, .inl (cI, 400, .inl (G 2))), (g3, .inl (cI, 400, .inl (G 3))), (t, .inr (2, [.ref r, .int (nI (n - ou + cn))])), (r, .inl (cI, 400, .inl ux))] H := hP
          have hD : va_D A [(h, .inr (3, [.ref tb, .ref t, .ref f, .ref g, .int (nI 0), .int (nI 0), .int (nI ed)])), (tb, .inr (1, [.ref a, .ref k])), (a, .inl (cI, 200, .inl ar)), (k, .inl (cI, 20, .inl ki)), (f, .inr (0, [.ref b0, .ref b1, .ref b2, .ref b3, .int (nI cc)])), (b0, .inl (cI, 400, .inl (F 0))), (b1, .inl (cI, 400, .inl (F 1))), (b2, .inl (cI, 400, .inl (F 2))), (b3, .inl (cI, 400, .inl (F 3))), (g, .inr (0, [.ref g0, .ref g1, .ref g2, .ref g3, .int (nI gn)])), (g0, .inl (cI, 400, .inl (G 0))), (g1, .inl (cI, 400, .inl (G 1))), (g2, .inl (cI, 400, .inl (G 2))), (g3, .inl (cI, 400, .inl (G 3))), (t, .inr (2, [.ref r, .int (nI (n - ou + cn))])), (r, .inl (cI, 400, .inl ux))] := hD
          refine lv_aload_n hx hb dX3_edit_86 rfl (lv_at hl 2 rfl) ?_
          refine lv_dup hx hb dX3_edit_87 rfl ?_
          refine va_get (D := D) (ci := 3) (v := .int (nI ed)) (C := RX3) (T := TX3) (N := 7) hx hb hw iwX3 hown hK.1 hP 0 rfl rfl 6 (by decide) (hw _ xw_162) (fun _ h9 => h9) rfl dX3_edit_88 ?_
          refine lv_iconst (v := nI 1) hx hb dX3_edit_91 (by decide) ?_
          refine lv_iadd hx hb dX3_edit_92 ?_
          refine es_top (y := nI (ed + 1)) (nI_add _ _) ?_
          refine va_put (D := D) (ci := 3) (v := .int (nI (ed + 1))) (ty := .int) (C := RX3) (T := TX3) (N := 7) hx hb hw iwX3 tyX3 tyX3_ok nmX3 hown hK.1 hP hD hS 0 rfl rfl 6 (by decide) (hw _ xw_162) (fun _ h9 => h9) rfl (by decide +kernel) rfl rfl (Nat.le_of_ble_eq_true rfl) dX3_edit_93 (fun H locs hP hD hS => ?_)
          have hP : va_P D vwCl [(h, .inr (3, [.ref tb, .ref t, .ref f, .ref g, .int (nI 0), .int (nI 0), .int (nI (ed + 1))])), (tb, .inr (1, [.ref a, .ref k])), (a, .inl (cI, 200, .inl ar)), (k, .inl (cI, 20, .inl ki)), (f, .inr (0, [.ref b0, .ref b1, .ref b2, .ref b3, .int (nI cc)])), (b0, .inl (cI, 400, .inl (F 0))), (b1, .inl (cI, 400, .inl (F 1))), (b2, .inl (cI, 400, .inl (F 2))), (b3, .inl (cI, 400, .inl (F 3))), (g, .inr (0, [.ref g0, .ref g1, .ref g2, .ref g3, .int (nI gn)])), (g0, .inl (cI, 400, .inl (G 0))), (g1, .inl (cI, 400, .inl (G 1))), (g2, .inl (cI, 400, .inl (G 2))), (g3, .inl (cI, 400, .inl (G 3))), (t, .inr (2, [.ref r, .int (nI (n - ou + cn))])), (r, .inl (cI, 400, .inl ux))] H := hP
          have hD : va_D A [(h, .inr (3, [.ref tb, .ref t, .ref f, .ref g, .int (nI 0), .int (nI 0), .int (nI (ed + 1))])), (tb, .inr (1, [.ref a, .ref k])), (a, .inl (cI, 200, .inl ar)), (k, .inl (cI, 20, .inl ki)), (f, .inr (0, [.ref b0, .ref b1, .ref b2, .ref b3, .int (nI cc)])), (b0, .inl (cI, 400, .inl (F 0))), (b1, .inl (cI, 400, .inl (F 1))), (b2, .inl (cI, 400, .inl (F 2))), (b3, .inl (cI, 400, .inl (F 3))), (g, .inr (0, [.ref g0, .ref g1, .ref g2, .ref g3, .int (nI gn)])), (g0, .inl (cI, 400, .inl (G 0))), (g1, .inl (cI, 400, .inl (G 1))), (g2, .inl (cI, 400, .inl (G 2))), (g3, .inl (cI, 400, .inl (G 3))), (t, .inr (2, [.ref r, .int (nI (n - ou + cn))])), (r, .inl (cI, 400, .inl ux))] := hD
          refine lv_iload hx hb dX3_edit_96 (lv_at hl 0 rfl) ?_
          refine lv_if_eq (tgt := 115) hx hb dX3_edit_98 (by decide) (fun c_98 => ?_) (fun c_98 => ?_)
          ·
            have hkp := es_keep hchg hcc hF c_42 (fun i hi => hfp i (by omega))
            refine lv_aload_n hx hb dX3_edit_115 rfl (lv_at hl 2 rfl) ?_
            refine va_get (D := D) (ci := 3) (v := .int (nI 0)) (C := RX3) (T := TX3) (N := 7) hx hb hw iwX3 hown hK.1 hP 0 rfl rfl 4 (by decide) (hw _ xw_160) (fun _ h9 => h9) rfl dX3_edit_116 ?_
            exact W.iret (v := nI 0) hx hb hr (fun zt ht hW => ⟨⟨_, ((f, b0, b1, b2, b3), (g, g0, g1, g2, g3), ux, n - ou + cn, F, cc, G, gn, 0, 0, ed + 1), rfl, Or.inr ⟨hok, hkp.1, hkp.2, rfl, rfl, pl, ou, cn, rfl, rfl, rfl, h1, h2, rfl, h3, hdg, hux, fi, hfi, hfp, hfq, (fun z => by omega), (fun _ => rfl)⟩, ⟨by rw [ht]; exact hP.sub [0, 1, 2, 3, 14, 15, 4, 5, 6, 7, 8, 9, 10, 11, 12, 13] rfl, hD.sub [0, 1, 2, 3, 14, 15, 4, 5, 6, 7, 8, 9, 10, 11, 12, 13] (by decide) rfl⟩⟩, hS.F ht⟩) hS.2.2 dX3_edit_119
          ·
            exact absurd c_98 (by decide)
        ·
          have c_54 := (mt (nI_leI (by omega) (by omega)).mpr c_54)
          refine lv_iconst (v := nI 1) hx hb dX3_edit_57 (by decide) ?_
          refine lv_goto (tgt := 62) hx hb dX3_edit_58 (by decide) ?_
          refine lv_istore (lv' := [(7, .int (nI 1)), (6, .int (nI fi)), (0, .ref h), (1, .int (nI pl)), (2, .int (nI ou)), (3, .long sy), (5, .int (nI cn))]) hx hb dX3_edit_62 hl (by decide) rfl (fun ls hl => ?_)
          refine lv_aload_n hx hb dX3_edit_64 rfl (lv_at hl 2 rfl) ?_
          refine va_get (D := D) (ci := 3) (v := .ref t) (C := RX3) (T := TX3) (N := 7) hx hb hw iwX3 hown hK.1 hP 0 rfl rfl 1 (by decide) (hw _ xw_136) (fun _ h9 => h9) rfl dX3_edit_65 ?_
          refine lv_iload_n hx hb dX3_edit_68 rfl (lv_at hl 3 rfl) ?_
          refine lv_iload_n hx hb dX3_edit_69 rfl (lv_at hl 4 rfl) ?_
          refine lv_lload_n hx hb dX3_edit_70 rfl (lv_at hl 5 rfl) ?_
          refine lv_iload hx hb dX3_edit_71 (lv_at hl 6 rfl) ?_
          refine es_cv (wr := [(h, .inr (3, [.ref tb, .ref t, .ref f, .ref g, .int (nI rd), .int (nI sc), .int (nI ed)])), (tb, .inr (1, [.ref a, .ref k])), (a, .inl (cI, 200, .inl ar)), (k, .inl (cI, 20, .inl ki)), (f, .inr (0, [.ref b0, .ref b1, .ref b2, .ref b3, .int (nI cc)])), (b0, .inl (cI, 400, .inl (F 0))), (b1, .inl (cI, 400, .inl (F 1))), (b2, .inl (cI, 400, .inl (F 2))), (b3, .inl (cI, 400, .inl (F 3))), (g, .inr (0, [.ref g0, .ref g1, .ref g2, .ref g3, .int (nI gn)])), (g0, .inl (cI, 400, .inl (G 0))), (g1, .inl (cI, 400, .inl (G 1))), (g2, .inl (cI, 400, .inl (G 2))), (g3, .inl (cI, 400, .inl (G 3)))]) (va_runV (As := [.int (nI pl), .int (nI ou), .long sy, .int (nI cn)]) (rest := []) ⟨hx, hb, hml, hown, hw⟩ (c_X2_replace l D cI s.heap.size t r tx n pl ou sy cn (by first | assumption | omega) (by first | assumption | omega) (by first | assumption | omega) (by first | assumption | omega)) (cwV 4 hw (es_v xw_188 xw_189 xw_190 xw_191 xw_125) rfl rfl rfl kv_X2_replace ⟨Nat.le_trans (Nat.le_of_ble_eq_true rfl) hRm.1, Nat.le_trans (Nat.le_of_ble_eq_true rfl) hRm.2⟩) (es_WV hK (hP.sub (ws' := [(t, .inr (2, [.ref r, .int (nI n)])), (r, .inl (cI, 400, .inl tx))]) [4, 5] rfl) (hD.sub (ws' := [(t, .inr (2, [.ref r, .int (nI n)])), (r, .inl (cI, 400, .inl tx))]) [4, 5] (by decide) rfl) rfl rfl) rfl rfl hl.1 rfl (lv_room (Nat.le_of_ble_eq_true rfl)) dX3_edit_73 ⟨(Nat.zero_le _), (Nat.zero_le _)⟩) hP hD hS hA [4, 5] [0, 1, 2, 3, 6, 7, 8, 9, 10, 11, 12, 13, 14, 15] rfl rfl (by decide) (by decide) (fun ux H locs hux hP hD hS => ?_)
          have hP : va_P D vwCl [(h, .inr (3, [.ref tb, .ref t, .ref f, .ref g, .int (nI rd), .int (nI sc), .int (nI ed)])), (tb, .inr (1, [.ref a, .ref k])), (a, .inl (cI, 200, .inl ar)), (k, .inl (cI, 20, .inl ki)), (f, .inr (0, [.ref b0, .ref b1, .ref b2, .ref b3, .int (nI cc)])), (b0, .inl (cI, 400, .inl (F 0))), (b1, .inl (cI, 400, .inl (F 1))), (b2, .inl (cI, 400, .inl (F 2))), (b3, .inl (cI, 400, .inl (F 3))), (g, .inr (0, [.ref g0, .ref g1, .ref g2, .ref g3, .int (nI gn)])), (g0, .inl (cI, 400, .inl (G 0))), (g1, .inl (cI, 400, .inl (G 1))), (g2, .inl (cI, 400, .inl (G 2))), (g3, .inl (cI, 400, .inl (G 3))), (t, .inr (2, [.ref r, .int (nI (n - ou + cn))])), (r, .inl (cI, 400, .inl ux))] H := hP
          have hD : va_D A [(h, .inr (3, [.ref tb, .ref t, .ref f, .ref g, .int (nI rd), .int (nI sc), .int (nI ed)])), (tb, .inr (1, [.ref a, .ref k])), (a, .inl (cI, 200, .inl ar)), (k, .inl (cI, 20, .inl ki)), (f, .inr (0, [.ref b0, .ref b1, .ref b2, .ref b3, .int (nI cc)])), (b0, .inl (cI, 400, .inl (F 0))), (b1, .inl (cI, 400, .inl (F 1))), (b2, .inl (cI, 400, .inl (F 2))), (b3, .inl (cI, 400, .inl (F 3))), (g, .inr (0, [.ref g0, .ref g1, .ref g2, .ref g3, .int (nI gn)])), (g0, .inl (cI, 400, .inl (G 0))), (g1, .inl (cI, 400, .inl (G 1))), (g2, .inl (cI, 400, .inl (G 2))), (g3, .inl (cI, 400, .inl (G 3))), (t, .inr (2, [.ref r, .int (nI (n - ou + cn))])), (r, .inl (cI, 400, .inl ux))] := hD
          have hchg := es_chg_of hn h1 h3 hux
          have hsy2 := es_sy_of hsy h1 hux hdg
          refine lv_aload_n hx hb dX3_edit_76 rfl (lv_at hl 2 rfl) ?_
          refine lv_iconst (v := nI 0) hx hb dX3_edit_77 (by decide) ?_
          refine va_put (D := D) (ci := 3) (v := .int (nI 0)) (ty := .int) (C := RX3) (T := TX3) (N := 7) hx hb hw iwX3 tyX3 tyX3_ok nmX3 hown hK.1 hP hD hS 0 rfl rfl 4 (by decide) (hw _ xw_160) (fun _ h9 => h9) rfl (by decide +kernel) rfl rfl (Nat.le_of_ble_eq_true rfl) dX3_edit_78 (fun H locs hP hD hS => ?_)
          have hP : va_P D vwCl [(h, .inr (3, [.ref tb, .ref t, .ref f, .ref g, .int (nI 0), .int (nI sc), .int (nI ed)])), (tb, .inr (1, [.ref a, .ref k])), (a, .inl (cI, 200, .inl ar)), (k, .inl (cI, 20, .inl ki)), (f, .inr (0, [.ref b0, .ref b1, .ref b2, .ref b3, .int (nI cc)])), (b0, .inl (cI, 400, .inl (F 0))), (b1, .inl (cI, 400, .inl (F 1))), (b2, .inl (cI, 400, .inl (F 2))), (b3, .inl (cI, 400, .inl (F 3))), (g, .inr (0, [.ref g0, .ref g1, .ref g2, .ref g3, .int (nI gn)])), (g0, .inl (cI, 400, .inl (G 0))), (g1, .inl (cI, 400, .inl (G 1))), (g2, .inl (cI, 400, .inl (G 2))), (g3, .inl (cI, 400, .inl (G 3))), (t, .inr (2, [.ref r, .int (nI (n - ou + cn))])), (r, .inl (cI, 400, .inl ux))] H := hP
          have hD : va_D A [(h, .inr (3, [.ref tb, .ref t, .ref f, .ref g, .int (nI 0), .int (nI sc), .int (nI ed)])), (tb, .inr (1, [.ref a, .ref k])), (a, .inl (cI, 200, .inl ar)), (k, .inl (cI, 20, .inl ki)), (f, .inr (0, [.ref b0, .ref b1, .ref b2, .ref b3, .int (nI cc)])), (b0, .inl (cI, 400, .inl (F 0))), (b1, .inl (cI, 400, .inl (F 1))), (b2, .inl (cI, 400, .inl (F 2))), (b3, .inl (cI, 400, .inl (F 3))), (g, .inr (0, [.ref g0, .ref g1, .ref g2, .ref g3, .int (nI gn)])), (g0, .inl (cI, 400, .inl (G 0))), (g1, .inl (cI, 400, .inl (G 1))), (g2, .inl (cI, 400, .inl (G 2))), (g3, .inl (cI, 400, .inl (G 3))), (t, .inr (2, [.ref r, .int (nI (n - ou + cn))])), (r, .inl (cI, 400, .inl ux))] := hD
          refine lv_aload_n hx hb dX3_edit_81 rfl (lv_at hl 2 rfl) ?_
          refine lv_iconst (v := nI 0) hx hb dX3_edit_82 (by decide) ?_
          refine va_put (D := D) (ci := 3) (v := .int (nI 0)) (ty := .int) (C := RX3) (T := TX3) (N := 7) hx hb hw iwX3 tyX3 tyX3_ok nmX3 hown hK.1 hP hD hS 0 rfl rfl 5 (by decide) (hw _ xw_161) (fun _ h9 => h9) rfl (by decide +kernel) rfl rfl (Nat.le_of_ble_eq_true rfl) dX3_edit_83 (fun H locs hP hD hS => ?_)
          have hP : va_P D vwCl [(h, .inr (3, [.ref tb, .ref t, .ref f, .ref g, .int (nI 0), .int (nI 0), .int (nI ed)])), (tb, .inr (1, [.ref a, .ref k])), (a, .inl (cI, 200, .inl ar)), (k, .inl (cI, 20, .inl ki)), (f, .inr (0, [.ref b0, .ref b1, .ref b2, .ref b3, .int (nI cc)])), (b0, .inl (cI, 400, .inl (F 0))), (b1, .inl (cI, 400, .inl (F 1))), (b2, .inl (cI, 400, .inl (F 2))), (b3, .inl (cI, 400, .inl (F 3))), (g, .inr (0, [.ref g0, .ref g1, .ref g2, .ref g3, .int (nI gn)])), (g0, .inl (cI, 400, .inl (G 0))), (g1, .inl (cI, 400, .inl (G 1))), (g2, .inl (cI, 400, .inl (G 2))), (g3, .inl (cI, 400, .inl (G 3))), (t, .inr (2, [.ref r, .int (nI (n - ou + cn))])), (r, .inl (cI, 400, .inl ux))] H := hP
          have hD : va_D A [(h, .inr (3, [.ref tb, .ref t, .ref f, .ref g, .int (nI 0), .int (nI 0), .int (nI ed)])), (tb, .inr (1, [.ref a, .ref k])), (a, .inl (cI, 200, .inl ar)), (k, .inl (cI, 20, .inl ki)), (f, .inr (0, [.ref b0, .ref b1, .ref b2, .ref b3, .int (nI cc)])), (b0, .inl (cI, 400, .inl (F 0))), (b1, .inl (cI, 400, .inl (F 1))), (b2, .inl (cI, 400, .inl (F 2))), (b3, .inl (cI, 400, .inl (F 3))), (g, .inr (0, [.ref g0, .ref g1, .ref g2, .ref g3, .int (nI gn)])), (g0, .inl (cI, 400, .inl (G 0))), (g1, .inl (cI, 400, .inl (G 1))), (g2, .inl (cI, 400, .inl (G 2))), (g3, .inl (cI, 400, .inl (G 3))), (t, .inr (2, [.ref r, .int (nI (n - ou + cn))])), (r, .inl (cI, 400, .inl ux))] := hD
          refine lv_aload_n hx hb dX3_edit_86 rfl (lv_at hl 2 rfl) ?_
          refine lv_dup hx hb dX3_edit_87 rfl ?_
          refine va_get (D := D) (ci := 3) (v := .int (nI ed)) (C := RX3) (T := TX3) (N := 7) hx hb hw iwX3 hown hK.1 hP 0 rfl rfl 6 (by decide) (hw _ xw_162) (fun _ h9 => h9) rfl dX3_edit_88 ?_
          refine lv_iconst (v := nI 1) hx hb dX3_edit_91 (by decide) ?_
          refine lv_iadd hx hb dX3_edit_92 ?_
          refine es_top (y := nI (ed + 1)) (nI_add _ _) ?_
          refine va_put (D := D) (ci := 3) (v := .int (nI (ed + 1))) (ty := .int) (C := RX3) (T := TX3) (N := 7) hx hb hw iwX3 tyX3 tyX3_ok nmX3 hown hK.1 hP hD hS 0 rfl rfl 6 (by decide) (hw _ xw_162) (fun _ h9 => h9) rfl (by decide +kernel) rfl rfl (Nat.le_of_ble_eq_true rfl) dX3_edit_93 (fun H locs hP hD hS => ?_)
          have hP : va_P D vwCl [(h, .inr (3, [.ref tb, .ref t, .ref f, .ref g, .int (nI 0), .int (nI 0), .int (nI (ed + 1))])), (tb, .inr (1, [.ref a, .ref k])), (a, .inl (cI, 200, .inl ar)), (k, .inl (cI, 20, .inl ki)), (f, .inr (0, [.ref b0, .ref b1, .ref b2, .ref b3, .int (nI cc)])), (b0, .inl (cI, 400, .inl (F 0))), (b1, .inl (cI, 400, .inl (F 1))), (b2, .inl (cI, 400, .inl (F 2))), (b3, .inl (cI, 400, .inl (F 3))), (g, .inr (0, [.ref g0, .ref g1, .ref g2, .ref g3, .int (nI gn)])), (g0, .inl (cI, 400, .inl (G 0))), (g1, .inl (cI, 400, .inl (G 1))), (g2, .inl (cI, 400, .inl (G 2))), (g3, .inl (cI, 400, .inl (G 3))), (t, .inr (2, [.ref r, .int (nI (n - ou + cn))])), (r, .inl (cI, 400, .inl ux))] H := hP
          have hD : va_D A [(h, .inr (3, [.ref tb, .ref t, .ref f, .ref g, .int (nI 0), .int (nI 0), .int (nI (ed + 1))])), (tb, .inr (1, [.ref a, .ref k])), (a, .inl (cI, 200, .inl ar)), (k, .inl (cI, 20, .inl ki)), (f, .inr (0, [.ref b0, .ref b1, .ref b2, .ref b3, .int (nI cc)])), (b0, .inl (cI, 400, .inl (F 0))), (b1, .inl (cI, 400, .inl (F 1))), (b2, .inl (cI, 400, .inl (F 2))), (b3, .inl (cI, 400, .inl (F 3))), (g, .inr (0, [.ref g0, .ref g1, .ref g2, .ref g3, .int (nI gn)])), (g0, .inl (cI, 400, .inl (G 0))), (g1, .inl (cI, 400, .inl (G 1))), (g2, .inl (cI, 400, .inl (G 2))), (g3, .inl (cI, 400, .inl (G 3))), (t, .inr (2, [.ref r, .int (nI (n - ou + cn))])), (r, .inl (cI, 400, .inl ux))] := hD
          refine lv_iload hx hb dX3_edit_96 (lv_at hl 0 rfl) ?_
          refine lv_if_eq (tgt := 115) hx hb dX3_edit_98 (by decide) (fun c_98 => ?_) (fun c_98 => ?_)
          ·
            exact absurd c_98 (by decide)
          ·
            refine lv_aload_n hx hb dX3_edit_101 rfl (lv_at hl 2 rfl) ?_
            refine lv_iload hx hb dX3_edit_102 (lv_at hl 1 rfl) ?_
            refine lv_iload_n hx hb dX3_edit_104 rfl (lv_at hl 3 rfl) ?_
            refine lv_iload hx hb dX3_edit_105 (lv_at hl 6 rfl) ?_
            refine lv_iadd hx hb dX3_edit_107 ?_
            refine es_top (y := nI (pl + cn)) (nI_add _ _) ?_
            refine lv_iload hx hb dX3_edit_108 (lv_at hl 6 rfl) ?_
            refine lv_iload_n hx hb dX3_edit_110 rfl (lv_at hl 4 rfl) ?_
            refine lv_isub hx hb dX3_edit_111 ?_
            refine es_cv (wr := []) (va_runV (As := [.int (nI fi), .int (nI (pl + cn)), .int ((nI cn) - (nI ou))]) (rest := []) ⟨hx, hb, hml, hown, hw⟩ (c_X3_scanAnew l D cI H.size h tb a k ar ki t r ux (n - ou + cn) g g0 g1 g2 g3 G gn f b0 b1 b2 b3 F cc (nI (ed + 1)) (es_lk tx n) n pl ou cn fi hta hsy2 h2 hchg hcc hF hfi hfp (by first | exact Or.inl c_54 | exact Or.inl (by omega) | exact Or.inr (by omega))) (cwV 3 hw (es_v xw_192 xw_193 xw_194 xw_195 xw_2) rfl rfl rfl kv_X3_scanAnew ⟨Nat.le_trans (Nat.le_of_ble_eq_true rfl) hRm.1, Nat.le_trans (Nat.le_of_ble_eq_true rfl) hRm.2⟩) (es_WV hK (hP.sub (ws' := [(h, .inr (3, [.ref tb, .ref t, .ref f, .ref g, .int (nI 0), .int (nI 0), .int (nI (ed + 1))])), (tb, .inr (1, [.ref a, .ref k])), (a, .inl (cI, 200, .inl ar)), (k, .inl (cI, 20, .inl ki)), (t, .inr (2, [.ref r, .int (nI (n - ou + cn))])), (r, .inl (cI, 400, .inl ux)), (g, .inr (0, [.ref g0, .ref g1, .ref g2, .ref g3, .int (nI gn)])), (g0, .inl (cI, 400, .inl (G 0))), (g1, .inl (cI, 400, .inl (G 1))), (g2, .inl (cI, 400, .inl (G 2))), (g3, .inl (cI, 400, .inl (G 3))), (f, .inr (0, [.ref b0, .ref b1, .ref b2, .ref b3, .int (nI cc)])), (b0, .inl (cI, 400, .inl (F 0))), (b1, .inl (cI, 400, .inl (F 1))), (b2, .inl (cI, 400, .inl (F 2))), (b3, .inl (cI, 400, .inl (F 3)))]) [0, 1, 2, 3, 14, 15, 9, 10, 11, 12, 13, 4, 5, 6, 7, 8] rfl) (hD.sub (ws' := [(h, .inr (3, [.ref tb, .ref t, .ref f, .ref g, .int (nI 0), .int (nI 0), .int (nI (ed + 1))])), (tb, .inr (1, [.ref a, .ref k])), (a, .inl (cI, 200, .inl ar)), (k, .inl (cI, 20, .inl ki)), (t, .inr (2, [.ref r, .int (nI (n - ou + cn))])), (r, .inl (cI, 400, .inl ux)), (g, .inr (0, [.ref g0, .ref g1, .ref g2, .ref g3, .int (nI gn)])), (g0, .inl (cI, 400, .inl (G 0))), (g1, .inl (cI, 400, .inl (G 1))), (g2, .inl (cI, 400, .inl (G 2))), (g3, .inl (cI, 400, .inl (G 3))), (f, .inr (0, [.ref b0, .ref b1, .ref b2, .ref b3, .int (nI cc)])), (b0, .inl (cI, 400, .inl (F 0))), (b1, .inl (cI, 400, .inl (F 1))), (b2, .inl (cI, 400, .inl (F 2))), (b3, .inl (cI, 400, .inl (F 3)))]) [0, 1, 2, 3, 14, 15, 9, 10, 11, 12, 13, 4, 5, 6, 7, 8] (by decide) rfl) rfl rfl) rfl rfl hl.1 rfl (lv_room (Nat.le_of_ble_eq_true rfl)) dX3_edit_112 ⟨(Nat.zero_le _), (Nat.zero_le _)⟩) hP hD hS hA [0, 1, 2, 3, 14, 15, 9, 10, 11, 12, 13, 4, 5, 6, 7, 8] [] rfl rfl (by decide) (by decide) (fun us H locs hus hP hD hS => ?_)
            have hP : va_P D vwCl [(h, .inr (3, [.ref tb, .ref t, .ref g, .ref f, .int (nI us.2.2.1), .int (nI us.2.2.2), .int (nI (ed + 1))])), (tb, .inr (1, [.ref a, .ref k])), (a, .inl (cI, 200, .inl ar)), (k, .inl (cI, 20, .inl ki)), (t, .inr (2, [.ref r, .int (nI (n - ou + cn))])), (r, .inl (cI, 400, .inl ux)), (g, .inr (0, [.ref g0, .ref g1, .ref g2, .ref g3, .int (nI us.2.1)])), (g0, .inl (cI, 400, .inl (us.1 0))), (g1, .inl (cI, 400, .inl (us.1 1))), (g2, .inl (cI, 400, .inl (us.1 2))), (g3, .inl (cI, 400, .inl (us.1 3))), (f, .inr (0, [.ref b0, .ref b1, .ref b2, .ref b3, .int (nI cc)])), (b0, .inl (cI, 400, .inl (F 0))), (b1, .inl (cI, 400, .inl (F 1))), (b2, .inl (cI, 400, .inl (F 2))), (b3, .inl (cI, 400, .inl (F 3)))] H := hP
            have hD : va_D A [(h, .inr (3, [.ref tb, .ref t, .ref g, .ref f, .int (nI us.2.2.1), .int (nI us.2.2.2), .int (nI (ed + 1))])), (tb, .inr (1, [.ref a, .ref k])), (a, .inl (cI, 200, .inl ar)), (k, .inl (cI, 20, .inl ki)), (t, .inr (2, [.ref r, .int (nI (n - ou + cn))])), (r, .inl (cI, 400, .inl ux)), (g, .inr (0, [.ref g0, .ref g1, .ref g2, .ref g3, .int (nI us.2.1)])), (g0, .inl (cI, 400, .inl (us.1 0))), (g1, .inl (cI, 400, .inl (us.1 1))), (g2, .inl (cI, 400, .inl (us.1 2))), (g3, .inl (cI, 400, .inl (us.1 3))), (f, .inr (0, [.ref b0, .ref b1, .ref b2, .ref b3, .int (nI cc)])), (b0, .inl (cI, 400, .inl (F 0))), (b1, .inl (cI, 400, .inl (F 1))), (b2, .inl (cI, 400, .inl (F 2))), (b3, .inl (cI, 400, .inl (F 3)))] := hD
            refine lv_aload_n hx hb dX3_edit_115 rfl (lv_at hl 2 rfl) ?_
            refine va_get (D := D) (ci := 3) (v := .int (nI us.2.2.1)) (C := RX3) (T := TX3) (N := 7) hx hb hw iwX3 hown hK.1 hP 0 rfl rfl 4 (by decide) (hw _ xw_160) (fun _ h9 => h9) rfl dX3_edit_116 ?_
            exact W.iret (v := nI us.2.2.1) hx hb hr (fun zt ht hW => ⟨⟨_, ((g, g0, g1, g2, g3), (f, b0, b1, b2, b3), ux, n - ou + cn, us.1, us.2.1, F, cc, us.2.2.1, us.2.2.2, ed + 1), rfl, Or.inr ⟨hok, hus.1, hus.2.1, rfl, rfl, pl, ou, cn, rfl, rfl, rfl, h1, h2, rfl, h3, hdg, hux, fi, hfi, hfp, hfq, (fun _ => hus.2.2), (fun z => absurd (by first | exact Or.inr c_42 | exact Or.inl c_54 | exact Or.inl (by omega)) z)⟩, ⟨by rw [ht]; exact hP.sub [0, 1, 2, 3, 4, 5, 6, 7, 8, 9, 10, 11, 12, 13, 14, 15] rfl, hD.sub [0, 1, 2, 3, 4, 5, 6, 7, 8, 9, 10, 11, 12, 13, 14, 15] (by decide) rfl⟩⟩, hS.F ht⟩) hS.2.2 dX3_edit_119
    ·
      have hdg := (era.resolve_left (fun h => absurd (h.1.symm.trans c_20) (by decide))).2
      refine lv_iconst (v := (-1)) hx hb dX3_edit_23 (by decide) ?_
      exact W.iret (v := (-1)) hx hb hr (fun zt ht hW => ⟨⟨_, ((f, b0, b1, b2, b3), (g, g0, g1, g2, g3), tx, n, F, cc, G, gn, rd, sc, ed), rfl, Or.inl ⟨(fun h => by first | exact c_11 h.1 | (obtain ⟨j, hj, hj2⟩ := hdg; exact hj2 (h.2 j (by rw [nI_clamp (by omega)]; exact hj)))), rfl, rfl⟩, ⟨by rw [ht]; exact hP.sub [0, 1, 2, 3, 4, 5, 6, 7, 8, 9, 10, 11, 12, 13, 14, 15] rfl, hD.sub [0, 1, 2, 3, 4, 5, 6, 7, 8, 9, 10, 11, 12, 13, 14, 15] (by decide) rfl⟩⟩, hS.F ht⟩) hS.2.2 dX3_edit_24
end
section
def es_tw (F : Nat → Nat → Int32) (y i : Int32) : Int32 := if y = 0 then F 0 i.toNatClampNeg else if y = 1 then F 1 i.toNatClampNeg else if y = 2 then F 2 i.toNatClampNeg else if y = 3 then F 3 i.toNatClampNeg else -1
theorem es_tk_le {F : Nat → Nat → Int32} {c : Nat} : es_tk F c ≤ c := by
  unfold es_tk; split <;> omega
theorem es_tk_lt {F : Nat → Nat → Int32} {c : Nat} {x : Int32} (hc : c ≤ 400) (h : x < nI (es_tk F c)) : x < nI c := by
  have h1 := nI_le (es_tk_le (F := F) (c := c)) (by omega)
  rw [Int32.lt_iff_toInt_lt] at h ⊢
  rw [Int32.le_iff_toInt_le] at h1
  omega
def es_ct (F : Nat → Nat → Int32) (c n rd sc ed : Nat) (x : Int32) : Int32 := if x = 0 then nI (es_tk F c) else if x = 1 then nI n else if x = 2 then (if 0 < c ∧ F 1 (c - 1) = 0 then F 0 (c - 1) else -1) else if x = 3 then (if 0 < c ∧ F 1 (c - 1) = 0 then F 3 (c - 1) else 0) else if x = 4 then nI rd else if x = 5 then nI sc else if x = 6 then nI ed else -1
theorem es_ctx {F : Nat → Nat → Int32} {c a : Nat} (hc : c ≤ 400) (h : 0 < c ∧ F 1 (c - 1) = 0) : (if 0 ≤ nI (es_tk F c) ∧ nI (es_tk F c) < nI c then F a (nI (es_tk F c)).toNatClampNeg else -1) = F a (c - 1) := by
  have e : es_tk F c = c - 1 := if_pos h
  rw [e, if_pos ⟨nI_pos' (by omega), nI_lt (by omega) (by omega)⟩, nI_clamp (by omega)]
theorem es_ct2 {F : Nat → Nat → Int32} {c n rd sc ed : Nat} (hc : c ≤ 400) (h : 0 < c ∧ F 1 (c - 1) = 0) : (if 0 ≤ nI (es_tk F c) ∧ nI (es_tk F c) < nI c then F 0 (nI (es_tk F c)).toNatClampNeg else -1) = es_ct F c n rd sc ed 2 := by
  rw [es_ctx hc h]
  show _ = (if 0 < c ∧ F 1 (c - 1) = 0 then F 0 (c - 1) else -1)
  rw [if_pos h]
theorem es_ct2n {F : Nat → Nat → Int32} {c n rd sc ed : Nat} (h : ¬ (0 < c ∧ F 1 (c - 1) = 0)) : (-1) = es_ct F c n rd sc ed 2 := by
  show _ = (if 0 < c ∧ F 1 (c - 1) = 0 then F 0 (c - 1) else -1)
  rw [if_neg h]
theorem es_ct3 {F : Nat → Nat → Int32} {c n rd sc ed : Nat} (hc : c ≤ 400) (h : 0 < c ∧ F 1 (c - 1) = 0) : (if 0 ≤ nI (es_tk F c) ∧ nI (es_tk F c) < nI c then F 3 (nI (es_tk F c)).toNatClampNeg else -1) = es_ct F c n rd sc ed 3 := by
  rw [es_ctx hc h]
  show _ = (if 0 < c ∧ F 1 (c - 1) = 0 then F 3 (c - 1) else 0)
  rw [if_pos h]
theorem es_ct3n {F : Nat → Nat → Int32} {c n rd sc ed : Nat} (h : ¬ (0 < c ∧ F 1 (c - 1) = 0)) : nI 0 = es_ct F c n rd sc ed 3 := by
  show _ = (if 0 < c ∧ F 1 (c - 1) = 0 then F 3 (c - 1) else 0)
  rw [if_neg h]; rfl
theorem es_tkr {F : Nat → Nat → Int32} {c a : Nat} {x y : Int32} (hc : c ≤ 400) (h0 : 0 ≤ x) (h1 : x < nI (es_tk F c)) (hy : es_tw F y x = F a x.toNatClampNeg) : (if 0 ≤ x ∧ x < nI c then F a x.toNatClampNeg else -1) = (if 0 ≤ x ∧ x < nI (es_tk F c) then es_tw F y x else -1) := by
  rw [if_pos (⟨h0, es_tk_lt hc h1⟩ : 0 ≤ x ∧ x < nI c), if_pos (⟨h0, h1⟩ : 0 ≤ x ∧ x < nI (es_tk F c)), hy]
theorem es_tw0 (F : Nat → Nat → Int32) (x : Int32) : es_tw F 0 x = F 0 x.toNatClampNeg := if_pos rfl
theorem es_tw1 (F : Nat → Nat → Int32) (x : Int32) : es_tw F 1 x = F 1 x.toNatClampNeg := by
  unfold es_tw; rw [if_neg (by decide), if_pos rfl]
theorem es_tw2 (F : Nat → Nat → Int32) (x : Int32) : es_tw F 2 x = F 2 x.toNatClampNeg := by
  unfold es_tw; rw [if_neg (by decide), if_neg (by decide), if_pos rfl]
theorem es_tw3 (F : Nat → Nat → Int32) (x : Int32) : es_tw F 3 x = F 3 x.toNatClampNeg := by
  unfold es_tw; rw [if_neg (by decide), if_neg (by decide), if_neg (by decide), if_pos rfl]

set_option maxHeartbeats 1000000 in
set_option maxRecDepth 100000 in
/-- X3.token  -/
theorem c_X3_token (l : Launch) (D : va_G) (cI : ClassId) (h : Nat) (tb : Nat) (t : Nat) (f : Nat) (b0 : Nat) (b1 : Nat) (b2 : Nat) (b3 : Nat) (F : Nat → Nat → Int32) (cc : Nat) (g : Nat) (rd : Nat) (sc : Nat) (ed : Nat) (x : Int32) (y : Int32) (hc : cc ≤ 400) : Met l yX3_token (Cond.code yX3_token cX3_token 3 (some .int) :: es_T) { frames := 2, cells := 0, slots := 0, locals := 42 } (va_Pc [.ref h, .int x, .int y] (es_R D cI [(h, .inr (3, [.ref tb, .ref t, .ref f, .ref g, .int (nI rd), .int (nI sc), .int (nI ed)])), (f, .inr (0, [.ref b0, .ref b1, .ref b2, .ref b3, .int (nI cc)])), (b0, .inl (cI, 400, .inl (F 0))), (b1, .inl (cI, 400, .inl (F 1))), (b2, .inl (cI, 400, .inl (F 2))), (b3, .inl (cI, 400, .inl (F 3)))])) (vp_Si (fun r => r = if 0 ≤ x ∧ x < nI (es_tk F cc) then es_tw F y x else -1)) 0 0 (fun _ => False) := by
  refine Met.ofW (cc := cX3_token) (maxL := 3) (ret := (some .int)) (by decide) rfl ?_
  intro p e s m args below meth c s₁ B hml hv
  obtain ⟨rfl, hP, hK⟩ := hv
  have hx := B.exec
  have hb := B.bytes
  have hr := B.returns
  have hts := atoms_spec (ws := (Cond.code yX3_token cX3_token 3 (some .int) :: es_T)) B.pre
  have hw : ∀ w ∈ es_T, w.before _ s = true := fun w h => hts w (List.mem_cons_of_mem _ h)
  have hown : s.vm.findClass RX3 = some m.cls := findClass_of_methodNamed B.named
  have hlocks := B.notSynchronized
  have hRm : 2 ≤ (headSpec (Cond.code yX3_token cX3_token 3 (some .int) :: es_T) { frames := 2, cells := 0, slots := 0, locals := 42 }).room.frames ∧ 42 ≤ (headSpec (Cond.code yX3_token cX3_token 3 (some .int) :: es_T) { frames := 2, cells := 0, slots := 0, locals := 42 }).room.locals := ⟨Nat.le_refl _, Nat.le_refl _⟩
  have hRc : 0 ≤ (headSpec (Cond.code yX3_token cX3_token 3 (some .int) :: es_T) { frames := 2, cells := 0, slots := 0, locals := 42 }).room.cells ∧ 0 ≤ (headSpec (Cond.code yX3_token cX3_token 3 (some .int) :: es_T) { frames := 2, cells := 0, slots := 0, locals := 42 }).room.slots := ⟨Nat.le_refl _, Nat.le_refl _⟩
  have hl := lv_entry ([.ref h, .int x, .int y]) (n := 3) (Nat.le_of_ble_eq_true rfl)
  rw [lg_entry_eq]
  generalize (lg_sl ([.ref h, .int x, .int y]) ++ List.replicate (3 - (lg_sl ([.ref h, .int x, .int y])).length) Slot.unset).toArray = ls at hl ⊢
  have hl : lv_has ls 3 [(0, .ref h), (1, .int x), (2, .int y)] := hl
  refine lv_iload_n hx hb dX3_token_0 rfl (lv_at hl 1 rfl) ?_
  refine lv_if_lt (tgt := 15) hx hb dX3_token_1 (by decide) (fun c_1 => ?_) (fun c_1 => ?_)
  ·
    refine lv_iconst (v := (-1)) hx hb dX3_token_15 (by decide) ?_
    exact W.iret (v := (-1)) hx hb hr (fun zt ht hW => ⟨_, rfl, (by show _ = _; first | (rw [if_neg (fun h => absurd c_1 (Int32.not_lt.mpr h.1))]; done) | (rw [if_neg (fun h => c_12 h.2)]; done)), ht⟩) (fun _ h => by cases h) dX3_token_16
  ·
    refine lv_iload_n hx hb dX3_token_4 rfl (lv_at hl 1 rfl) ?_
    refine lv_aload_n hx hb dX3_token_5 rfl (lv_at hl 0 rfl) ?_
    refine va_get (D := D) (ci := 3) (v := .ref f) (C := RX3) (T := TX3) (N := 7) hx hb hw iwX3 hown hK.1 hP 0 rfl rfl 2 (by decide) (hw _ xw_146) (fun _ h9 => h9) rfl dX3_token_6 ?_
    refine vp_callSi (va_Run.run (va_runV (As := []) (rest := [.int x]) ⟨hx, hb, hml, hown, hw⟩ (c_X0_tokens l D cI f b0 b1 b2 b3 F cc (by first | assumption | omega)) (cwV 0 hw (es_v xw_147 xw_148 xw_149 xw_150 xw_83) rfl rfl rfl kv_X0_tokens ⟨Nat.le_trans (Nat.le_of_ble_eq_true rfl) hRm.1, Nat.le_trans (Nat.le_of_ble_eq_true rfl) hRm.2⟩) (es_RV hK (hP.sub (ws' := [(f, .inr (0, [.ref b0, .ref b1, .ref b2, .ref b3, .int (nI cc)])), (b0, .inl (cI, 400, .inl (F 0))), (b1, .inl (cI, 400, .inl (F 1))), (b2, .inl (cI, 400, .inl (F 2))), (b3, .inl (cI, 400, .inl (F 3)))]) [1, 2, 3, 4, 5] rfl) rfl rfl) rfl rfl hl.1 rfl (lv_room (Nat.le_of_ble_eq_true rfl)) dX3_token_9 ⟨(Nat.zero_le _), (Nat.zero_le _)⟩)) (fun r_1 er_1 => ?_)
    obtain rfl : r_1 = nI (es_tk F cc) := er_1
    refine lv_icmp_lt (tgt := 17) hx hb dX3_token_12 (by decide) (fun c_12 => ?_) (fun c_12 => ?_)
    ·
      refine lv_iload_n hx hb dX3_token_17 rfl (lv_at hl 2 rfl) ?_
      by_cases c_18 : y = 0
      ·
        subst c_18
        refine lv_tableIn (tgt := 48) hx hb dX3_token_18 (by decide) (by decide) (off := 30) (by decide) (by decide) ?_
        refine lv_aload_n hx hb dX3_token_48 rfl (lv_at hl 0 rfl) ?_
        refine va_get (D := D) (ci := 3) (v := .ref f) (C := RX3) (T := TX3) (N := 7) hx hb hw iwX3 hown hK.1 hP 0 rfl rfl 2 (by decide) (hw _ xw_146) (fun _ h9 => h9) rfl dX3_token_49 ?_
        refine lv_iload_n hx hb dX3_token_52 rfl (lv_at hl 1 rfl) ?_
        refine vp_callSi (va_Run.run (va_runV (As := [.int x]) (rest := []) ⟨hx, hb, hml, hown, hw⟩ (c_X0_begin l D cI f b0 b1 b2 b3 F cc x (by first | assumption | omega)) (cwV 1 hw (es_v xw_168 xw_169 xw_170 xw_171 xw_83) rfl rfl rfl kv_X0_begin ⟨Nat.le_trans (Nat.le_of_ble_eq_true rfl) hRm.1, Nat.le_trans (Nat.le_of_ble_eq_true rfl) hRm.2⟩) (es_RV hK (hP.sub (ws' := [(f, .inr (0, [.ref b0, .ref b1, .ref b2, .ref b3, .int (nI cc)])), (b0, .inl (cI, 400, .inl (F 0))), (b1, .inl (cI, 400, .inl (F 1))), (b2, .inl (cI, 400, .inl (F 2))), (b3, .inl (cI, 400, .inl (F 3)))]) [1, 2, 3, 4, 5] rfl) rfl rfl) rfl rfl hl.1 rfl (lv_room (Nat.le_of_ble_eq_true rfl)) dX3_token_53 ⟨(Nat.zero_le _), (Nat.zero_le _)⟩)) (fun r_2 er_2 => ?_)
        obtain rfl : r_2 = if 0 ≤ x ∧ x < nI cc then F 0 x.toNatClampNeg else -1 := er_2
        exact W.iret (v := if 0 ≤ x ∧ x < nI cc then F 0 x.toNatClampNeg else -1) hx hb hr (fun zt ht hW => ⟨_, rfl, (es_tkr hc (Int32.not_lt.mp c_1) c_12 (es_tw0 F x)), ht⟩) (fun _ h => by cases h) dX3_token_56
      by_cases c_18 : y = 1
      ·
        subst c_18
        refine lv_tableIn (tgt := 57) hx hb dX3_token_18 (by decide) (by decide) (off := 39) (by decide) (by decide) ?_
        refine lv_aload_n hx hb dX3_token_57 rfl (lv_at hl 0 rfl) ?_
        refine va_get (D := D) (ci := 3) (v := .ref f) (C := RX3) (T := TX3) (N := 7) hx hb hw iwX3 hown hK.1 hP 0 rfl rfl 2 (by decide) (hw _ xw_146) (fun _ h9 => h9) rfl dX3_token_58 ?_
        refine lv_iload_n hx hb dX3_token_61 rfl (lv_at hl 1 rfl) ?_
        refine vp_callSi (va_Run.run (va_runV (As := [.int x]) (rest := []) ⟨hx, hb, hml, hown, hw⟩ (c_X0_length l D cI f b0 b1 b2 b3 F cc x (by first | assumption | omega)) (cwV 1 hw (es_v xw_248 xw_249 xw_250 xw_251 xw_83) rfl rfl rfl kv_X0_length ⟨Nat.le_trans (Nat.le_of_ble_eq_true rfl) hRm.1, Nat.le_trans (Nat.le_of_ble_eq_true rfl) hRm.2⟩) (es_RV hK (hP.sub (ws' := [(f, .inr (0, [.ref b0, .ref b1, .ref b2, .ref b3, .int (nI cc)])), (b0, .inl (cI, 400, .inl (F 0))), (b1, .inl (cI, 400, .inl (F 1))), (b2, .inl (cI, 400, .inl (F 2))), (b3, .inl (cI, 400, .inl (F 3)))]) [1, 2, 3, 4, 5] rfl) rfl rfl) rfl rfl hl.1 rfl (lv_room (Nat.le_of_ble_eq_true rfl)) dX3_token_62 ⟨(Nat.zero_le _), (Nat.zero_le _)⟩)) (fun r_3 er_3 => ?_)
        obtain rfl : r_3 = if 0 ≤ x ∧ x < nI cc then F 1 x.toNatClampNeg else -1 := er_3
        exact W.iret (v := if 0 ≤ x ∧ x < nI cc then F 1 x.toNatClampNeg else -1) hx hb hr (fun zt ht hW => ⟨_, rfl, (es_tkr hc (Int32.not_lt.mp c_1) c_12 (es_tw1 F x)), ht⟩) (fun _ h => by cases h) dX3_token_65
      by_cases c_18 : y = 2
      ·
        subst c_18
        refine lv_tableIn (tgt := 66) hx hb dX3_token_18 (by decide) (by decide) (off := 48) (by decide) (by decide) ?_
        refine lv_aload_n hx hb dX3_token_66 rfl (lv_at hl 0 rfl) ?_
        refine va_get (D := D) (ci := 3) (v := .ref f) (C := RX3) (T := TX3) (N := 7) hx hb hw iwX3 hown hK.1 hP 0 rfl rfl 2 (by decide) (hw _ xw_146) (fun _ h9 => h9) rfl dX3_token_67 ?_
        refine lv_iload_n hx hb dX3_token_70 rfl (lv_at hl 1 rfl) ?_
        refine vp_callSi (va_Run.run (va_runV (As := [.int x]) (rest := []) ⟨hx, hb, hml, hown, hw⟩ (c_X0_kindFound l D cI f b0 b1 b2 b3 F cc x (by first | assumption | omega)) (cwV 1 hw (es_v xw_252 xw_253 xw_254 xw_255 xw_83) rfl rfl rfl kv_X0_kindFound ⟨Nat.le_trans (Nat.le_of_ble_eq_true rfl) hRm.1, Nat.le_trans (Nat.le_of_ble_eq_true rfl) hRm.2⟩) (es_RV hK (hP.sub (ws' := [(f, .inr (0, [.ref b0, .ref b1, .ref b2, .ref b3, .int (nI cc)])), (b0, .inl (cI, 400, .inl (F 0))), (b1, .inl (cI, 400, .inl (F 1))), (b2, .inl (cI, 400, .inl (F 2))), (b3, .inl (cI, 400, .inl (F 3)))]) [1, 2, 3, 4, 5] rfl) rfl rfl) rfl rfl hl.1 rfl (lv_room (Nat.le_of_ble_eq_true rfl)) dX3_token_71 ⟨(Nat.zero_le _), (Nat.zero_le _)⟩)) (fun r_4 er_4 => ?_)
        obtain rfl : r_4 = if 0 ≤ x ∧ x < nI cc then F 2 x.toNatClampNeg else -1 := er_4
        exact W.iret (v := if 0 ≤ x ∧ x < nI cc then F 2 x.toNatClampNeg else -1) hx hb hr (fun zt ht hW => ⟨_, rfl, (es_tkr hc (Int32.not_lt.mp c_1) c_12 (es_tw2 F x)), ht⟩) (fun _ h => by cases h) dX3_token_74
      by_cases c_18 : y = 3
      ·
        subst c_18
        refine lv_tableIn (tgt := 75) hx hb dX3_token_18 (by decide) (by decide) (off := 57) (by decide) (by decide) ?_
        refine lv_aload_n hx hb dX3_token_75 rfl (lv_at hl 0 rfl) ?_
        refine va_get (D := D) (ci := 3) (v := .ref f) (C := RX3) (T := TX3) (N := 7) hx hb hw iwX3 hown hK.1 hP 0 rfl rfl 2 (by decide) (hw _ xw_146) (fun _ h9 => h9) rfl dX3_token_76 ?_
        refine lv_iload_n hx hb dX3_token_79 rfl (lv_at hl 1 rfl) ?_
        refine vp_callSi (va_Run.run (va_runV (As := [.int x]) (rest := []) ⟨hx, hb, hml, hown, hw⟩ (c_X0_looked l D cI f b0 b1 b2 b3 F cc x (by first | assumption | omega)) (cwV 1 hw (es_v xw_172 xw_173 xw_174 xw_175 xw_83) rfl rfl rfl kv_X0_looked ⟨Nat.le_trans (Nat.le_of_ble_eq_true rfl) hRm.1, Nat.le_trans (Nat.le_of_ble_eq_true rfl) hRm.2⟩) (es_RV hK (hP.sub (ws' := [(f, .inr (0, [.ref b0, .ref b1, .ref b2, .ref b3, .int (nI cc)])), (b0, .inl (cI, 400, .inl (F 0))), (b1, .inl (cI, 400, .inl (F 1))), (b2, .inl (cI, 400, .inl (F 2))), (b3, .inl (cI, 400, .inl (F 3)))]) [1, 2, 3, 4, 5] rfl) rfl rfl) rfl rfl hl.1 rfl (lv_room (Nat.le_of_ble_eq_true rfl)) dX3_token_80 ⟨(Nat.zero_le _), (Nat.zero_le _)⟩)) (fun r_5 er_5 => ?_)
        obtain rfl : r_5 = if 0 ≤ x ∧ x < nI cc then F 3 x.toNatClampNeg else -1 := er_5
        exact W.iret (v := if 0 ≤ x ∧ x < nI cc then F 3 x.toNatClampNeg else -1) hx hb hr (fun zt ht hW => ⟨_, rfl, (es_tkr hc (Int32.not_lt.mp c_1) c_12 (es_tw3 F x)), ht⟩) (fun _ h => by cases h) dX3_token_83
      refine lv_tableOut (tgt := 84) hx hb dX3_token_18 (es_out4 (by assumption) (by assumption) (by assumption) (by assumption)) (by decide) ?_
      refine lv_iconst (v := (-1)) hx hb dX3_token_84 (by decide) ?_
      exact W.iret (v := (-1)) hx hb hr (fun zt ht hW => ⟨_, rfl, (by show _ = _; rw [if_pos ⟨Int32.not_lt.mp c_1, c_12⟩]; unfold es_tw; rw [if_neg (by assumption), if_neg (by assumption), if_neg (by assumption), if_neg (by assumption)]), ht⟩) (fun _ h => by cases h) dX3_token_85
    ·
      refine lv_iconst (v := (-1)) hx hb dX3_token_15 (by decide) ?_
      exact W.iret (v := (-1)) hx hb hr (fun zt ht hW => ⟨_, rfl, (by show _ = _; first | (rw [if_neg (fun h => absurd c_1 (Int32.not_lt.mpr h.1))]; done) | (rw [if_neg (fun h => c_12 h.2)]; done)), ht⟩) (fun _ h => by cases h) dX3_token_16
set_option maxHeartbeats 1000000 in
set_option maxRecDepth 100000 in
/-- X3.tokenAt  -/
theorem c_X3_tokenAt (l : Launch) (D : va_G) (cI : ClassId) (h : Nat) (tb : Nat) (t : Nat) (f : Nat) (b0 : Nat) (b1 : Nat) (b2 : Nat) (b3 : Nat) (F : Nat → Nat → Int32) (cc : Nat) (g : Nat) (rd : Nat) (sc : Nat) (ed : Nat) (x : Int32) (hc : cc ≤ 400) : Met l yX3_tokenAt (Cond.code yX3_tokenAt cX3_tokenAt 2 (some .int) :: es_T) { frames := 1, cells := 0, slots := 0, locals := 22 } (va_Pc [.ref h, .int x] (es_R D cI [(h, .inr (3, [.ref tb, .ref t, .ref f, .ref g, .int (nI rd), .int (nI sc), .int (nI ed)])), (f, .inr (0, [.ref b0, .ref b1, .ref b2, .ref b3, .int (nI cc)])), (b0, .inl (cI, 400, .inl (F 0))), (b1, .inl (cI, 400, .inl (F 1))), (b2, .inl (cI, 400, .inl (F 2))), (b3, .inl (cI, 400, .inl (F 3)))])) (vp_Si (fun q => ∃ i : Nat, i ≤ cc ∧ (∀ j, j < i → ¬ (F 0 j ≤ x ∧ x < F 0 j + F 1 j)) ∧ ((i = cc ∧ q = -1) ∨ (i < cc ∧ (F 0 i ≤ x ∧ x < F 0 i + F 1 i) ∧ q = nI i)))) 0 0 (fun _ => False) := by
  refine Met.ofW (cc := cX3_tokenAt) (maxL := 2) (ret := (some .int)) (by decide) rfl ?_
  intro p e s m args below meth c s₁ B hml hv
  obtain ⟨rfl, hP, hK⟩ := hv
  have hx := B.exec
  have hb := B.bytes
  have hr := B.returns
  have hts := atoms_spec (ws := (Cond.code yX3_tokenAt cX3_tokenAt 2 (some .int) :: es_T)) B.pre
  have hw : ∀ w ∈ es_T, w.before _ s = true := fun w h => hts w (List.mem_cons_of_mem _ h)
  have hown : s.vm.findClass RX3 = some m.cls := findClass_of_methodNamed B.named
  have hlocks := B.notSynchronized
  have hRm : 1 ≤ (headSpec (Cond.code yX3_tokenAt cX3_tokenAt 2 (some .int) :: es_T) { frames := 1, cells := 0, slots := 0, locals := 22 }).room.frames ∧ 22 ≤ (headSpec (Cond.code yX3_tokenAt cX3_tokenAt 2 (some .int) :: es_T) { frames := 1, cells := 0, slots := 0, locals := 22 }).room.locals := ⟨Nat.le_refl _, Nat.le_refl _⟩
  have hRc : 0 ≤ (headSpec (Cond.code yX3_tokenAt cX3_tokenAt 2 (some .int) :: es_T) { frames := 1, cells := 0, slots := 0, locals := 22 }).room.cells ∧ 0 ≤ (headSpec (Cond.code yX3_tokenAt cX3_tokenAt 2 (some .int) :: es_T) { frames := 1, cells := 0, slots := 0, locals := 22 }).room.slots := ⟨Nat.le_refl _, Nat.le_refl _⟩
  have hl := lv_entry ([.ref h, .int x]) (n := 2) (Nat.le_of_ble_eq_true rfl)
  rw [lg_entry_eq]
  generalize (lg_sl ([.ref h, .int x]) ++ List.replicate (2 - (lg_sl ([.ref h, .int x])).length) Slot.unset).toArray = ls at hl ⊢
  have hl : lv_has ls 2 [(0, .ref h), (1, .int x)] := hl
  refine lv_aload_n hx hb dX3_tokenAt_0 rfl (lv_at hl 0 rfl) ?_
  refine va_get (D := D) (ci := 3) (v := .ref f) (C := RX3) (T := TX3) (N := 7) hx hb hw iwX3 hown hK.1 hP 0 rfl rfl 2 (by decide) (hw _ xw_146) (fun _ h9 => h9) rfl dX3_tokenAt_1 ?_
  refine lv_iload_n hx hb dX3_tokenAt_4 rfl (lv_at hl 1 rfl) ?_
  refine vp_callSi (va_Run.run (va_runV (As := [.int x]) (rest := []) ⟨hx, hb, hml, hown, hw⟩ (c_X0_tokenAround l D cI f b0 b1 b2 b3 F cc x (by first | assumption | omega)) (cwV 1 hw (es_v xw_256 xw_257 xw_258 xw_259 xw_83) rfl rfl rfl kv_X0_tokenAround ⟨Nat.le_trans (Nat.le_of_ble_eq_true rfl) hRm.1, Nat.le_trans (Nat.le_of_ble_eq_true rfl) hRm.2⟩) (es_RV hK (hP.sub (ws' := [(f, .inr (0, [.ref b0, .ref b1, .ref b2, .ref b3, .int (nI cc)])), (b0, .inl (cI, 400, .inl (F 0))), (b1, .inl (cI, 400, .inl (F 1))), (b2, .inl (cI, 400, .inl (F 2))), (b3, .inl (cI, 400, .inl (F 3)))]) [1, 2, 3, 4, 5] rfl) rfl rfl) rfl rfl hl.1 rfl (lv_room (Nat.le_of_ble_eq_true rfl)) dX3_tokenAt_5 ⟨(Nat.zero_le _), (Nat.zero_le _)⟩)) (fun ri eri => ?_)
  exact W.iret (v := ri) hx hb hr (fun zt ht hW => ⟨_, rfl, eri, ht⟩) (fun _ h => by cases h) dX3_tokenAt_8
set_option maxHeartbeats 1000000 in
set_option maxRecDepth 100000 in
/-- X3.symbol  -/
theorem c_X3_symbol (l : Launch) (D : va_G) (cI : ClassId) (h : Nat) (tb : Nat) (f : Nat) (g : Nat) (rd : Nat) (sc : Nat) (ed : Nat) (t : Nat) (r : Nat) (tx : Nat → Int32) (n : Nat) (x : Int32) (hn : n ≤ 400) : Met l yX3_symbol (Cond.code yX3_symbol cX3_symbol 2 (some .int) :: es_T) { frames := 1, cells := 0, slots := 0, locals := 21 } (va_Pc [.ref h, .int x] (es_R D cI [(h, .inr (3, [.ref tb, .ref t, .ref f, .ref g, .int (nI rd), .int (nI sc), .int (nI ed)])), (t, .inr (2, [.ref r, .int (nI n)])), (r, .inl (cI, 400, .inl tx))])) (vp_Si (fun r => r = if 0 ≤ x ∧ x < nI n then tx x.toNatClampNeg else -1)) 0 0 (fun _ => False) := by
  refine Met.ofW (cc := cX3_symbol) (maxL := 2) (ret := (some .int)) (by decide) rfl ?_
  intro p e s m args below meth c s₁ B hml hv
  obtain ⟨rfl, hP, hK⟩ := hv
  have hx := B.exec
  have hb := B.bytes
  have hr := B.returns
  have hts := atoms_spec (ws := (Cond.code yX3_symbol cX3_symbol 2 (some .int) :: es_T)) B.pre
  have hw : ∀ w ∈ es_T, w.before _ s = true := fun w h => hts w (List.mem_cons_of_mem _ h)
  have hown : s.vm.findClass RX3 = some m.cls := findClass_of_methodNamed B.named
  have hlocks := B.notSynchronized
  have hRm : 1 ≤ (headSpec (Cond.code yX3_symbol cX3_symbol 2 (some .int) :: es_T) { frames := 1, cells := 0, slots := 0, locals := 21 }).room.frames ∧ 21 ≤ (headSpec (Cond.code yX3_symbol cX3_symbol 2 (some .int) :: es_T) { frames := 1, cells := 0, slots := 0, locals := 21 }).room.locals := ⟨Nat.le_refl _, Nat.le_refl _⟩
  have hRc : 0 ≤ (headSpec (Cond.code yX3_symbol cX3_symbol 2 (some .int) :: es_T) { frames := 1, cells := 0, slots := 0, locals := 21 }).room.cells ∧ 0 ≤ (headSpec (Cond.code yX3_symbol cX3_symbol 2 (some .int) :: es_T) { frames := 1, cells := 0, slots := 0, locals := 21 }).room.slots := ⟨Nat.le_refl _, Nat.le_refl _⟩
  have hl := lv_entry ([.ref h, .int x]) (n := 2) (Nat.le_of_ble_eq_true rfl)
  rw [lg_entry_eq]
  generalize (lg_sl ([.ref h, .int x]) ++ List.replicate (2 - (lg_sl ([.ref h, .int x])).length) Slot.unset).toArray = ls at hl ⊢
  have hl : lv_has ls 2 [(0, .ref h), (1, .int x)] := hl
  refine lv_aload_n hx hb dX3_symbol_0 rfl (lv_at hl 0 rfl) ?_
  refine va_get (D := D) (ci := 3) (v := .ref t) (C := RX3) (T := TX3) (N := 7) hx hb hw iwX3 hown hK.1 hP 0 rfl rfl 1 (by decide) (hw _ xw_136) (fun _ h9 => h9) rfl dX3_symbol_1 ?_
  refine lv_iload_n hx hb dX3_symbol_4 rfl (lv_at hl 1 rfl) ?_
  refine vp_callSi (va_Run.run (va_runV (As := [.int x]) (rest := []) ⟨hx, hb, hml, hown, hw⟩ (c_X2_at l D cI t r tx n x (by first | assumption | omega)) (cwV 1 hw (es_v xw_235 xw_236 xw_237 xw_238 xw_125) rfl rfl rfl kv_X2_at ⟨Nat.le_trans (Nat.le_of_ble_eq_true rfl) hRm.1, Nat.le_trans (Nat.le_of_ble_eq_true rfl) hRm.2⟩) (es_RV hK (hP.sub (ws' := [(t, .inr (2, [.ref r, .int (nI n)])), (r, .inl (cI, 400, .inl tx))]) [1, 2] rfl) rfl rfl) rfl rfl hl.1 rfl (lv_room (Nat.le_of_ble_eq_true rfl)) dX3_symbol_5 ⟨(Nat.zero_le _), (Nat.zero_le _)⟩)) (fun r_1 er_1 => ?_)
  obtain rfl : r_1 = if 0 ≤ x ∧ x < nI n then tx x.toNatClampNeg else -1 := er_1
  exact W.iret (v := if 0 ≤ x ∧ x < nI n then tx x.toNatClampNeg else -1) hx hb hr (fun zt ht hW => ⟨_, rfl, rfl, ht⟩) (fun _ h => by cases h) dX3_symbol_8
set_option maxHeartbeats 1000000 in
set_option maxRecDepth 100000 in
/-- X3.count  -/
theorem c_X3_count (l : Launch) (D : va_G) (cI : ClassId) (h : Nat) (tb : Nat) (t : Nat) (f : Nat) (b0 : Nat) (b1 : Nat) (b2 : Nat) (b3 : Nat) (F : Nat → Nat → Int32) (cc : Nat) (g : Nat) (rd : Nat) (sc : Nat) (ed : Nat) (r : Nat) (tx : Nat → Int32) (n : Nat) (x : Int32) (hc : cc ≤ 400) : Met l yX3_count (Cond.code yX3_count cX3_count 2 (some .int) :: es_T) { frames := 2, cells := 0, slots := 0, locals := 42 } (va_Pc [.ref h, .int x] (es_R D cI [(h, .inr (3, [.ref tb, .ref t, .ref f, .ref g, .int (nI rd), .int (nI sc), .int (nI ed)])), (t, .inr (2, [.ref r, .int (nI n)])), (r, .inl (cI, 400, .inl tx)), (f, .inr (0, [.ref b0, .ref b1, .ref b2, .ref b3, .int (nI cc)])), (b0, .inl (cI, 400, .inl (F 0))), (b1, .inl (cI, 400, .inl (F 1))), (b2, .inl (cI, 400, .inl (F 2))), (b3, .inl (cI, 400, .inl (F 3)))])) (vp_Si (fun r => r = es_ct F cc n rd sc ed x)) 0 0 (fun _ => False) := by
  refine Met.ofW (cc := cX3_count) (maxL := 2) (ret := (some .int)) (by decide) rfl ?_
  intro p e s m args below meth c s₁ B hml hv
  obtain ⟨rfl, hP, hK⟩ := hv
  have hx := B.exec
  have hb := B.bytes
  have hr := B.returns
  have hts := atoms_spec (ws := (Cond.code yX3_count cX3_count 2 (some .int) :: es_T)) B.pre
  have hw : ∀ w ∈ es_T, w.before _ s = true := fun w h => hts w (List.mem_cons_of_mem _ h)
  have hown : s.vm.findClass RX3 = some m.cls := findClass_of_methodNamed B.named
  have hlocks := B.notSynchronized
  have hRm : 2 ≤ (headSpec (Cond.code yX3_count cX3_count 2 (some .int) :: es_T) { frames := 2, cells := 0, slots := 0, locals := 42 }).room.frames ∧ 42 ≤ (headSpec (Cond.code yX3_count cX3_count 2 (some .int) :: es_T) { frames := 2, cells := 0, slots := 0, locals := 42 }).room.locals := ⟨Nat.le_refl _, Nat.le_refl _⟩
  have hRc : 0 ≤ (headSpec (Cond.code yX3_count cX3_count 2 (some .int) :: es_T) { frames := 2, cells := 0, slots := 0, locals := 42 }).room.cells ∧ 0 ≤ (headSpec (Cond.code yX3_count cX3_count 2 (some .int) :: es_T) { frames := 2, cells := 0, slots := 0, locals := 42 }).room.slots := ⟨Nat.le_refl _, Nat.le_refl _⟩
  have hl := lv_entry ([.ref h, .int x]) (n := 2) (Nat.le_of_ble_eq_true rfl)
  rw [lg_entry_eq]
  generalize (lg_sl ([.ref h, .int x]) ++ List.replicate (2 - (lg_sl ([.ref h, .int x])).length) Slot.unset).toArray = ls at hl ⊢
  have hl : lv_has ls 2 [(0, .ref h), (1, .int x)] := hl
  refine lv_iload_n hx hb dX3_count_0 rfl (lv_at hl 1 rfl) ?_
  by_cases c_1 : x = 0
  ·
    subst c_1
    refine lv_tableIn (tgt := 44) hx hb dX3_count_1 (by decide) (by decide) (off := 43) (by decide) (by decide) ?_
    refine lv_aload_n hx hb dX3_count_44 rfl (lv_at hl 0 rfl) ?_
    refine va_get (D := D) (ci := 3) (v := .ref f) (C := RX3) (T := TX3) (N := 7) hx hb hw iwX3 hown hK.1 hP 0 rfl rfl 2 (by decide) (hw _ xw_146) (fun _ h9 => h9) rfl dX3_count_45 ?_
    refine vp_callSi (va_Run.run (va_runV (As := []) (rest := []) ⟨hx, hb, hml, hown, hw⟩ (c_X0_tokens l D cI f b0 b1 b2 b3 F cc (by first | assumption | omega)) (cwV 0 hw (es_v xw_147 xw_148 xw_149 xw_150 xw_83) rfl rfl rfl kv_X0_tokens ⟨Nat.le_trans (Nat.le_of_ble_eq_true rfl) hRm.1, Nat.le_trans (Nat.le_of_ble_eq_true rfl) hRm.2⟩) (es_RV hK (hP.sub (ws' := [(f, .inr (0, [.ref b0, .ref b1, .ref b2, .ref b3, .int (nI cc)])), (b0, .inl (cI, 400, .inl (F 0))), (b1, .inl (cI, 400, .inl (F 1))), (b2, .inl (cI, 400, .inl (F 2))), (b3, .inl (cI, 400, .inl (F 3)))]) [3, 4, 5, 6, 7] rfl) rfl rfl) rfl rfl hl.1 rfl (lv_room (Nat.le_of_ble_eq_true rfl)) dX3_count_48 ⟨(Nat.zero_le _), (Nat.zero_le _)⟩)) (fun r_1 er_1 => ?_)
    obtain rfl : r_1 = nI (es_tk F cc) := er_1
    exact W.iret (v := nI (es_tk F cc)) hx hb hr (fun zt ht hW => ⟨_, rfl, rfl, ht⟩) (fun _ h => by cases h) dX3_count_51
  by_cases c_1 : x = 1
  ·
    subst c_1
    refine lv_tableIn (tgt := 52) hx hb dX3_count_1 (by decide) (by decide) (off := 51) (by decide) (by decide) ?_
    refine lv_aload_n hx hb dX3_count_52 rfl (lv_at hl 0 rfl) ?_
    refine va_get (D := D) (ci := 3) (v := .ref t) (C := RX3) (T := TX3) (N := 7) hx hb hw iwX3 hown hK.1 hP 0 rfl rfl 1 (by decide) (hw _ xw_136) (fun _ h9 => h9) rfl dX3_count_53 ?_
    refine vp_callSi (va_Run.run (va_runV (As := []) (rest := []) ⟨hx, hb, hml, hown, hw⟩ (c_X2_size l D cI t r tx n ) (cwV 0 hw (es_v xw_163 xw_164 xw_165 xw_166 xw_125) rfl rfl rfl kv_X2_size ⟨Nat.le_trans (Nat.le_of_ble_eq_true rfl) hRm.1, Nat.le_trans (Nat.le_of_ble_eq_true rfl) hRm.2⟩) (es_RV hK (hP.sub (ws' := [(t, .inr (2, [.ref r, .int (nI n)])), (r, .inl (cI, 400, .inl tx))]) [1, 2] rfl) rfl rfl) rfl rfl hl.1 rfl (lv_room (Nat.le_of_ble_eq_true rfl)) dX3_count_56 ⟨(Nat.zero_le _), (Nat.zero_le _)⟩)) (fun r_2 er_2 => ?_)
    obtain rfl : r_2 = nI n := er_2
    exact W.iret (v := nI n) hx hb hr (fun zt ht hW => ⟨_, rfl, rfl, ht⟩) (fun _ h => by cases h) dX3_count_59
  by_cases c_1 : x = 2
  ·
    subst c_1
    refine lv_tableIn (tgt := 60) hx hb dX3_count_1 (by decide) (by decide) (off := 59) (by decide) (by decide) ?_
    refine lv_aload_n hx hb dX3_count_60 rfl (lv_at hl 0 rfl) ?_
    refine va_get (D := D) (ci := 3) (v := .ref f) (C := RX3) (T := TX3) (N := 7) hx hb hw iwX3 hown hK.1 hP 0 rfl rfl 2 (by decide) (hw _ xw_146) (fun _ h9 => h9) rfl dX3_count_61 ?_
    refine vp_callSi (va_Run.run (va_runV (As := []) (rest := []) ⟨hx, hb, hml, hown, hw⟩ (c_X0_failed l D cI f b0 b1 b2 b3 F cc (by first | assumption | omega)) (cwV 0 hw (es_v xw_99 xw_167 xw_101 xw_102 xw_83) rfl rfl rfl kv_X0_failed ⟨Nat.le_trans (Nat.le_of_ble_eq_true rfl) hRm.1, Nat.le_trans (Nat.le_of_ble_eq_true rfl) hRm.2⟩) (es_RV hK (hP.sub (ws' := [(f, .inr (0, [.ref b0, .ref b1, .ref b2, .ref b3, .int (nI cc)])), (b0, .inl (cI, 400, .inl (F 0))), (b1, .inl (cI, 400, .inl (F 1))), (b2, .inl (cI, 400, .inl (F 2))), (b3, .inl (cI, 400, .inl (F 3)))]) [3, 4, 5, 6, 7] rfl) rfl rfl) rfl rfl hl.1 rfl (lv_room (Nat.le_of_ble_eq_true rfl)) dX3_count_64 ⟨(Nat.zero_le _), (Nat.zero_le _)⟩)) (fun r_3 er_3 => ?_)
    obtain rfl : r_3 = if 0 < cc ∧ F 1 (cc - 1) = 0 then (1 : Int32) else 0 := er_3
    refine lv_if_eq (tgt := 87) hx hb dX3_count_67 (by decide) (fun c_67 => ?_) (fun c_67 => ?_)
    ·
      have c_67 := es_if0 c_67
      refine lv_iconst (v := (-1)) hx hb dX3_count_87 (by decide) ?_
      exact W.iret (v := (-1)) hx hb hr (fun zt ht hW => ⟨_, rfl, (by show _ = _; first | exact es_ct2 hc c_67 | exact es_ct2n c_67), ht⟩) (fun _ h => by cases h) dX3_count_88
    ·
      have c_67 := es_if1 c_67
      refine lv_aload_n hx hb dX3_count_70 rfl (lv_at hl 0 rfl) ?_
      refine va_get (D := D) (ci := 3) (v := .ref f) (C := RX3) (T := TX3) (N := 7) hx hb hw iwX3 hown hK.1 hP 0 rfl rfl 2 (by decide) (hw _ xw_146) (fun _ h9 => h9) rfl dX3_count_71 ?_
      refine lv_aload_n hx hb dX3_count_74 rfl (lv_at hl 0 rfl) ?_
      refine va_get (D := D) (ci := 3) (v := .ref f) (C := RX3) (T := TX3) (N := 7) hx hb hw iwX3 hown hK.1 hP 0 rfl rfl 2 (by decide) (hw _ xw_146) (fun _ h9 => h9) rfl dX3_count_75 ?_
      refine vp_callSi (va_Run.run (va_runV (As := []) (rest := [.ref f]) ⟨hx, hb, hml, hown, hw⟩ (c_X0_tokens l D cI f b0 b1 b2 b3 F cc (by first | assumption | omega)) (cwV 0 hw (es_v xw_147 xw_148 xw_149 xw_150 xw_83) rfl rfl rfl kv_X0_tokens ⟨Nat.le_trans (Nat.le_of_ble_eq_true rfl) hRm.1, Nat.le_trans (Nat.le_of_ble_eq_true rfl) hRm.2⟩) (es_RV hK (hP.sub (ws' := [(f, .inr (0, [.ref b0, .ref b1, .ref b2, .ref b3, .int (nI cc)])), (b0, .inl (cI, 400, .inl (F 0))), (b1, .inl (cI, 400, .inl (F 1))), (b2, .inl (cI, 400, .inl (F 2))), (b3, .inl (cI, 400, .inl (F 3)))]) [3, 4, 5, 6, 7] rfl) rfl rfl) rfl rfl hl.1 rfl (lv_room (Nat.le_of_ble_eq_true rfl)) dX3_count_78 ⟨(Nat.zero_le _), (Nat.zero_le _)⟩)) (fun r_4 er_4 => ?_)
      obtain rfl : r_4 = nI (es_tk F cc) := er_4
      refine vp_callSi (va_Run.run (va_runV (As := [.int (nI (es_tk F cc))]) (rest := []) ⟨hx, hb, hml, hown, hw⟩ (c_X0_begin l D cI f b0 b1 b2 b3 F cc (nI (es_tk F cc)) (by first | assumption | omega)) (cwV 1 hw (es_v xw_168 xw_169 xw_170 xw_171 xw_83) rfl rfl rfl kv_X0_begin ⟨Nat.le_trans (Nat.le_of_ble_eq_true rfl) hRm.1, Nat.le_trans (Nat.le_of_ble_eq_true rfl) hRm.2⟩) (es_RV hK (hP.sub (ws' := [(f, .inr (0, [.ref b0, .ref b1, .ref b2, .ref b3, .int (nI cc)])), (b0, .inl (cI, 400, .inl (F 0))), (b1, .inl (cI, 400, .inl (F 1))), (b2, .inl (cI, 400, .inl (F 2))), (b3, .inl (cI, 400, .inl (F 3)))]) [3, 4, 5, 6, 7] rfl) rfl rfl) rfl rfl hl.1 rfl (lv_room (Nat.le_of_ble_eq_true rfl)) dX3_count_81 ⟨(Nat.zero_le _), (Nat.zero_le _)⟩)) (fun r_5 er_5 => ?_)
      obtain rfl : r_5 = if 0 ≤ (nI (es_tk F cc)) ∧ (nI (es_tk F cc)) < nI cc then F 0 (nI (es_tk F cc)).toNatClampNeg else -1 := er_5
      refine lv_goto (tgt := 88) hx hb dX3_count_84 (by decide) ?_
      exact W.iret (v := if 0 ≤ (nI (es_tk F cc)) ∧ (nI (es_tk F cc)) < nI cc then F 0 (nI (es_tk F cc)).toNatClampNeg else -1) hx hb hr (fun zt ht hW => ⟨_, rfl, (by show _ = _; first | exact es_ct2 hc c_67 | exact es_ct2n c_67), ht⟩) (fun _ h => by cases h) dX3_count_88
  by_cases c_1 : x = 3
  ·
    subst c_1
    refine lv_tableIn (tgt := 89) hx hb dX3_count_1 (by decide) (by decide) (off := 88) (by decide) (by decide) ?_
    refine lv_aload_n hx hb dX3_count_89 rfl (lv_at hl 0 rfl) ?_
    refine va_get (D := D) (ci := 3) (v := .ref f) (C := RX3) (T := TX3) (N := 7) hx hb hw iwX3 hown hK.1 hP 0 rfl rfl 2 (by decide) (hw _ xw_146) (fun _ h9 => h9) rfl dX3_count_90 ?_
    refine vp_callSi (va_Run.run (va_runV (As := []) (rest := []) ⟨hx, hb, hml, hown, hw⟩ (c_X0_failed l D cI f b0 b1 b2 b3 F cc (by first | assumption | omega)) (cwV 0 hw (es_v xw_99 xw_167 xw_101 xw_102 xw_83) rfl rfl rfl kv_X0_failed ⟨Nat.le_trans (Nat.le_of_ble_eq_true rfl) hRm.1, Nat.le_trans (Nat.le_of_ble_eq_true rfl) hRm.2⟩) (es_RV hK (hP.sub (ws' := [(f, .inr (0, [.ref b0, .ref b1, .ref b2, .ref b3, .int (nI cc)])), (b0, .inl (cI, 400, .inl (F 0))), (b1, .inl (cI, 400, .inl (F 1))), (b2, .inl (cI, 400, .inl (F 2))), (b3, .inl (cI, 400, .inl (F 3)))]) [3, 4, 5, 6, 7] rfl) rfl rfl) rfl rfl hl.1 rfl (lv_room (Nat.le_of_ble_eq_true rfl)) dX3_count_93 ⟨(Nat.zero_le _), (Nat.zero_le _)⟩)) (fun r_6 er_6 => ?_)
    obtain rfl : r_6 = if 0 < cc ∧ F 1 (cc - 1) = 0 then (1 : Int32) else 0 := er_6
    refine lv_if_eq (tgt := 116) hx hb dX3_count_96 (by decide) (fun c_96 => ?_) (fun c_96 => ?_)
    ·
      have c_96 := es_if0 c_96
      refine lv_iconst (v := nI 0) hx hb dX3_count_116 (by decide) ?_
      exact W.iret (v := nI 0) hx hb hr (fun zt ht hW => ⟨_, rfl, (by show _ = _; first | exact es_ct3 hc c_96 | exact es_ct3n c_96), ht⟩) (fun _ h => by cases h) dX3_count_117
    ·
      have c_96 := es_if1 c_96
      refine lv_aload_n hx hb dX3_count_99 rfl (lv_at hl 0 rfl) ?_
      refine va_get (D := D) (ci := 3) (v := .ref f) (C := RX3) (T := TX3) (N := 7) hx hb hw iwX3 hown hK.1 hP 0 rfl rfl 2 (by decide) (hw _ xw_146) (fun _ h9 => h9) rfl dX3_count_100 ?_
      refine lv_aload_n hx hb dX3_count_103 rfl (lv_at hl 0 rfl) ?_
      refine va_get (D := D) (ci := 3) (v := .ref f) (C := RX3) (T := TX3) (N := 7) hx hb hw iwX3 hown hK.1 hP 0 rfl rfl 2 (by decide) (hw _ xw_146) (fun _ h9 => h9) rfl dX3_count_104 ?_
      refine vp_callSi (va_Run.run (va_runV (As := []) (rest := [.ref f]) ⟨hx, hb, hml, hown, hw⟩ (c_X0_tokens l D cI f b0 b1 b2 b3 F cc (by first | assumption | omega)) (cwV 0 hw (es_v xw_147 xw_148 xw_149 xw_150 xw_83) rfl rfl rfl kv_X0_tokens ⟨Nat.le_trans (Nat.le_of_ble_eq_true rfl) hRm.1, Nat.le_trans (Nat.le_of_ble_eq_true rfl) hRm.2⟩) (es_RV hK (hP.sub (ws' := [(f, .inr (0, [.ref b0, .ref b1, .ref b2, .ref b3, .int (nI cc)])), (b0, .inl (cI, 400, .inl (F 0))), (b1, .inl (cI, 400, .inl (F 1))), (b2, .inl (cI, 400, .inl (F 2))), (b3, .inl (cI, 400, .inl (F 3)))]) [3, 4, 5, 6, 7] rfl) rfl rfl) rfl rfl hl.1 rfl (lv_room (Nat.le_of_ble_eq_true rfl)) dX3_count_107 ⟨(Nat.zero_le _), (Nat.zero_le _)⟩)) (fun r_7 er_7 => ?_)
      obtain rfl : r_7 = nI (es_tk F cc) := er_7
      refine vp_callSi (va_Run.run (va_runV (As := [.int (nI (es_tk F cc))]) (rest := []) ⟨hx, hb, hml, hown, hw⟩ (c_X0_looked l D cI f b0 b1 b2 b3 F cc (nI (es_tk F cc)) (by first | assumption | omega)) (cwV 1 hw (es_v xw_172 xw_173 xw_174 xw_175 xw_83) rfl rfl rfl kv_X0_looked ⟨Nat.le_trans (Nat.le_of_ble_eq_true rfl) hRm.1, Nat.le_trans (Nat.le_of_ble_eq_true rfl) hRm.2⟩) (es_RV hK (hP.sub (ws' := [(f, .inr (0, [.ref b0, .ref b1, .ref b2, .ref b3, .int (nI cc)])), (b0, .inl (cI, 400, .inl (F 0))), (b1, .inl (cI, 400, .inl (F 1))), (b2, .inl (cI, 400, .inl (F 2))), (b3, .inl (cI, 400, .inl (F 3)))]) [3, 4, 5, 6, 7] rfl) rfl rfl) rfl rfl hl.1 rfl (lv_room (Nat.le_of_ble_eq_true rfl)) dX3_count_110 ⟨(Nat.zero_le _), (Nat.zero_le _)⟩)) (fun r_8 er_8 => ?_)
      obtain rfl : r_8 = if 0 ≤ (nI (es_tk F cc)) ∧ (nI (es_tk F cc)) < nI cc then F 3 (nI (es_tk F cc)).toNatClampNeg else -1 := er_8
      refine lv_goto (tgt := 117) hx hb dX3_count_113 (by decide) ?_
      exact W.iret (v := if 0 ≤ (nI (es_tk F cc)) ∧ (nI (es_tk F cc)) < nI cc then F 3 (nI (es_tk F cc)).toNatClampNeg else -1) hx hb hr (fun zt ht hW => ⟨_, rfl, (by show _ = _; first | exact es_ct3 hc c_96 | exact es_ct3n c_96), ht⟩) (fun _ h => by cases h) dX3_count_117
  by_cases c_1 : x = 4
  ·
    subst c_1
    refine lv_tableIn (tgt := 118) hx hb dX3_count_1 (by decide) (by decide) (off := 117) (by decide) (by decide) ?_
    refine lv_aload_n hx hb dX3_count_118 rfl (lv_at hl 0 rfl) ?_
    refine va_get (D := D) (ci := 3) (v := .int (nI rd)) (C := RX3) (T := TX3) (N := 7) hx hb hw iwX3 hown hK.1 hP 0 rfl rfl 4 (by decide) (hw _ xw_160) (fun _ h9 => h9) rfl dX3_count_119 ?_
    exact W.iret (v := nI rd) hx hb hr (fun zt ht hW => ⟨_, rfl, rfl, ht⟩) (fun _ h => by cases h) dX3_count_122
  by_cases c_1 : x = 5
  ·
    subst c_1
    refine lv_tableIn (tgt := 123) hx hb dX3_count_1 (by decide) (by decide) (off := 122) (by decide) (by decide) ?_
    refine lv_aload_n hx hb dX3_count_123 rfl (lv_at hl 0 rfl) ?_
    refine va_get (D := D) (ci := 3) (v := .int (nI sc)) (C := RX3) (T := TX3) (N := 7) hx hb hw iwX3 hown hK.1 hP 0 rfl rfl 5 (by decide) (hw _ xw_161) (fun _ h9 => h9) rfl dX3_count_124 ?_
    exact W.iret (v := nI sc) hx hb hr (fun zt ht hW => ⟨_, rfl, rfl, ht⟩) (fun _ h => by cases h) dX3_count_127
  by_cases c_1 : x = 6
  ·
    subst c_1
    refine lv_tableIn (tgt := 128) hx hb dX3_count_1 (by decide) (by decide) (off := 127) (by decide) (by decide) ?_
    refine lv_aload_n hx hb dX3_count_128 rfl (lv_at hl 0 rfl) ?_
    refine va_get (D := D) (ci := 3) (v := .int (nI ed)) (C := RX3) (T := TX3) (N := 7) hx hb hw iwX3 hown hK.1 hP 0 rfl rfl 6 (by decide) (hw _ xw_162) (fun _ h9 => h9) rfl dX3_count_129 ?_
    exact W.iret (v := nI ed) hx hb hr (fun zt ht hW => ⟨_, rfl, rfl, ht⟩) (fun _ h => by cases h) dX3_count_132
  refine lv_tableOut (tgt := 133) hx hb dX3_count_1 (es_out7 (by assumption) (by assumption) (by assumption) (by assumption) (by assumption) (by assumption) (by assumption)) (by decide) ?_
  refine lv_iconst (v := (-1)) hx hb dX3_count_133 (by decide) ?_
  exact W.iret (v := (-1)) hx hb hr (fun zt ht hW => ⟨_, rfl, (by show _ = _; unfold es_ct; rw [if_neg (by assumption), if_neg (by assumption), if_neg (by assumption), if_neg (by assumption), if_neg (by assumption), if_neg (by assumption), if_neg (by assumption)]), ht⟩) (fun _ h => by cases h) dX3_count_134
set_option maxHeartbeats 1000000 in
set_option maxRecDepth 100000 in
/-- X3.clear  -/
theorem c_X3_clear (l : Launch) (D : va_G) (cI : ClassId) (sz : Nat) (h : Nat) (tb : Nat) (a : Nat) (k : Nat) (ar : Nat → Int32) (ki : Nat → Int32) (t : Nat) (r : Nat) (tx : Nat → Int32) (n : Nat) (f : Nat) (b0 : Nat) (b1 : Nat) (b2 : Nat) (b3 : Nat) (F : Nat → Nat → Int32) (cc : Nat) (g : Nat) (g0 : Nat) (g1 : Nat) (g2 : Nat) (g3 : Nat) (G : Nat → Nat → Int32) (gn : Nat) (rd : Nat) (sc : Nat) (ed : Nat) (hc : cc ≤ 400) : Met l yX3_clear (Cond.code yX3_clear cX3_clear 2 (some .int) :: es_T) { frames := 2, cells := 0, slots := 0, locals := 43 } (va_Pc [.ref h] (es_W D cI sz [(h, .inr (3, [.ref tb, .ref t, .ref f, .ref g, .int (nI rd), .int (nI sc), .int (nI ed)])), (tb, .inr (1, [.ref a, .ref k])), (a, .inl (cI, 200, .inl ar)), (k, .inl (cI, 20, .inl ki)), (t, .inr (2, [.ref r, .int (nI n)])), (r, .inl (cI, 400, .inl tx)), (f, .inr (0, [.ref b0, .ref b1, .ref b2, .ref b3, .int (nI cc)])), (b0, .inl (cI, 400, .inl (F 0))), (b1, .inl (cI, 400, .inl (F 1))), (b2, .inl (cI, 400, .inl (F 2))), (b3, .inl (cI, 400, .inl (F 3))), (g, .inr (0, [.ref g0, .ref g1, .ref g2, .ref g3, .int (nI gn)])), (g0, .inl (cI, 400, .inl (G 0))), (g1, .inl (cI, 400, .inl (G 1))), (g2, .inl (cI, 400, .inl (G 2))), (g3, .inl (cI, 400, .inl (G 3)))])) (va_Qi (fun q _ => q = nI (es_tk F cc)) (fun (u : Unit) zt => va_P D vwCl [(h, .inr (3, [.ref tb, .ref t, .ref f, .ref g, .int (nI 0), .int (nI 0), .int (nI 0)])), (tb, .inr (1, [.ref a, .ref k])), (a, .inl (cI, 200, .inl (fun _ => -1))), (k, .inl (cI, 20, .inl (fun _ => -1))), (t, .inr (2, [.ref r, .int (nI 0)])), (r, .inl (cI, 400, .inl tx)), (f, .inr (0, [.ref b0, .ref b1, .ref b2, .ref b3, .int (nI 0)])), (b0, .inl (cI, 400, .inl (F 0))), (b1, .inl (cI, 400, .inl (F 1))), (b2, .inl (cI, 400, .inl (F 2))), (b3, .inl (cI, 400, .inl (F 3))), (g, .inr (0, [.ref g0, .ref g1, .ref g2, .ref g3, .int (nI gn)])), (g0, .inl (cI, 400, .inl (G 0))), (g1, .inl (cI, 400, .inl (G 1))), (g2, .inl (cI, 400, .inl (G 2))), (g3, .inl (cI, 400, .inl (G 3)))] zt.heap ∧ va_D (va_A [(h, .inr (3, [.ref tb, .ref t, .ref f, .ref g, .int (nI rd), .int (nI sc), .int (nI ed)])), (tb, .inr (1, [.ref a, .ref k])), (a, .inl (cI, 200, .inl ar)), (k, .inl (cI, 20, .inl ki)), (t, .inr (2, [.ref r, .int (nI n)])), (r, .inl (cI, 400, .inl tx)), (f, .inr (0, [.ref b0, .ref b1, .ref b2, .ref b3, .int (nI cc)])), (b0, .inl (cI, 400, .inl (F 0))), (b1, .inl (cI, 400, .inl (F 1))), (b2, .inl (cI, 400, .inl (F 2))), (b3, .inl (cI, 400, .inl (F 3))), (g, .inr (0, [.ref g0, .ref g1, .ref g2, .ref g3, .int (nI gn)])), (g0, .inl (cI, 400, .inl (G 0))), (g1, .inl (cI, 400, .inl (G 1))), (g2, .inl (cI, 400, .inl (G 2))), (g3, .inl (cI, 400, .inl (G 3)))] sz) [(h, .inr (3, [.ref tb, .ref t, .ref f, .ref g, .int (nI 0), .int (nI 0), .int (nI 0)])), (tb, .inr (1, [.ref a, .ref k])), (a, .inl (cI, 200, .inl (fun _ => -1))), (k, .inl (cI, 20, .inl (fun _ => -1))), (t, .inr (2, [.ref r, .int (nI 0)])), (r, .inl (cI, 400, .inl tx)), (f, .inr (0, [.ref b0, .ref b1, .ref b2, .ref b3, .int (nI 0)])), (b0, .inl (cI, 400, .inl (F 0))), (b1, .inl (cI, 400, .inl (F 1))), (b2, .inl (cI, 400, .inl (F 2))), (b3, .inl (cI, 400, .inl (F 3))), (g, .inr (0, [.ref g0, .ref g1, .ref g2, .ref g3, .int (nI gn)])), (g0, .inl (cI, 400, .inl (G 0))), (g1, .inl (cI, 400, .inl (G 1))), (g2, .inl (cI, 400, .inl (G 2))), (g3, .inl (cI, 400, .inl (G 3)))]) (va_A [(h, .inr (3, [.ref tb, .ref t, .ref f, .ref g, .int (nI rd), .int (nI sc), .int (nI ed)])), (tb, .inr (1, [.ref a, .ref k])), (a, .inl (cI, 200, .inl ar)), (k, .inl (cI, 20, .inl ki)), (t, .inr (2, [.ref r, .int (nI n)])), (r, .inl (cI, 400, .inl tx)), (f, .inr (0, [.ref b0, .ref b1, .ref b2, .ref b3, .int (nI cc)])), (b0, .inl (cI, 400, .inl (F 0))), (b1, .inl (cI, 400, .inl (F 1))), (b2, .inl (cI, 400, .inl (F 2))), (b3, .inl (cI, 400, .inl (F 3))), (g, .inr (0, [.ref g0, .ref g1, .ref g2, .ref g3, .int (nI gn)])), (g0, .inl (cI, 400, .inl (G 0))), (g1, .inl (cI, 400, .inl (G 1))), (g2, .inl (cI, 400, .inl (G 2))), (g3, .inl (cI, 400, .inl (G 3)))] sz)) 0 0 (va_A [(h, .inr (3, [.ref tb, .ref t, .ref f, .ref g, .int (nI rd), .int (nI sc), .int (nI ed)])), (tb, .inr (1, [.ref a, .ref k])), (a, .inl (cI, 200, .inl ar)), (k, .inl (cI, 20, .inl ki)), (t, .inr (2, [.ref r, .int (nI n)])), (r, .inl (cI, 400, .inl tx)), (f, .inr (0, [.ref b0, .ref b1, .ref b2, .ref b3, .int (nI cc)])), (b0, .inl (cI, 400, .inl (F 0))), (b1, .inl (cI, 400, .inl (F 1))), (b2, .inl (cI, 400, .inl (F 2))), (b3, .inl (cI, 400, .inl (F 3))), (g, .inr (0, [.ref g0, .ref g1, .ref g2, .ref g3, .int (nI gn)])), (g0, .inl (cI, 400, .inl (G 0))), (g1, .inl (cI, 400, .inl (G 1))), (g2, .inl (cI, 400, .inl (G 2))), (g3, .inl (cI, 400, .inl (G 3)))] sz) := by
  refine Met.ofW (cc := cX3_clear) (maxL := 2) (ret := (some .int)) (by decide) rfl ?_
  intro p e s m args below meth c s₁ B hml hv
  obtain ⟨rfl, hsz, hP, hK, hD0⟩ := hv
  have hx := B.exec
  have hb := B.bytes
  have hr := B.returns
  have hts := atoms_spec (ws := (Cond.code yX3_clear cX3_clear 2 (some .int) :: es_T)) B.pre
  have hw : ∀ w ∈ es_T, w.before _ s = true := fun w h => hts w (List.mem_cons_of_mem _ h)
  have hown : s.vm.findClass RX3 = some m.cls := findClass_of_methodNamed B.named
  have hlocks := B.notSynchronized
  have hRm : 2 ≤ (headSpec (Cond.code yX3_clear cX3_clear 2 (some .int) :: es_T) { frames := 2, cells := 0, slots := 0, locals := 43 }).room.frames ∧ 43 ≤ (headSpec (Cond.code yX3_clear cX3_clear 2 (some .int) :: es_T) { frames := 2, cells := 0, slots := 0, locals := 43 }).room.locals := ⟨Nat.le_refl _, Nat.le_refl _⟩
  have hRc : 0 ≤ (headSpec (Cond.code yX3_clear cX3_clear 2 (some .int) :: es_T) { frames := 2, cells := 0, slots := 0, locals := 43 }).room.cells ∧ 0 ≤ (headSpec (Cond.code yX3_clear cX3_clear 2 (some .int) :: es_T) { frames := 2, cells := 0, slots := 0, locals := 43 }).room.slots := ⟨Nat.le_refl _, Nat.le_refl _⟩
  subst hsz
  have hD := hD0.self (sz := s.heap.size)
  generalize hAe : va_A [(h, .inr (3, [.ref tb, .ref t, .ref f, .ref g, .int (nI rd), .int (nI sc), .int (nI ed)])), (tb, .inr (1, [.ref a, .ref k])), (a, .inl (cI, 200, .inl ar)), (k, .inl (cI, 20, .inl ki)), (t, .inr (2, [.ref r, .int (nI n)])), (r, .inl (cI, 400, .inl tx)), (f, .inr (0, [.ref b0, .ref b1, .ref b2, .ref b3, .int (nI cc)])), (b0, .inl (cI, 400, .inl (F 0))), (b1, .inl (cI, 400, .inl (F 1))), (b2, .inl (cI, 400, .inl (F 2))), (b3, .inl (cI, 400, .inl (F 3))), (g, .inr (0, [.ref g0, .ref g1, .ref g2, .ref g3, .int (nI gn)])), (g0, .inl (cI, 400, .inl (G 0))), (g1, .inl (cI, 400, .inl (G 1))), (g2, .inl (cI, 400, .inl (G 2))), (g3, .inl (cI, 400, .inl (G 3)))] s.heap.size = A at hD ⊢
  have hA : ∀ q : Nat, s.heap.size ≤ q → A q := fun q h => by rw [← hAe]; exact Or.inr h
  have hS : va_S A s.heap s.heap [] := va_S.rf
  have hl := lv_entry ([.ref h]) (n := 2) (Nat.le_of_ble_eq_true rfl)
  rw [lg_entry_eq]
  generalize (lg_sl ([.ref h]) ++ List.replicate (2 - (lg_sl ([.ref h])).length) Slot.unset).toArray = ls at hl ⊢
  have hl : lv_has ls 2 [(0, .ref h)] := hl
  refine lv_aload_n hx hb dX3_clear_0 rfl (lv_at hl 0 rfl) ?_
  refine va_get (D := D) (ci := 3) (v := .ref f) (C := RX3) (T := TX3) (N := 7) hx hb hw iwX3 hown hK.1 hP 0 rfl rfl 2 (by decide) (hw _ xw_146) (fun _ h9 => h9) rfl dX3_clear_1 ?_
  refine vp_callSi (va_Run.run (va_runV (As := []) (rest := []) ⟨hx, hb, hml, hown, hw⟩ (c_X0_tokens l D cI f b0 b1 b2 b3 F cc (by first | assumption | omega)) (cwV 0 hw (es_v xw_147 xw_148 xw_149 xw_150 xw_83) rfl rfl rfl kv_X0_tokens ⟨Nat.le_trans (Nat.le_of_ble_eq_true rfl) hRm.1, Nat.le_trans (Nat.le_of_ble_eq_true rfl) hRm.2⟩) (es_RV hK (hP.sub (ws' := [(f, .inr (0, [.ref b0, .ref b1, .ref b2, .ref b3, .int (nI cc)])), (b0, .inl (cI, 400, .inl (F 0))), (b1, .inl (cI, 400, .inl (F 1))), (b2, .inl (cI, 400, .inl (F 2))), (b3, .inl (cI, 400, .inl (F 3)))]) [6, 7, 8, 9, 10] rfl) rfl rfl) rfl rfl hl.1 rfl (lv_room (Nat.le_of_ble_eq_true rfl)) dX3_clear_4 ⟨(Nat.zero_le _), (Nat.zero_le _)⟩)) (fun r_1 er_1 => ?_)
  obtain rfl : r_1 = nI (es_tk F cc) := er_1
  refine lv_istore_n (lv' := [(1, .int (nI (es_tk F cc))), (0, .ref h)]) hx hb dX3_clear_7 rfl hl (by decide) rfl (fun ls hl => ?_)
  refine lv_aload_n hx hb dX3_clear_8 rfl (lv_at hl 1 rfl) ?_
  refine va_get (D := D) (ci := 3) (v := .ref tb) (C := RX3) (T := TX3) (N := 7) hx hb hw iwX3 hown hK.1 hP 0 rfl rfl 0 (by decide) (hw _ xw_141) (fun _ h9 => h9) rfl dX3_clear_9 ?_
  refine es_cv (wr := [(h, .inr (3, [.ref tb, .ref t, .ref f, .ref g, .int (nI rd), .int (nI sc), .int (nI ed)])), (t, .inr (2, [.ref r, .int (nI n)])), (r, .inl (cI, 400, .inl tx)), (f, .inr (0, [.ref b0, .ref b1, .ref b2, .ref b3, .int (nI cc)])), (b0, .inl (cI, 400, .inl (F 0))), (b1, .inl (cI, 400, .inl (F 1))), (b2, .inl (cI, 400, .inl (F 2))), (b3, .inl (cI, 400, .inl (F 3))), (g, .inr (0, [.ref g0, .ref g1, .ref g2, .ref g3, .int (nI gn)])), (g0, .inl (cI, 400, .inl (G 0))), (g1, .inl (cI, 400, .inl (G 1))), (g2, .inl (cI, 400, .inl (G 2))), (g3, .inl (cI, 400, .inl (G 3)))]) (va_runV (As := []) (rest := []) ⟨hx, hb, hml, hown, hw⟩ (c_X1_forget l D cI s.heap.size tb a k ar ki ) (cwV 0 hw (es_v xw_110 xw_151 xw_113 xw_114 xw_111) rfl rfl rfl kv_X1_forget ⟨Nat.le_trans (Nat.le_of_ble_eq_true rfl) hRm.1, Nat.le_trans (Nat.le_of_ble_eq_true rfl) hRm.2⟩) (es_WV hK (hP.sub (ws' := [(tb, .inr (1, [.ref a, .ref k])), (a, .inl (cI, 200, .inl ar)), (k, .inl (cI, 20, .inl ki))]) [1, 2, 3] rfl) (hD.sub (ws' := [(tb, .inr (1, [.ref a, .ref k])), (a, .inl (cI, 200, .inl ar)), (k, .inl (cI, 20, .inl ki))]) [1, 2, 3] (by decide) rfl) rfl rfl) rfl rfl hl.1 rfl (lv_room (Nat.le_of_ble_eq_true rfl)) dX3_clear_12 ⟨(Nat.zero_le _), (Nat.zero_le _)⟩) hP hD hS hA [1, 2, 3] [0, 4, 5, 6, 7, 8, 9, 10, 11, 12, 13, 14, 15] rfl rfl (by decide) (by decide) (fun u_2 H locs hu_2 hP hD hS => ?_)
  have hP : va_P D vwCl [(h, .inr (3, [.ref tb, .ref t, .ref f, .ref g, .int (nI rd), .int (nI sc), .int (nI ed)])), (t, .inr (2, [.ref r, .int (nI n)])), (r, .inl (cI, 400, .inl tx)), (f, .inr (0, [.ref b0, .ref b1, .ref b2, .ref b3, .int (nI cc)])), (b0, .inl (cI, 400, .inl (F 0))), (b1, .inl (cI, 400, .inl (F 1))), (b2, .inl (cI, 400, .inl (F 2))), (b3, .inl (cI, 400, .inl (F 3))), (g, .inr (0, [.ref g0, .ref g1, .ref g2, .ref g3, .int (nI gn)])), (g0, .inl (cI, 400, .inl (G 0))), (g1, .inl (cI, 400, .inl (G 1))), (g2, .inl (cI, 400, .inl (G 2))), (g3, .inl (cI, 400, .inl (G 3))), (tb, .inr (1, [.ref a, .ref k])), (a, .inl (cI, 200, .inl (fun _ => -1))), (k, .inl (cI, 20, .inl (fun _ => -1)))] H := hP
  have hD : va_D A [(h, .inr (3, [.ref tb, .ref t, .ref f, .ref g, .int (nI rd), .int (nI sc), .int (nI ed)])), (t, .inr (2, [.ref r, .int (nI n)])), (r, .inl (cI, 400, .inl tx)), (f, .inr (0, [.ref b0, .ref b1, .ref b2, .ref b3, .int (nI cc)])), (b0, .inl (cI, 400, .inl (F 0))), (b1, .inl (cI, 400, .inl (F 1))), (b2, .inl (cI, 400, .inl (F 2))), (b3, .inl (cI, 400, .inl (F 3))), (g, .inr (0, [.ref g0, .ref g1, .ref g2, .ref g3, .int (nI gn)])), (g0, .inl (cI, 400, .inl (G 0))), (g1, .inl (cI, 400, .inl (G 1))), (g2, .inl (cI, 400, .inl (G 2))), (g3, .inl (cI, 400, .inl (G 3))), (tb, .inr (1, [.ref a, .ref k])), (a, .inl (cI, 200, .inl (fun _ => -1))), (k, .inl (cI, 20, .inl (fun _ => -1)))] := hD
  refine lv_aload_n hx hb dX3_clear_15 rfl (lv_at hl 1 rfl) ?_
  refine va_get (D := D) (ci := 3) (v := .ref t) (C := RX3) (T := TX3) (N := 7) hx hb hw iwX3 hown hK.1 hP 0 rfl rfl 1 (by decide) (hw _ xw_136) (fun _ h9 => h9) rfl dX3_clear_16 ?_
  refine es_cv (wr := [(h, .inr (3, [.ref tb, .ref t, .ref f, .ref g, .int (nI rd), .int (nI sc), .int (nI ed)])), (f, .inr (0, [.ref b0, .ref b1, .ref b2, .ref b3, .int (nI cc)])), (b0, .inl (cI, 400, .inl (F 0))), (b1, .inl (cI, 400, .inl (F 1))), (b2, .inl (cI, 400, .inl (F 2))), (b3, .inl (cI, 400, .inl (F 3))), (g, .inr (0, [.ref g0, .ref g1, .ref g2, .ref g3, .int (nI gn)])), (g0, .inl (cI, 400, .inl (G 0))), (g1, .inl (cI, 400, .inl (G 1))), (g2, .inl (cI, 400, .inl (G 2))), (g3, .inl (cI, 400, .inl (G 3))), (tb, .inr (1, [.ref a, .ref k])), (a, .inl (cI, 200, .inl (fun _ => -1))), (k, .inl (cI, 20, .inl (fun _ => -1)))]) (va_runV (As := []) (rest := []) ⟨hx, hb, hml, hown, hw⟩ (c_X2_forget l D cI H.size t r tx n ) (cwV 0 hw (es_v xw_152 xw_153 xw_154 xw_155 xw_125) rfl rfl rfl kv_X2_forget ⟨Nat.le_trans (Nat.le_of_ble_eq_true rfl) hRm.1, Nat.le_trans (Nat.le_of_ble_eq_true rfl) hRm.2⟩) (es_WV hK (hP.sub (ws' := [(t, .inr (2, [.ref r, .int (nI n)])), (r, .inl (cI, 400, .inl tx))]) [1, 2] rfl) (hD.sub (ws' := [(t, .inr (2, [.ref r, .int (nI n)])), (r, .inl (cI, 400, .inl tx))]) [1, 2] (by decide) rfl) rfl rfl) rfl rfl hl.1 rfl (lv_room (Nat.le_of_ble_eq_true rfl)) dX3_clear_19 ⟨(Nat.zero_le _), (Nat.zero_le _)⟩) hP hD hS hA [1, 2] [0, 3, 4, 5, 6, 7, 8, 9, 10, 11, 12, 13, 14, 15] rfl rfl (by decide) (by decide) (fun u_4 H locs hu_4 hP hD hS => ?_)
  have hP : va_P D vwCl [(h, .inr (3, [.ref tb, .ref t, .ref f, .ref g, .int (nI rd), .int (nI sc), .int (nI ed)])), (f, .inr (0, [.ref b0, .ref b1, .ref b2, .ref b3, .int (nI cc)])), (b0, .inl (cI, 400, .inl (F 0))), (b1, .inl (cI, 400, .inl (F 1))), (b2, .inl (cI, 400, .inl (F 2))), (b3, .inl (cI, 400, .inl (F 3))), (g, .inr (0, [.ref g0, .ref g1, .ref g2, .ref g3, .int (nI gn)])), (g0, .inl (cI, 400, .inl (G 0))), (g1, .inl (cI, 400, .inl (G 1))), (g2, .inl (cI, 400, .inl (G 2))), (g3, .inl (cI, 400, .inl (G 3))), (tb, .inr (1, [.ref a, .ref k])), (a, .inl (cI, 200, .inl (fun _ => -1))), (k, .inl (cI, 20, .inl (fun _ => -1))), (t, .inr (2, [.ref r, .int (nI 0)])), (r, .inl (cI, 400, .inl tx))] H := hP
  have hD : va_D A [(h, .inr (3, [.ref tb, .ref t, .ref f, .ref g, .int (nI rd), .int (nI sc), .int (nI ed)])), (f, .inr (0, [.ref b0, .ref b1, .ref b2, .ref b3, .int (nI cc)])), (b0, .inl (cI, 400, .inl (F 0))), (b1, .inl (cI, 400, .inl (F 1))), (b2, .inl (cI, 400, .inl (F 2))), (b3, .inl (cI, 400, .inl (F 3))), (g, .inr (0, [.ref g0, .ref g1, .ref g2, .ref g3, .int (nI gn)])), (g0, .inl (cI, 400, .inl (G 0))), (g1, .inl (cI, 400, .inl (G 1))), (g2, .inl (cI, 400, .inl (G 2))), (g3, .inl (cI, 400, .inl (G 3))), (tb, .inr (1, [.ref a, .ref k])), (a, .inl (cI, 200, .inl (fun _ => -1))), (k, .inl (cI, 20, .inl (fun _ => -1))), (t, .inr (2, [.ref r, .int (nI 0)])), (r, .inl (cI, 400, .inl tx))] := hD
  refine lv_aload_n hx hb dX3_clear_22 rfl (lv_at hl 1 rfl) ?_
  refine va_get (D := D) (ci := 3) (v := .ref f) (C := RX3) (T := TX3) (N := 7) hx hb hw iwX3 hown hK.1 hP 0 rfl rfl 2 (by decide) (hw _ xw_146) (fun _ h9 => h9) rfl dX3_clear_23 ?_
  refine es_cv (wr := [(h, .inr (3, [.ref tb, .ref t, .ref f, .ref g, .int (nI rd), .int (nI sc), .int (nI ed)])), (g, .inr (0, [.ref g0, .ref g1, .ref g2, .ref g3, .int (nI gn)])), (g0, .inl (cI, 400, .inl (G 0))), (g1, .inl (cI, 400, .inl (G 1))), (g2, .inl (cI, 400, .inl (G 2))), (g3, .inl (cI, 400, .inl (G 3))), (tb, .inr (1, [.ref a, .ref k])), (a, .inl (cI, 200, .inl (fun _ => -1))), (k, .inl (cI, 20, .inl (fun _ => -1))), (t, .inr (2, [.ref r, .int (nI 0)])), (r, .inl (cI, 400, .inl tx))]) (va_runV (As := []) (rest := []) ⟨hx, hb, hml, hown, hw⟩ (c_X0_forget l D cI H.size f b0 b1 b2 b3 F cc ) (cwV 0 hw (es_v xw_156 xw_157 xw_158 xw_159 xw_83) rfl rfl rfl kv_X0_forget ⟨Nat.le_trans (Nat.le_of_ble_eq_true rfl) hRm.1, Nat.le_trans (Nat.le_of_ble_eq_true rfl) hRm.2⟩) (es_WV hK (hP.sub (ws' := [(f, .inr (0, [.ref b0, .ref b1, .ref b2, .ref b3, .int (nI cc)])), (b0, .inl (cI, 400, .inl (F 0))), (b1, .inl (cI, 400, .inl (F 1))), (b2, .inl (cI, 400, .inl (F 2))), (b3, .inl (cI, 400, .inl (F 3)))]) [1, 2, 3, 4, 5] rfl) (hD.sub (ws' := [(f, .inr (0, [.ref b0, .ref b1, .ref b2, .ref b3, .int (nI cc)])), (b0, .inl (cI, 400, .inl (F 0))), (b1, .inl (cI, 400, .inl (F 1))), (b2, .inl (cI, 400, .inl (F 2))), (b3, .inl (cI, 400, .inl (F 3)))]) [1, 2, 3, 4, 5] (by decide) rfl) rfl rfl) rfl rfl hl.1 rfl (lv_room (Nat.le_of_ble_eq_true rfl)) dX3_clear_26 ⟨(Nat.zero_le _), (Nat.zero_le _)⟩) hP hD hS hA [1, 2, 3, 4, 5] [0, 6, 7, 8, 9, 10, 11, 12, 13, 14, 15] rfl rfl (by decide) (by decide) (fun u_6 H locs hu_6 hP hD hS => ?_)
  have hP : va_P D vwCl [(h, .inr (3, [.ref tb, .ref t, .ref f, .ref g, .int (nI rd), .int (nI sc), .int (nI ed)])), (g, .inr (0, [.ref g0, .ref g1, .ref g2, .ref g3, .int (nI gn)])), (g0, .inl (cI, 400, .inl (G 0))), (g1, .inl (cI, 400, .inl (G 1))), (g2, .inl (cI, 400, .inl (G 2))), (g3, .inl (cI, 400, .inl (G 3))), (tb, .inr (1, [.ref a, .ref k])), (a, .inl (cI, 200, .inl (fun _ => -1))), (k, .inl (cI, 20, .inl (fun _ => -1))), (t, .inr (2, [.ref r, .int (nI 0)])), (r, .inl (cI, 400, .inl tx)), (f, .inr (0, [.ref b0, .ref b1, .ref b2, .ref b3, .int (nI 0)])), (b0, .inl (cI, 400, .inl (F 0))), (b1, .inl (cI, 400, .inl (F 1))), (b2, .inl (cI, 400, .inl (F 2))), (b3, .inl (cI, 400, .inl (F 3)))] H := hP
  have hD : va_D A [(h, .inr (3, [.ref tb, .ref t, .ref f, .ref g, .int (nI rd), .int (nI sc), .int (nI ed)])), (g, .inr (0, [.ref g0, .ref g1, .ref g2, .ref g3, .int (nI gn)])), (g0, .inl (cI, 400, .inl (G 0))), (g1, .inl (cI, 400, .inl (G 1))), (g2, .inl (cI, 400, .inl (G 2))), (g3, .inl (cI, 400, .inl (G 3))), (tb, .inr (1, [.ref a, .ref k])), (a, .inl (cI, 200, .inl (fun _ => -1))), (k, .inl (cI, 20, .inl (fun _ => -1))), (t, .inr (2, [.ref r, .int (nI 0)])), (r, .inl (cI, 400, .inl tx)), (f, .inr (0, [.ref b0, .ref b1, .ref b2, .ref b3, .int (nI 0)])), (b0, .inl (cI, 400, .inl (F 0))), (b1, .inl (cI, 400, .inl (F 1))), (b2, .inl (cI, 400, .inl (F 2))), (b3, .inl (cI, 400, .inl (F 3)))] := hD
  refine lv_aload_n hx hb dX3_clear_29 rfl (lv_at hl 1 rfl) ?_
  refine lv_iconst (v := nI 0) hx hb dX3_clear_30 (by decide) ?_
  refine va_put (D := D) (ci := 3) (v := .int (nI 0)) (ty := .int) (C := RX3) (T := TX3) (N := 7) hx hb hw iwX3 tyX3 tyX3_ok nmX3 hown hK.1 hP hD hS 0 rfl rfl 4 (by decide) (hw _ xw_160) (fun _ h9 => h9) rfl (by decide +kernel) rfl rfl (Nat.le_of_ble_eq_true rfl) dX3_clear_31 (fun H locs hP hD hS => ?_)
  have hP : va_P D vwCl [(h, .inr (3, [.ref tb, .ref t, .ref f, .ref g, .int (nI 0), .int (nI sc), .int (nI ed)])), (g, .inr (0, [.ref g0, .ref g1, .ref g2, .ref g3, .int (nI gn)])), (g0, .inl (cI, 400, .inl (G 0))), (g1, .inl (cI, 400, .inl (G 1))), (g2, .inl (cI, 400, .inl (G 2))), (g3, .inl (cI, 400, .inl (G 3))), (tb, .inr (1, [.ref a, .ref k])), (a, .inl (cI, 200, .inl (fun _ => -1))), (k, .inl (cI, 20, .inl (fun _ => -1))), (t, .inr (2, [.ref r, .int (nI 0)])), (r, .inl (cI, 400, .inl tx)), (f, .inr (0, [.ref b0, .ref b1, .ref b2, .ref b3, .int (nI 0)])), (b0, .inl (cI, 400, .inl (F 0))), (b1, .inl (cI, 400, .inl (F 1))), (b2, .inl (cI, 400, .inl (F 2))), (b3, .inl (cI, 400, .inl (F 3)))] H := hP
  have hD : va_D A [(h, .inr (3, [.ref tb, .ref t, .ref f, .ref g, .int (nI 0), .int (nI sc), .int (nI ed)])), (g, .inr (0, [.ref g0, .ref g1, .ref g2, .ref g3, .int (nI gn)])), (g0, .inl (cI, 400, .inl (G 0))), (g1, .inl (cI, 400, .inl (G 1))), (g2, .inl (cI, 400, .inl (G 2))), (g3, .inl (cI, 400, .inl (G 3))), (tb, .inr (1, [.ref a, .ref k])), (a, .inl (cI, 200, .inl (fun _ => -1))), (k, .inl (cI, 20, .inl (fun _ => -1))), (t, .inr (2, [.ref r, .int (nI 0)])), (r, .inl (cI, 400, .inl tx)), (f, .inr (0, [.ref b0, .ref b1, .ref b2, .ref b3, .int (nI 0)])), (b0, .inl (cI, 400, .inl (F 0))), (b1, .inl (cI, 400, .inl (F 1))), (b2, .inl (cI, 400, .inl (F 2))), (b3, .inl (cI, 400, .inl (F 3)))] := hD
  refine lv_aload_n hx hb dX3_clear_34 rfl (lv_at hl 1 rfl) ?_
  refine lv_iconst (v := nI 0) hx hb dX3_clear_35 (by decide) ?_
  refine va_put (D := D) (ci := 3) (v := .int (nI 0)) (ty := .int) (C := RX3) (T := TX3) (N := 7) hx hb hw iwX3 tyX3 tyX3_ok nmX3 hown hK.1 hP hD hS 0 rfl rfl 5 (by decide) (hw _ xw_161) (fun _ h9 => h9) rfl (by decide +kernel) rfl rfl (Nat.le_of_ble_eq_true rfl) dX3_clear_36 (fun H locs hP hD hS => ?_)
  have hP : va_P D vwCl [(h, .inr (3, [.ref tb, .ref t, .ref f, .ref g, .int (nI 0), .int (nI 0), .int (nI ed)])), (g, .inr (0, [.ref g0, .ref g1, .ref g2, .ref g3, .int (nI gn)])), (g0, .inl (cI, 400, .inl (G 0))), (g1, .inl (cI, 400, .inl (G 1))), (g2, .inl (cI, 400, .inl (G 2))), (g3, .inl (cI, 400, .inl (G 3))), (tb, .inr (1, [.ref a, .ref k])), (a, .inl (cI, 200, .inl (fun _ => -1))), (k, .inl (cI, 20, .inl (fun _ => -1))), (t, .inr (2, [.ref r, .int (nI 0)])), (r, .inl (cI, 400, .inl tx)), (f, .inr (0, [.ref b0, .ref b1, .ref b2, .ref b3, .int (nI 0)])), (b0, .inl (cI, 400, .inl (F 0))), (b1, .inl (cI, 400, .inl (F 1))), (b2, .inl (cI, 400, .inl (F 2))), (b3, .inl (cI, 400, .inl (F 3)))] H := hP
  have hD : va_D A [(h, .inr (3, [.ref tb, .ref t, .ref f, .ref g, .int (nI 0), .int (nI 0), .int (nI ed)])), (g, .inr (0, [.ref g0, .ref g1, .ref g2, .ref g3, .int (nI gn)])), (g0, .inl (cI, 400, .inl (G 0))), (g1, .inl (cI, 400, .inl (G 1))), (g2, .inl (cI, 400, .inl (G 2))), (g3, .inl (cI, 400, .inl (G 3))), (tb, .inr (1, [.ref a, .ref k])), (a, .inl (cI, 200, .inl (fun _ => -1))), (k, .inl (cI, 20, .inl (fun _ => -1))), (t, .inr (2, [.ref r, .int (nI 0)])), (r, .inl (cI, 400, .inl tx)), (f, .inr (0, [.ref b0, .ref b1, .ref b2, .ref b3, .int (nI 0)])), (b0, .inl (cI, 400, .inl (F 0))), (b1, .inl (cI, 400, .inl (F 1))), (b2, .inl (cI, 400, .inl (F 2))), (b3, .inl (cI, 400, .inl (F 3)))] := hD
  refine lv_aload_n hx hb dX3_clear_39 rfl (lv_at hl 1 rfl) ?_
  refine lv_iconst (v := nI 0) hx hb dX3_clear_40 (by decide) ?_
  refine va_put (D := D) (ci := 3) (v := .int (nI 0)) (ty := .int) (C := RX3) (T := TX3) (N := 7) hx hb hw iwX3 tyX3 tyX3_ok nmX3 hown hK.1 hP hD hS 0 rfl rfl 6 (by decide) (hw _ xw_162) (fun _ h9 => h9) rfl (by decide +kernel) rfl rfl (Nat.le_of_ble_eq_true rfl) dX3_clear_41 (fun H locs hP hD hS => ?_)
  have hP : va_P D vwCl [(h, .inr (3, [.ref tb, .ref t, .ref f, .ref g, .int (nI 0), .int (nI 0), .int (nI 0)])), (g, .inr (0, [.ref g0, .ref g1, .ref g2, .ref g3, .int (nI gn)])), (g0, .inl (cI, 400, .inl (G 0))), (g1, .inl (cI, 400, .inl (G 1))), (g2, .inl (cI, 400, .inl (G 2))), (g3, .inl (cI, 400, .inl (G 3))), (tb, .inr (1, [.ref a, .ref k])), (a, .inl (cI, 200, .inl (fun _ => -1))), (k, .inl (cI, 20, .inl (fun _ => -1))), (t, .inr (2, [.ref r, .int (nI 0)])), (r, .inl (cI, 400, .inl tx)), (f, .inr (0, [.ref b0, .ref b1, .ref b2, .ref b3, .int (nI 0)])), (b0, .inl (cI, 400, .inl (F 0))), (b1, .inl (cI, 400, .inl (F 1))), (b2, .inl (cI, 400, .inl (F 2))), (b3, .inl (cI, 400, .inl (F 3)))] H := hP
  have hD : va_D A [(h, .inr (3, [.ref tb, .ref t, .ref f, .ref g, .int (nI 0), .int (nI 0), .int (nI 0)])), (g, .inr (0, [.ref g0, .ref g1, .ref g2, .ref g3, .int (nI gn)])), (g0, .inl (cI, 400, .inl (G 0))), (g1, .inl (cI, 400, .inl (G 1))), (g2, .inl (cI, 400, .inl (G 2))), (g3, .inl (cI, 400, .inl (G 3))), (tb, .inr (1, [.ref a, .ref k])), (a, .inl (cI, 200, .inl (fun _ => -1))), (k, .inl (cI, 20, .inl (fun _ => -1))), (t, .inr (2, [.ref r, .int (nI 0)])), (r, .inl (cI, 400, .inl tx)), (f, .inr (0, [.ref b0, .ref b1, .ref b2, .ref b3, .int (nI 0)])), (b0, .inl (cI, 400, .inl (F 0))), (b1, .inl (cI, 400, .inl (F 1))), (b2, .inl (cI, 400, .inl (F 2))), (b3, .inl (cI, 400, .inl (F 3)))] := hD
  refine lv_iload_n hx hb dX3_clear_44 rfl (lv_at hl 0 rfl) ?_
  exact W.iret (v := nI (es_tk F cc)) hx hb hr (fun zt ht hW => ⟨⟨_, (), rfl, rfl, ⟨by rw [ht]; exact hP.sub [0, 6, 7, 8, 9, 10, 11, 12, 13, 14, 15, 1, 2, 3, 4, 5] rfl, hD.sub [0, 6, 7, 8, 9, 10, 11, 12, 13, 14, 15, 1, 2, 3, 4, 5] (by decide) rfl⟩⟩, hS.F ht⟩) hS.2.2 dX3_clear_45
set_option maxHeartbeats 1000000 in
set_option maxRecDepth 100000 in
/-- X3.init  -/
theorem c_X3_init (l : Launch) (D : va_G) (cI : ClassId) (sz : Nat) (h : Nat)  : Met l yX3_init (Cond.code yX3_init cX3_init 1 none :: es_T) { frames := 3, cells := 15, slots := 3834, locals := 63 } (va_Pc [.ref h] (es_W D cI sz [(h, .inr (3, [.null, .null, .null, .null, .int 0, .int 0, .int 0]))])) (va_Qv (fun _ => True) (fun (u : (Nat × Nat × Nat) × (Nat × Nat) × (Nat × Nat × Nat × Nat × Nat) × (Nat × Nat × Nat × Nat × Nat)) zt => va_P D vwCl [(h, .inr (3, [.ref u.1.1, .ref u.2.1.1, .ref u.2.2.1.1, .ref u.2.2.2.1, .int (nI 0), .int (nI 0), .int (nI 0)])), (u.1.1, .inr (1, [.ref u.1.2.1, .ref u.1.2.2])), (u.1.2.1, .inl (cI, 200, .inl (fun _ => -1))), (u.1.2.2, .inl (cI, 20, .inl (fun _ => -1))), (u.2.1.1, .inr (2, [.ref u.2.1.2, .int (nI 0)])), (u.2.1.2, .inl (cI, 400, .inl (fun _ => 0))), (u.2.2.1.1, .inr (0, [.ref u.2.2.1.2.1, .ref u.2.2.1.2.2.1, .ref u.2.2.1.2.2.2.1, .ref u.2.2.1.2.2.2.2, .int (nI 0)])), (u.2.2.1.2.1, .inl (cI, 400, .inl (fun _ => 0))), (u.2.2.1.2.2.1, .inl (cI, 400, .inl (fun _ => 0))), (u.2.2.1.2.2.2.1, .inl (cI, 400, .inl (fun _ => 0))), (u.2.2.1.2.2.2.2, .inl (cI, 400, .inl (fun _ => 0))), (u.2.2.2.1, .inr (0, [.ref u.2.2.2.2.1, .ref u.2.2.2.2.2.1, .ref u.2.2.2.2.2.2.1, .ref u.2.2.2.2.2.2.2, .int (nI 0)])), (u.2.2.2.2.1, .inl (cI, 400, .inl (fun _ => 0))), (u.2.2.2.2.2.1, .inl (cI, 400, .inl (fun _ => 0))), (u.2.2.2.2.2.2.1, .inl (cI, 400, .inl (fun _ => 0))), (u.2.2.2.2.2.2.2, .inl (cI, 400, .inl (fun _ => 0)))] zt.heap ∧ va_D (va_A [(h, .inr (3, [.null, .null, .null, .null, .int 0, .int 0, .int 0]))] sz) [(h, .inr (3, [.ref u.1.1, .ref u.2.1.1, .ref u.2.2.1.1, .ref u.2.2.2.1, .int (nI 0), .int (nI 0), .int (nI 0)])), (u.1.1, .inr (1, [.ref u.1.2.1, .ref u.1.2.2])), (u.1.2.1, .inl (cI, 200, .inl (fun _ => -1))), (u.1.2.2, .inl (cI, 20, .inl (fun _ => -1))), (u.2.1.1, .inr (2, [.ref u.2.1.2, .int (nI 0)])), (u.2.1.2, .inl (cI, 400, .inl (fun _ => 0))), (u.2.2.1.1, .inr (0, [.ref u.2.2.1.2.1, .ref u.2.2.1.2.2.1, .ref u.2.2.1.2.2.2.1, .ref u.2.2.1.2.2.2.2, .int (nI 0)])), (u.2.2.1.2.1, .inl (cI, 400, .inl (fun _ => 0))), (u.2.2.1.2.2.1, .inl (cI, 400, .inl (fun _ => 0))), (u.2.2.1.2.2.2.1, .inl (cI, 400, .inl (fun _ => 0))), (u.2.2.1.2.2.2.2, .inl (cI, 400, .inl (fun _ => 0))), (u.2.2.2.1, .inr (0, [.ref u.2.2.2.2.1, .ref u.2.2.2.2.2.1, .ref u.2.2.2.2.2.2.1, .ref u.2.2.2.2.2.2.2, .int (nI 0)])), (u.2.2.2.2.1, .inl (cI, 400, .inl (fun _ => 0))), (u.2.2.2.2.2.1, .inl (cI, 400, .inl (fun _ => 0))), (u.2.2.2.2.2.2.1, .inl (cI, 400, .inl (fun _ => 0))), (u.2.2.2.2.2.2.2, .inl (cI, 400, .inl (fun _ => 0)))]) (va_A [(h, .inr (3, [.null, .null, .null, .null, .int 0, .int 0, .int 0]))] sz)) 15 3834 (va_A [(h, .inr (3, [.null, .null, .null, .null, .int 0, .int 0, .int 0]))] sz) := by
  refine Met.ofW (cc := cX3_init) (maxL := 1) (ret := none) (by decide) rfl ?_
  intro p e s m args below meth c s₁ B hml hv
  obtain ⟨rfl, hsz, hP, hK, hD0⟩ := hv
  have hx := B.exec
  have hb := B.bytes
  have hr := B.returns
  have hts := atoms_spec (ws := (Cond.code yX3_init cX3_init 1 none :: es_T)) B.pre
  have hw : ∀ w ∈ es_T, w.before _ s = true := fun w h => hts w (List.mem_cons_of_mem _ h)
  have hown : s.vm.findClass RX3 = some m.cls := findClass_of_methodNamed B.named
  have hlocks := B.notSynchronized
  have hin : meth.name = "<init>" := (name_of_methodNamed B.named B.method).1
  have hRm : 3 ≤ (headSpec (Cond.code yX3_init cX3_init 1 none :: es_T) { frames := 3, cells := 15, slots := 3834, locals := 63 }).room.frames ∧ 63 ≤ (headSpec (Cond.code yX3_init cX3_init 1 none :: es_T) { frames := 3, cells := 15, slots := 3834, locals := 63 }).room.locals := ⟨Nat.le_refl _, Nat.le_refl _⟩
  have hRc : 15 ≤ (headSpec (Cond.code yX3_init cX3_init 1 none :: es_T) { frames := 3, cells := 15, slots := 3834, locals := 63 }).room.cells ∧ 3834 ≤ (headSpec (Cond.code yX3_init cX3_init 1 none :: es_T) { frames := 3, cells := 15, slots := 3834, locals := 63 }).room.slots := ⟨Nat.le_refl _, Nat.le_refl _⟩
  subst hsz
  have hD := hD0.self (sz := s.heap.size)
  generalize hAe : va_A [(h, .inr (3, [.null, .null, .null, .null, .int 0, .int 0, .int 0]))] s.heap.size = A at hD ⊢
  have hA : ∀ q : Nat, s.heap.size ≤ q → A q := fun q h => by rw [← hAe]; exact Or.inr h
  have hS : va_S A s.heap s.heap [] := va_S.rf
  have hl := lv_entry ([.ref h]) (n := 1) (Nat.le_of_ble_eq_true rfl)
  rw [lg_entry_eq]
  generalize (lg_sl ([.ref h]) ++ List.replicate (1 - (lg_sl ([.ref h])).length) Slot.unset).toArray = ls at hl ⊢
  have hl : lv_has ls 1 [(0, .ref h)] := hl
  refine lv_aload_n hx hb dX3_init_0 rfl (lv_at hl 0 rfl) ?_
  refine W.objInit hx hb hown (hw _ xw_196) (hw _ xw_92) (hw _ xw_93) rfl (by rw [hml]; exact hl.1) rfl dX3_init_1 (Nat.le_trans (Nat.le_of_ble_eq_true rfl) hRm.1) (Nat.le_trans (Nat.le_of_ble_eq_true rfl) hRm.2) ?_
  refine W.eq (g2 := F0 m 4 ls []) rfl ?_
  refine lv_aload_n hx hb dX3_init_4 rfl (lv_at hl 0 rfl) ?_
  refine va_new (ci := 1) (fs := [.null, .null]) (C := RX1) (T := TX1) (N := 2) hx hb hw iwX1 tyX1 tyX1_ok hown (hw _ xw_197) (hw _ xw_198) (hw _ xw_111) hK.1 hP hD hS hA rfl (fun j hj => by rcases (show j = 0 ∨ j = 1 by omega) with rfl | rfl <;> rfl) (Nat.le_trans (Nat.le_of_ble_eq_true rfl) hRc.1) (Nat.le_trans (Nat.le_of_ble_eq_true rfl) hRc.2) dX3_init_5 (fun qt H hP hD hS => ?_)
  have hP : va_P D vwCl [(h, .inr (3, [.null, .null, .null, .null, .int 0, .int 0, .int 0])), (qt, .inr (1, [.null, .null]))] H := hP
  have hD : va_D A [(h, .inr (3, [.null, .null, .null, .null, .int 0, .int 0, .int 0])), (qt, .inr (1, [.null, .null]))] := hD
  refine W.widen (k := 1) (n := 2) (Nat.le_of_ble_eq_true rfl) (Nat.le_of_ble_eq_true rfl) ?_
  refine lv_dup hx hb dX3_init_8 rfl ?_
  refine es_cv (wr := [(h, .inr (3, [.null, .null, .null, .null, .int 0, .int 0, .int 0]))]) (va_runI (As := []) (rest := [.ref qt, .ref h]) ⟨hx, hb, hml, hown, hw⟩ (c_X1_init l D cI H.size qt ) (cwI 0 hw (es_c xw_199) rfl rfl rfl (hw _ xw_111) (hw _ xw_200) (hw _ xw_201) rfl k0_X1_init ⟨Nat.le_trans (Nat.le_of_ble_eq_true rfl) hRm.1, Nat.le_trans (Nat.le_of_ble_eq_true rfl) hRm.2⟩) (es_WS hK (hP.sub (ws' := [(qt, .inr (1, [.null, .null]))]) [1] rfl) (hD.sub (ws' := [(qt, .inr (1, [.null, .null]))]) [1] (by decide) rfl)) rfl rfl hl.1 rfl (lv_room (Nat.le_of_ble_eq_true rfl)) dX3_init_9 ⟨(Nat.le_trans (Nat.le_of_ble_eq_true rfl) hRc.1), (Nat.le_trans (Nat.le_of_ble_eq_true rfl) hRc.2)⟩) hP hD hS hA [1] [0] rfl rfl (by decide) (by decide) (fun ut H locs hut hP hD hS => ?_)
  have hP : va_P D vwCl [(h, .inr (3, [.null, .null, .null, .null, .int 0, .int 0, .int 0])), (qt, .inr (1, [.ref ut.1, .ref ut.2])), (ut.1, .inl (cI, 200, .inl (fun _ => -1))), (ut.2, .inl (cI, 20, .inl (fun _ => -1)))] H := hP
  have hD : va_D A [(h, .inr (3, [.null, .null, .null, .null, .int 0, .int 0, .int 0])), (qt, .inr (1, [.ref ut.1, .ref ut.2])), (ut.1, .inl (cI, 200, .inl (fun _ => -1))), (ut.2, .inl (cI, 20, .inl (fun _ => -1)))] := hD
  refine W.widen (k := 3) (n := 222) (Nat.le_of_ble_eq_true rfl) (Nat.le_of_ble_eq_true rfl) ?_
  refine va_putF (D := D) (ci := 3) (v := .ref qt) (ty := (.object "EditedScanner$Table")) (C := RX3) (T := TX3) (N := 7) hx hb hw iwX3 tyX3 tyX3_ok nmX3 hown hK.1 hP hD hS 0 rfl rfl 0 (by decide) (hw _ xw_141) (fun _ h9 => h9) rfl hin rfl (by decide +kernel) rfl rfl (Nat.le_of_ble_eq_true rfl) dX3_init_12 (fun H locs hP hD hS => ?_)
  have hP : va_P D vwCl [(h, .inr (3, [.ref qt, .null, .null, .null, .int 0, .int 0, .int 0])), (qt, .inr (1, [.ref ut.1, .ref ut.2])), (ut.1, .inl (cI, 200, .inl (fun _ => -1))), (ut.2, .inl (cI, 20, .inl (fun _ => -1)))] H := hP
  have hD : va_D A [(h, .inr (3, [.ref qt, .null, .null, .null, .int 0, .int 0, .int 0])), (qt, .inr (1, [.ref ut.1, .ref ut.2])), (ut.1, .inl (cI, 200, .inl (fun _ => -1))), (ut.2, .inl (cI, 20, .inl (fun _ => -1)))] := hD
  refine lv_aload_n hx hb dX3_init_15 rfl (lv_at hl 0 rfl) ?_
  refine va_new (ci := 2) (fs := [.null, .int 0]) (C := RX2) (T := TX2) (N := 2) hx hb hw iwX2 tyX2 tyX2_ok hown (hw _ xw_202) (hw _ xw_203) (hw _ xw_125) hK.1 hP hD hS hA rfl (fun j hj => by rcases (show j = 0 ∨ j = 1 by omega) with rfl | rfl <;> rfl) (Nat.le_trans (Nat.le_of_ble_eq_true rfl) hRc.1) (Nat.le_trans (Nat.le_of_ble_eq_true rfl) hRc.2) dX3_init_16 (fun qx H hP hD hS => ?_)
  have hP : va_P D vwCl [(h, .inr (3, [.ref qt, .null, .null, .null, .int 0, .int 0, .int 0])), (qt, .inr (1, [.ref ut.1, .ref ut.2])), (ut.1, .inl (cI, 200, .inl (fun _ => -1))), (ut.2, .inl (cI, 20, .inl (fun _ => -1))), (qx, .inr (2, [.null, .int 0]))] H := hP
  have hD : va_D A [(h, .inr (3, [.ref qt, .null, .null, .null, .int 0, .int 0, .int 0])), (qt, .inr (1, [.ref ut.1, .ref ut.2])), (ut.1, .inl (cI, 200, .inl (fun _ => -1))), (ut.2, .inl (cI, 20, .inl (fun _ => -1))), (qx, .inr (2, [.null, .int 0]))] := hD
  refine W.widen (k := 4) (n := 224) (Nat.le_of_ble_eq_true rfl) (Nat.le_of_ble_eq_true rfl) ?_
  refine lv_dup hx hb dX3_init_19 rfl ?_
  refine es_cv (wr := [(h, .inr (3, [.ref qt, .null, .null, .null, .int 0, .int 0, .int 0])), (qt, .inr (1, [.ref ut.1, .ref ut.2])), (ut.1, .inl (cI, 200, .inl (fun _ => -1))), (ut.2, .inl (cI, 20, .inl (fun _ => -1)))]) (va_runIN (As := []) (rest := [.ref qx, .ref h]) ⟨hx, hb, hml, hown, hw⟩ (c_X2_init l D cI H.size qx ) ⟨va_cnB 0 hw (es_c xw_204) rfl rfl rfl hK.2.1 (hw _ xw_125) k0_X2_init ⟨Nat.le_trans (Nat.le_of_ble_eq_true rfl) hRm.1, Nat.le_trans (Nat.le_of_ble_eq_true rfl) hRm.2⟩, rfl, (hw _ xw_205)⟩ (es_WS hK (hP.sub (ws' := [(qx, .inr (2, [.null, .int 0]))]) [4] rfl) (hD.sub (ws' := [(qx, .inr (2, [.null, .int 0]))]) [4] (by decide) rfl)) rfl rfl hl.1 rfl (lv_room (Nat.le_of_ble_eq_true rfl)) dX3_init_20 ⟨(Nat.le_trans (Nat.le_of_ble_eq_true rfl) hRc.1), (Nat.le_trans (Nat.le_of_ble_eq_true rfl) hRc.2)⟩) hP hD hS hA [4] [0, 1, 2, 3] rfl rfl (by decide) (by decide) (fun ux H locs hux hP hD hS => ?_)
  have hP : va_P D vwCl [(h, .inr (3, [.ref qt, .null, .null, .null, .int 0, .int 0, .int 0])), (qt, .inr (1, [.ref ut.1, .ref ut.2])), (ut.1, .inl (cI, 200, .inl (fun _ => -1))), (ut.2, .inl (cI, 20, .inl (fun _ => -1))), (qx, .inr (2, [.ref ux, .int (nI 0)])), (ux, .inl (cI, 400, .inl (fun _ => 0)))] H := hP
  have hD : va_D A [(h, .inr (3, [.ref qt, .null, .null, .null, .int 0, .int 0, .int 0])), (qt, .inr (1, [.ref ut.1, .ref ut.2])), (ut.1, .inl (cI, 200, .inl (fun _ => -1))), (ut.2, .inl (cI, 20, .inl (fun _ => -1))), (qx, .inr (2, [.ref ux, .int (nI 0)])), (ux, .inl (cI, 400, .inl (fun _ => 0)))] := hD
  refine W.widen (k := 5) (n := 624) (Nat.le_of_ble_eq_true rfl) (Nat.le_of_ble_eq_true rfl) ?_
  refine va_putF (D := D) (ci := 3) (v := .ref qx) (ty := (.object "EditedScanner$Text")) (C := RX3) (T := TX3) (N := 7) hx hb hw iwX3 tyX3 tyX3_ok nmX3 hown hK.1 hP hD hS 0 rfl rfl 1 (by decide) (hw _ xw_136) (fun _ h9 => h9) rfl hin rfl (by decide +kernel) rfl rfl (Nat.le_of_ble_eq_true rfl) dX3_init_23 (fun H locs hP hD hS => ?_)
  have hP : va_P D vwCl [(h, .inr (3, [.ref qt, .ref qx, .null, .null, .int 0, .int 0, .int 0])), (qt, .inr (1, [.ref ut.1, .ref ut.2])), (ut.1, .inl (cI, 200, .inl (fun _ => -1))), (ut.2, .inl (cI, 20, .inl (fun _ => -1))), (qx, .inr (2, [.ref ux, .int (nI 0)])), (ux, .inl (cI, 400, .inl (fun _ => 0)))] H := hP
  have hD : va_D A [(h, .inr (3, [.ref qt, .ref qx, .null, .null, .int 0, .int 0, .int 0])), (qt, .inr (1, [.ref ut.1, .ref ut.2])), (ut.1, .inl (cI, 200, .inl (fun _ => -1))), (ut.2, .inl (cI, 20, .inl (fun _ => -1))), (qx, .inr (2, [.ref ux, .int (nI 0)])), (ux, .inl (cI, 400, .inl (fun _ => 0)))] := hD
  refine lv_aload_n hx hb dX3_init_26 rfl (lv_at hl 0 rfl) ?_
  refine va_new (ci := 0) (fs := [.null, .null, .null, .null, .int 0]) (C := RX0) (T := TX0) (N := 5) hx hb hw iwX0 tyX0 tyX0_ok hown (hw _ xw_206) (hw _ xw_207) (hw _ xw_83) hK.1 hP hD hS hA rfl (fun j hj => by rcases (show j = 0 ∨ j = 1 ∨ j = 2 ∨ j = 3 ∨ j = 4 by omega) with rfl | rfl | rfl | rfl | rfl <;> rfl) (Nat.le_trans (Nat.le_of_ble_eq_true rfl) hRc.1) (Nat.le_trans (Nat.le_of_ble_eq_true rfl) hRc.2) dX3_init_27 (fun qf H hP hD hS => ?_)
  have hP : va_P D vwCl [(h, .inr (3, [.ref qt, .ref qx, .null, .null, .int 0, .int 0, .int 0])), (qt, .inr (1, [.ref ut.1, .ref ut.2])), (ut.1, .inl (cI, 200, .inl (fun _ => -1))), (ut.2, .inl (cI, 20, .inl (fun _ => -1))), (qx, .inr (2, [.ref ux, .int (nI 0)])), (ux, .inl (cI, 400, .inl (fun _ => 0))), (qf, .inr (0, [.null, .null, .null, .null, .int 0]))] H := hP
  have hD : va_D A [(h, .inr (3, [.ref qt, .ref qx, .null, .null, .int 0, .int 0, .int 0])), (qt, .inr (1, [.ref ut.1, .ref ut.2])), (ut.1, .inl (cI, 200, .inl (fun _ => -1))), (ut.2, .inl (cI, 20, .inl (fun _ => -1))), (qx, .inr (2, [.ref ux, .int (nI 0)])), (ux, .inl (cI, 400, .inl (fun _ => 0))), (qf, .inr (0, [.null, .null, .null, .null, .int 0]))] := hD
  refine W.widen (k := 6) (n := 629) (Nat.le_of_ble_eq_true rfl) (Nat.le_of_ble_eq_true rfl) ?_
  refine lv_dup hx hb dX3_init_30 rfl ?_
  refine es_cv (wr := [(h, .inr (3, [.ref qt, .ref qx, .null, .null, .int 0, .int 0, .int 0])), (qt, .inr (1, [.ref ut.1, .ref ut.2])), (ut.1, .inl (cI, 200, .inl (fun _ => -1))), (ut.2, .inl (cI, 20, .inl (fun _ => -1))), (qx, .inr (2, [.ref ux, .int (nI 0)])), (ux, .inl (cI, 400, .inl (fun _ => 0)))]) (va_runIN (As := []) (rest := [.ref qf, .ref h]) ⟨hx, hb, hml, hown, hw⟩ (c_X0_init l D cI H.size qf ) ⟨va_cnB 0 hw (es_c xw_208) rfl rfl rfl hK.2.2.1 (hw _ xw_83) k0_X0_init ⟨Nat.le_trans (Nat.le_of_ble_eq_true rfl) hRm.1, Nat.le_trans (Nat.le_of_ble_eq_true rfl) hRm.2⟩, rfl, (hw _ xw_209)⟩ (es_WS hK (hP.sub (ws' := [(qf, .inr (0, [.null, .null, .null, .null, .int 0]))]) [6] rfl) (hD.sub (ws' := [(qf, .inr (0, [.null, .null, .null, .null, .int 0]))]) [6] (by decide) rfl)) rfl rfl hl.1 rfl (lv_room (Nat.le_of_ble_eq_true rfl)) dX3_init_31 ⟨(Nat.le_trans (Nat.le_of_ble_eq_true rfl) hRc.1), (Nat.le_trans (Nat.le_of_ble_eq_true rfl) hRc.2)⟩) hP hD hS hA [6] [0, 1, 2, 3, 4, 5] rfl rfl (by decide) (by decide) (fun uf H locs huf hP hD hS => ?_)
  have hP : va_P D vwCl [(h, .inr (3, [.ref qt, .ref qx, .null, .null, .int 0, .int 0, .int 0])), (qt, .inr (1, [.ref ut.1, .ref ut.2])), (ut.1, .inl (cI, 200, .inl (fun _ => -1))), (ut.2, .inl (cI, 20, .inl (fun _ => -1))), (qx, .inr (2, [.ref ux, .int (nI 0)])), (ux, .inl (cI, 400, .inl (fun _ => 0))), (qf, .inr (0, [.ref uf.1, .ref uf.2.1, .ref uf.2.2.1, .ref uf.2.2.2, .int (nI 0)])), (uf.1, .inl (cI, 400, .inl (fun _ => 0))), (uf.2.1, .inl (cI, 400, .inl (fun _ => 0))), (uf.2.2.1, .inl (cI, 400, .inl (fun _ => 0))), (uf.2.2.2, .inl (cI, 400, .inl (fun _ => 0)))] H := hP
  have hD : va_D A [(h, .inr (3, [.ref qt, .ref qx, .null, .null, .int 0, .int 0, .int 0])), (qt, .inr (1, [.ref ut.1, .ref ut.2])), (ut.1, .inl (cI, 200, .inl (fun _ => -1))), (ut.2, .inl (cI, 20, .inl (fun _ => -1))), (qx, .inr (2, [.ref ux, .int (nI 0)])), (ux, .inl (cI, 400, .inl (fun _ => 0))), (qf, .inr (0, [.ref uf.1, .ref uf.2.1, .ref uf.2.2.1, .ref uf.2.2.2, .int (nI 0)])), (uf.1, .inl (cI, 400, .inl (fun _ => 0))), (uf.2.1, .inl (cI, 400, .inl (fun _ => 0))), (uf.2.2.1, .inl (cI, 400, .inl (fun _ => 0))), (uf.2.2.2, .inl (cI, 400, .inl (fun _ => 0)))] := hD
  refine W.widen (k := 10) (n := 2229) (Nat.le_of_ble_eq_true rfl) (Nat.le_of_ble_eq_true rfl) ?_
  refine va_put (D := D) (ci := 3) (v := .ref qf) (ty := (.object "EditedScanner$Findings")) (C := RX3) (T := TX3) (N := 7) hx hb hw iwX3 tyX3 tyX3_ok nmX3 hown hK.1 hP hD hS 0 rfl rfl 2 (by decide) (hw _ xw_146) (fun _ h9 => h9) rfl (by decide +kernel) rfl rfl (Nat.le_of_ble_eq_true rfl) dX3_init_34 (fun H locs hP hD hS => ?_)
  have hP : va_P D vwCl [(h, .inr (3, [.ref qt, .ref qx, .ref qf, .null, .int 0, .int 0, .int 0])), (qt, .inr (1, [.ref ut.1, .ref ut.2])), (ut.1, .inl (cI, 200, .inl (fun _ => -1))), (ut.2, .inl (cI, 20, .inl (fun _ => -1))), (qx, .inr (2, [.ref ux, .int (nI 0)])), (ux, .inl (cI, 400, .inl (fun _ => 0))), (qf, .inr (0, [.ref uf.1, .ref uf.2.1, .ref uf.2.2.1, .ref uf.2.2.2, .int (nI 0)])), (uf.1, .inl (cI, 400, .inl (fun _ => 0))), (uf.2.1, .inl (cI, 400, .inl (fun _ => 0))), (uf.2.2.1, .inl (cI, 400, .inl (fun _ => 0))), (uf.2.2.2, .inl (cI, 400, .inl (fun _ => 0)))] H := hP
  have hD : va_D A [(h, .inr (3, [.ref qt, .ref qx, .ref qf, .null, .int 0, .int 0, .int 0])), (qt, .inr (1, [.ref ut.1, .ref ut.2])), (ut.1, .inl (cI, 200, .inl (fun _ => -1))), (ut.2, .inl (cI, 20, .inl (fun _ => -1))), (qx, .inr (2, [.ref ux, .int (nI 0)])), (ux, .inl (cI, 400, .inl (fun _ => 0))), (qf, .inr (0, [.ref uf.1, .ref uf.2.1, .ref uf.2.2.1, .ref uf.2.2.2, .int (nI 0)])), (uf.1, .inl (cI, 400, .inl (fun _ => 0))), (uf.2.1, .inl (cI, 400, .inl (fun _ => 0))), (uf.2.2.1, .inl (cI, 400, .inl (fun _ => 0))), (uf.2.2.2, .inl (cI, 400, .inl (fun _ => 0)))] := hD
  refine lv_aload_n hx hb dX3_init_37 rfl (lv_at hl 0 rfl) ?_
  refine va_new (ci := 0) (fs := [.null, .null, .null, .null, .int 0]) (C := RX0) (T := TX0) (N := 5) hx hb hw iwX0 tyX0 tyX0_ok hown (hw _ xw_206) (hw _ xw_207) (hw _ xw_83) hK.1 hP hD hS hA rfl (fun j hj => by rcases (show j = 0 ∨ j = 1 ∨ j = 2 ∨ j = 3 ∨ j = 4 by omega) with rfl | rfl | rfl | rfl | rfl <;> rfl) (Nat.le_trans (Nat.le_of_ble_eq_true rfl) hRc.1) (Nat.le_trans (Nat.le_of_ble_eq_true rfl) hRc.2) dX3_init_38 (fun qg H hP hD hS => ?_)
  have hP : va_P D vwCl [(h, .inr (3, [.ref qt, .ref qx, .ref qf, .null, .int 0, .int 0, .int 0])), (qt, .inr (1, [.ref ut.1, .ref ut.2])), (ut.1, .inl (cI, 200, .inl (fun _ => -1))), (ut.2, .inl (cI, 20, .inl (fun _ => -1))), (qx, .inr (2, [.ref ux, .int (nI 0)])), (ux, .inl (cI, 400, .inl (fun _ => 0))), (qf, .inr (0, [.ref uf.1, .ref uf.2.1, .ref uf.2.2.1, .ref uf.2.2.2, .int (nI 0)])), (uf.1, .inl (cI, 400, .inl (fun _ => 0))), (uf.2.1, .inl (cI, 400, .inl (fun _ => 0))), (uf.2.2.1, .inl (cI, 400, .inl (fun _ => 0))), (uf.2.2.2, .inl (cI, 400, .inl (fun _ => 0))), (qg, .inr (0, [.null, .null, .null, .null, .int 0]))] H := hP
  have hD : va_D A [(h, .inr (3, [.ref qt, .ref qx, .ref qf, .null, .int 0, .int 0, .int 0])), (qt, .inr (1, [.ref ut.1, .ref ut.2])), (ut.1, .inl (cI, 200, .inl (fun _ => -1))), (ut.2, .inl (cI, 20, .inl (fun _ => -1))), (qx, .inr (2, [.ref ux, .int (nI 0)])), (ux, .inl (cI, 400, .inl (fun _ => 0))), (qf, .inr (0, [.ref uf.1, .ref uf.2.1, .ref uf.2.2.1, .ref uf.2.2.2, .int (nI 0)])), (uf.1, .inl (cI, 400, .inl (fun _ => 0))), (uf.2.1, .inl (cI, 400, .inl (fun _ => 0))), (uf.2.2.1, .inl (cI, 400, .inl (fun _ => 0))), (uf.2.2.2, .inl (cI, 400, .inl (fun _ => 0))), (qg, .inr (0, [.null, .null, .null, .null, .int 0]))] := hD
  refine W.widen (k := 11) (n := 2234) (Nat.le_of_ble_eq_true rfl) (Nat.le_of_ble_eq_true rfl) ?_
  refine lv_dup hx hb dX3_init_41 rfl ?_
  refine es_cv (wr := [(h, .inr (3, [.ref qt, .ref qx, .ref qf, .null, .int 0, .int 0, .int 0])), (qt, .inr (1, [.ref ut.1, .ref ut.2])), (ut.1, .inl (cI, 200, .inl (fun _ => -1))), (ut.2, .inl (cI, 20, .inl (fun _ => -1))), (qx, .inr (2, [.ref ux, .int (nI 0)])), (ux, .inl (cI, 400, .inl (fun _ => 0))), (qf, .inr (0, [.ref uf.1, .ref uf.2.1, .ref uf.2.2.1, .ref uf.2.2.2, .int (nI 0)])), (uf.1, .inl (cI, 400, .inl (fun _ => 0))), (uf.2.1, .inl (cI, 400, .inl (fun _ => 0))), (uf.2.2.1, .inl (cI, 400, .inl (fun _ => 0))), (uf.2.2.2, .inl (cI, 400, .inl (fun _ => 0)))]) (va_runIN (As := []) (rest := [.ref qg, .ref h]) ⟨hx, hb, hml, hown, hw⟩ (c_X0_init l D cI H.size qg ) ⟨va_cnB 0 hw (es_c xw_208) rfl rfl rfl hK.2.2.1 (hw _ xw_83) k0_X0_init ⟨Nat.le_trans (Nat.le_of_ble_eq_true rfl) hRm.1, Nat.le_trans (Nat.le_of_ble_eq_true rfl) hRm.2⟩, rfl, (hw _ xw_209)⟩ (es_WS hK (hP.sub (ws' := [(qg, .inr (0, [.null, .null, .null, .null, .int 0]))]) [11] rfl) (hD.sub (ws' := [(qg, .inr (0, [.null, .null, .null, .null, .int 0]))]) [11] (by decide) rfl)) rfl rfl hl.1 rfl (lv_room (Nat.le_of_ble_eq_true rfl)) dX3_init_42 ⟨(Nat.le_trans (Nat.le_of_ble_eq_true rfl) hRc.1), (Nat.le_trans (Nat.le_of_ble_eq_true rfl) hRc.2)⟩) hP hD hS hA [11] [0, 1, 2, 3, 4, 5, 6, 7, 8, 9, 10] rfl rfl (by decide) (by decide) (fun ug H locs hug hP hD hS => ?_)
  have hP : va_P D vwCl [(h, .inr (3, [.ref qt, .ref qx, .ref qf, .null, .int 0, .int 0, .int 0])), (qt, .inr (1, [.ref ut.1, .ref ut.2])), (ut.1, .inl (cI, 200, .inl (fun _ => -1))), (ut.2, .inl (cI, 20, .inl (fun _ => -1))), (qx, .inr (2, [.ref ux, .int (nI 0)])), (ux, .inl (cI, 400, .inl (fun _ => 0))), (qf, .inr (0, [.ref uf.1, .ref uf.2.1, .ref uf.2.2.1, .ref uf.2.2.2, .int (nI 0)])), (uf.1, .inl (cI, 400, .inl (fun _ => 0))), (uf.2.1, .inl (cI, 400, .inl (fun _ => 0))), (uf.2.2.1, .inl (cI, 400, .inl (fun _ => 0))), (uf.2.2.2, .inl (cI, 400, .inl (fun _ => 0))), (qg, .inr (0, [.ref ug.1, .ref ug.2.1, .ref ug.2.2.1, .ref ug.2.2.2, .int (nI 0)])), (ug.1, .inl (cI, 400, .inl (fun _ => 0))), (ug.2.1, .inl (cI, 400, .inl (fun _ => 0))), (ug.2.2.1, .inl (cI, 400, .inl (fun _ => 0))), (ug.2.2.2, .inl (cI, 400, .inl (fun _ => 0)))] H := hP
  have hD : va_D A [(h, .inr (3, [.ref qt, .ref qx, .ref qf, .null, .int 0, .int 0, .int 0])), (qt, .inr (1, [.ref ut.1, .ref ut.2])), (ut.1, .inl (cI, 200, .inl (fun _ => -1))), (ut.2, .inl (cI, 20, .inl (fun _ => -1))), (qx, .inr (2, [.ref ux, .int (nI 0)])), (ux, .inl (cI, 400, .inl (fun _ => 0))), (qf, .inr (0, [.ref uf.1, .ref uf.2.1, .ref uf.2.2.1, .ref uf.2.2.2, .int (nI 0)])), (uf.1, .inl (cI, 400, .inl (fun _ => 0))), (uf.2.1, .inl (cI, 400, .inl (fun _ => 0))), (uf.2.2.1, .inl (cI, 400, .inl (fun _ => 0))), (uf.2.2.2, .inl (cI, 400, .inl (fun _ => 0))), (qg, .inr (0, [.ref ug.1, .ref ug.2.1, .ref ug.2.2.1, .ref ug.2.2.2, .int (nI 0)])), (ug.1, .inl (cI, 400, .inl (fun _ => 0))), (ug.2.1, .inl (cI, 400, .inl (fun _ => 0))), (ug.2.2.1, .inl (cI, 400, .inl (fun _ => 0))), (ug.2.2.2, .inl (cI, 400, .inl (fun _ => 0)))] := hD
  refine W.widen (k := 15) (n := 3834) (Nat.le_of_ble_eq_true rfl) (Nat.le_of_ble_eq_true rfl) ?_
  refine va_put (D := D) (ci := 3) (v := .ref qg) (ty := (.object "EditedScanner$Findings")) (C := RX3) (T := TX3) (N := 7) hx hb hw iwX3 tyX3 tyX3_ok nmX3 hown hK.1 hP hD hS 0 rfl rfl 3 (by decide) (hw _ xw_210) (fun _ h9 => h9) rfl (by decide +kernel) rfl rfl (Nat.le_of_ble_eq_true rfl) dX3_init_45 (fun H locs hP hD hS => ?_)
  have hP : va_P D vwCl [(h, .inr (3, [.ref qt, .ref qx, .ref qf, .ref qg, .int 0, .int 0, .int 0])), (qt, .inr (1, [.ref ut.1, .ref ut.2])), (ut.1, .inl (cI, 200, .inl (fun _ => -1))), (ut.2, .inl (cI, 20, .inl (fun _ => -1))), (qx, .inr (2, [.ref ux, .int (nI 0)])), (ux, .inl (cI, 400, .inl (fun _ => 0))), (qf, .inr (0, [.ref uf.1, .ref uf.2.1, .ref uf.2.2.1, .ref uf.2.2.2, .int (nI 0)])), (uf.1, .inl (cI, 400, .inl (fun _ => 0))), (uf.2.1, .inl (cI, 400, .inl (fun _ => 0))), (uf.2.2.1, .inl (cI, 400, .inl (fun _ => 0))), (uf.2.2.2, .inl (cI, 400, .inl (fun _ => 0))), (qg, .inr (0, [.ref ug.1, .ref ug.2.1, .ref ug.2.2.1, .ref ug.2.2.2, .int (nI 0)])), (ug.1, .inl (cI, 400, .inl (fun _ => 0))), (ug.2.1, .inl (cI, 400, .inl (fun _ => 0))), (ug.2.2.1, .inl (cI, 400, .inl (fun _ => 0))), (ug.2.2.2, .inl (cI, 400, .inl (fun _ => 0)))] H := hP
  have hD : va_D A [(h, .inr (3, [.ref qt, .ref qx, .ref qf, .ref qg, .int 0, .int 0, .int 0])), (qt, .inr (1, [.ref ut.1, .ref ut.2])), (ut.1, .inl (cI, 200, .inl (fun _ => -1))), (ut.2, .inl (cI, 20, .inl (fun _ => -1))), (qx, .inr (2, [.ref ux, .int (nI 0)])), (ux, .inl (cI, 400, .inl (fun _ => 0))), (qf, .inr (0, [.ref uf.1, .ref uf.2.1, .ref uf.2.2.1, .ref uf.2.2.2, .int (nI 0)])), (uf.1, .inl (cI, 400, .inl (fun _ => 0))), (uf.2.1, .inl (cI, 400, .inl (fun _ => 0))), (uf.2.2.1, .inl (cI, 400, .inl (fun _ => 0))), (uf.2.2.2, .inl (cI, 400, .inl (fun _ => 0))), (qg, .inr (0, [.ref ug.1, .ref ug.2.1, .ref ug.2.2.1, .ref ug.2.2.2, .int (nI 0)])), (ug.1, .inl (cI, 400, .inl (fun _ => 0))), (ug.2.1, .inl (cI, 400, .inl (fun _ => 0))), (ug.2.2.1, .inl (cI, 400, .inl (fun _ => 0))), (ug.2.2.2, .inl (cI, 400, .inl (fun _ => 0)))] := hD
  refine W.widen (k := 15) (n := 3834) (Nat.le_of_ble_eq_true rfl) (Nat.le_of_ble_eq_true rfl) ?_
  exact W.vret hx hb hr (fun zt ht hW => ⟨⟨((qt, ut.1, ut.2), (qx, ux), (qf, uf.1, uf.2.1, uf.2.2.1, uf.2.2.2), (qg, ug.1, ug.2.1, ug.2.2.1, ug.2.2.2)), rfl, trivial, ⟨by rw [ht]; exact hP.sub [0, 1, 2, 3, 4, 5, 6, 7, 8, 9, 10, 11, 12, 13, 14, 15] rfl, hD.sub [0, 1, 2, 3, 4, 5, 6, 7, 8, 9, 10, 11, 12, 13, 14, 15] (by decide) rfl⟩⟩, hS.F ht⟩) hS.2.2 dX3_init_48
end
section
theorem es_zok {z : Int32} : (z = -1 ∨ (0 ≤ z ∧ z < nI 20)) ↔ (¬ z < -1 ∧ z < nI 20) := by
  simp only [Int32.lt_iff_toInt_lt, Int32.le_iff_toInt_le, ← Int32.toInt_inj, es_n0, es_nm, es_k20]
  omega
theorem es_y99 {y : Int32} : y ≤ nI 99 ↔ y < nI 100 := by
  simp only [Int32.lt_iff_toInt_lt, Int32.le_iff_toInt_le, es_k99, es_k100]
  omega
theorem es_ta_y {P : Nat → Prop} {i : Nat} {fd : Int32} (_h : (fd = -1 ∧ ∀ j, j < i → ¬ P j) ∨ (∃ w : Nat, w < i ∧ fd = nI w ∧ P w ∧ ∀ j, w < j → j < i → ¬ P j)) (hp : P i) : (nI i = -1 ∧ ∀ j, j < i + 1 → ¬ P j) ∨ (∃ w : Nat, w < i + 1 ∧ nI i = nI w ∧ P w ∧ ∀ j, w < j → j < i + 1 → ¬ P j) := Or.inr ⟨i, Nat.lt_succ_self i, rfl, hp, fun j h1 h2 => by omega⟩
theorem es_ta_n {P : Nat → Prop} {i : Nat} {fd : Int32} (h : (fd = -1 ∧ ∀ j, j < i → ¬ P j) ∨ (∃ w : Nat, w < i ∧ fd = nI w ∧ P w ∧ ∀ j, w < j → j < i → ¬ P j)) (hp : ¬ P i) : (fd = -1 ∧ ∀ j, j < i + 1 → ¬ P j) ∨ (∃ w : Nat, w < i + 1 ∧ fd = nI w ∧ P w ∧ ∀ j, w < j → j < i + 1 → ¬ P j) := by
  rcases h with ⟨h1, h2⟩ | ⟨w, h1, h2, h3, h4⟩
  · exact Or.inl ⟨h1, lt_s h2 hp⟩
  · refine Or.inr ⟨w, by omega, h2, h3, fun j h5 h6 => ?_⟩
    by_cases e : j = i
    · rw [e]; exact hp
    · exact h4 j h5 (by omega)
def es_cm (tn n : Nat) (fl fk : Int32) (rd sc ed : Nat) (x : Int32) : Int32 := if x = 0 then nI tn else if x = 1 then nI n else if x = 2 then fl else if x = 3 then fk else if x = 4 then nI rd else if x = 5 then nI sc else if x = 6 then nI ed else -1

set_option maxHeartbeats 1000000 in
set_option maxRecDepth 100000 in
theorem lp_fgA {p : Program} {l : Launch} {e : Env} {R : Room} {s : State} {m : MethodId} {args : Array Value} {below : List Frame} {meth : Method} {c : Code} {Q : State → Prop} {A : Nat → Prop} {H0 : Heap} (D : va_G) (cI : ClassId) (mo : Nat) (ma : Nat) (mk : Nat) (mtx : Nat) (m0 : Nat) (m1 : Nat) (m2 : Nat) (m3 : Nat) (mb : Nat) (n : Nat) (tn : Nat) (fl : Int32) (fk : Int32) (ot : Int32) (of_ : Int32) (os_ : Int32) (rd : Nat) (sc : Nat) (ed : Nat) (ts : Int32) (tkd : Int32) (tl : Int32) (ki : Nat → Int32) (hx : p.tables.exec = Jvm.exec) (hb : c.code = cX4_forget) (hml : c.maxLocals = 2) (hown : s.vm.findClass RX4 = some m.cls) (hw : ∀ w ∈ es_T, w.before args s = true) (hK : es_K D cI s) (hRm : 0 ≤ R.frames ∧ 0 ≤ R.locals) (hA : ∀ q : Nat, H0.size ≤ q → A q)  (hex : ∀ (g : Nat → Int32), (∀ j, j < 200 → g j = -1) → ∀ (H : Heap) (locs : List Loc), va_P D vwCl [(mo, .inr (4, [.ref ma, .ref mk, .ref mtx, .int (nI n), .int (nI tn), .ref m0, .ref m1, .ref m2, .ref m3, .int fl, .int fk, .int ot, .ref mb, .int of_, .int os_, .int (nI rd), .int (nI sc), .int (nI ed), .int ts, .int tkd, .int tl])), (ma, .inl (cI, 200, .inl g)), (mk, .inl (cI, 20, .inl ki))] H → va_D A [(mo, .inr (4, [.ref ma, .ref mk, .ref mtx, .int (nI n), .int (nI tn), .ref m0, .ref m1, .ref m2, .ref m3, .int fl, .int fk, .int ot, .ref mb, .int of_, .int os_, .int (nI rd), .int (nI sc), .int (nI ed), .int ts, .int tkd, .int tl])), (ma, .inl (cI, 200, .inl g)), (mk, .inl (cI, 20, .inl ki))] → va_S A H0 H locs → ∀ (ls : Array Slot), lv_has ls 2 [(0, .ref mo)] →  W p l e R s m args below meth c H locs 0 0 Q (F0 m 22 ls [])) : ∀ (N : Nat) (i : Nat) (g : Nat → Int32), (i ≤ 200) → (∀ j, j < i → g j = -1) → (200 - i) < N → ∀ (H : Heap) (locs : List Loc), va_P D vwCl [(mo, .inr (4, [.ref ma, .ref mk, .ref mtx, .int (nI n), .int (nI tn), .ref m0, .ref m1, .ref m2, .ref m3, .int fl, .int fk, .int ot, .ref mb, .int of_, .int os_, .int (nI rd), .int (nI sc), .int (nI ed), .int ts, .int tkd, .int tl])), (ma, .inl (cI, 200, .inl g)), (mk, .inl (cI, 20, .inl ki))] H → va_D A [(mo, .inr (4, [.ref ma, .ref mk, .ref mtx, .int (nI n), .int (nI tn), .ref m0, .ref m1, .ref m2, .ref m3, .int fl, .int fk, .int ot, .ref mb, .int of_, .int os_, .int (nI rd), .int (nI sc), .int (nI ed), .int ts, .int tkd, .int tl])), (ma, .inl (cI, 200, .inl g)), (mk, .inl (cI, 20, .inl ki))] → va_S A H0 H locs → ∀ (ls : Array Slot), lv_has ls 2 [(0, .ref mo), (1, .int (nI i))] →  W p l e R s m args below meth c H locs 0 0 Q (F0 m 2 ls []) := by
  intro N
  induction N with
  | zero =>
    intro i g hi hg hN
    exact absurd hN (Nat.not_lt_zero _)
  | succ N ih =>
    intro i g hi hg hN H locs hP hD hS ls hl
    refine lv_iload_n hx hb dX4_forget_2 rfl (lv_at hl 1 rfl) ?_
    refine lv_sipush (v := nI 200) hx hb dX4_forget_3 (by decide) ?_
    refine lv_icmp_ge (tgt := 22) hx hb dX4_forget_6 (by decide) (fun c_6 => ?_) (fun c_6 => ?_)
    ·
      have c_6 := (nI_leI (by omega) (by omega)).mp c_6
      exact hex g (fun j h => hg j (by omega))  H locs (hP.sub [0, 1, 2] rfl) (hD.sub [0, 1, 2] (by decide) rfl) hS ls (lv_sub hl [0] rfl)
    ·
      have c_6 := (mt (nI_leI (by omega) (by omega)).mpr c_6)
      refine lv_aload_n hx hb dX4_forget_9 rfl (lv_at hl 0 rfl) ?_
      refine va_get (D := D) (ci := 4) (v := .ref ma) (C := RX4) (T := TX4) (N := 21) hx hb hw iwX4 hown hK.1 hP 0 rfl rfl 0 (by decide) (hw _ xw_261) (fun _ h9 => h9) rfl dX4_forget_10 ?_
      refine lv_iload_n hx hb dX4_forget_13 rfl (lv_at hl 1 rfl) ?_
      refine lv_iconst (v := (-1)) hx hb dX4_forget_14 (by decide) ?_
      refine es_iast hx hb hK.1 hP hD hS 1 0 rfl rfl (by omega) (Nat.le_of_ble_eq_true rfl) dX4_forget_15 (fun H locs hP hD hS => ?_)
      have hP : va_P D vwCl [(mo, .inr (4, [.ref ma, .ref mk, .ref mtx, .int (nI n), .int (nI tn), .ref m0, .ref m1, .ref m2, .ref m3, .int fl, .int fk, .int ot, .ref mb, .int of_, .int os_, .int (nI rd), .int (nI sc), .int (nI ed), .int ts, .int tkd, .int tl])), (ma, .inl (cI, 200, .inl (upd g i (-1)))), (mk, .inl (cI, 20, .inl ki))] H := hP
      have hD : va_D A [(mo, .inr (4, [.ref ma, .ref mk, .ref mtx, .int (nI n), .int (nI tn), .ref m0, .ref m1, .ref m2, .ref m3, .int fl, .int fk, .int ot, .ref mb, .int of_, .int os_, .int (nI rd), .int (nI sc), .int (nI ed), .int ts, .int tkd, .int tl])), (ma, .inl (cI, 200, .inl (upd g i (-1)))), (mk, .inl (cI, 20, .inl ki))] := hD
      refine lv_iinc (v := nI (i + 1)) (lv' := [(1, .int (nI (i + 1))), (0, .ref mo)]) hx hb dX4_forget_16 hl (k := 1) rfl (nI_1 _) (by decide) rfl (fun ls hl => ?_)
      refine lv_goto (tgt := 2) hx hb dX4_forget_19 (by decide) ?_
      exact ih (i + 1) (upd g i (-1)) (by first | assumption | omega) (es_ext hg) (by omega) H locs (hP.sub [0, 1, 2] rfl) (hD.sub [0, 1, 2] (by decide) rfl) hS ls (lv_sub hl [1, 0] rfl)
set_option maxHeartbeats 1000000 in
set_option maxRecDepth 100000 in
theorem lp_fgB {p : Program} {l : Launch} {e : Env} {R : Room} {s : State} {m : MethodId} {args : Array Value} {below : List Frame} {meth : Method} {c : Code} {Q : State → Prop} {A : Nat → Prop} {H0 : Heap} (D : va_G) (cI : ClassId) (mo : Nat) (ma : Nat) (mk : Nat) (mtx : Nat) (m0 : Nat) (m1 : Nat) (m2 : Nat) (m3 : Nat) (mb : Nat) (n : Nat) (tn : Nat) (fl : Int32) (fk : Int32) (ot : Int32) (of_ : Int32) (os_ : Int32) (rd : Nat) (sc : Nat) (ed : Nat) (ts : Int32) (tkd : Int32) (tl : Int32) (ar : Nat → Int32) (hx : p.tables.exec = Jvm.exec) (hb : c.code = cX4_forget) (hml : c.maxLocals = 2) (hown : s.vm.findClass RX4 = some m.cls) (hw : ∀ w ∈ es_T, w.before args s = true) (hK : es_K D cI s) (hRm : 0 ≤ R.frames ∧ 0 ≤ R.locals) (hA : ∀ q : Nat, H0.size ≤ q → A q)  (hex : ∀ (g : Nat → Int32), (∀ j, j < 20 → g j = -1) → ∀ (H : Heap) (locs : List Loc), va_P D vwCl [(mo, .inr (4, [.ref ma, .ref mk, .ref mtx, .int (nI n), .int (nI tn), .ref m0, .ref m1, .ref m2, .ref m3, .int fl, .int fk, .int ot, .ref mb, .int of_, .int os_, .int (nI rd), .int (nI sc), .int (nI ed), .int ts, .int tkd, .int tl])), (ma, .inl (cI, 200, .inl ar)), (mk, .inl (cI, 20, .inl g))] H → va_D A [(mo, .inr (4, [.ref ma, .ref mk, .ref mtx, .int (nI n), .int (nI tn), .ref m0, .ref m1, .ref m2, .ref m3, .int fl, .int fk, .int ot, .ref mb, .int of_, .int os_, .int (nI rd), .int (nI sc), .int (nI ed), .int ts, .int tkd, .int tl])), (ma, .inl (cI, 200, .inl ar)), (mk, .inl (cI, 20, .inl g))] → va_S A H0 H locs → ∀ (ls : Array Slot), lv_has ls 2 [(0, .ref mo)] →  W p l e R s m args below meth c H locs 0 0 Q (F0 m 43 ls [])) : ∀ (N : Nat) (i : Nat) (g : Nat → Int32), (i ≤ 20) → (∀ j, j < i → g j = -1) → (20 - i) < N → ∀ (H : Heap) (locs : List Loc), va_P D vwCl [(mo, .inr (4, [.ref ma, .ref mk, .ref mtx, .int (nI n), .int (nI tn), .ref m0, .ref m1, .ref m2, .ref m3, .int fl, .int fk, .int ot, .ref mb, .int of_, .int os_, .int (nI rd), .int (nI sc), .int (nI ed), .int ts, .int tkd, .int tl])), (ma, .inl (cI, 200, .inl ar)), (mk, .inl (cI, 20, .inl g))] H → va_D A [(mo, .inr (4, [.ref ma, .ref mk, .ref mtx, .int (nI n), .int (nI tn), .ref m0, .ref m1, .ref m2, .ref m3, .int fl, .int fk, .int ot, .ref mb, .int of_, .int os_, .int (nI rd), .int (nI sc), .int (nI ed), .int ts, .int tkd, .int tl])), (ma, .inl (cI, 200, .inl ar)), (mk, .inl (cI, 20, .inl g))] → va_S A H0 H locs → ∀ (ls : Array Slot), lv_has ls 2 [(0, .ref mo), (1, .int (nI i))] →  W p l e R s m args below meth c H locs 0 0 Q (F0 m 24 ls []) := by
  intro N
  induction N with
  | zero =>
    intro i g hi hg hN
    exact absurd hN (Nat.not_lt_zero _)
  | succ N ih =>
    intro i g hi hg hN H locs hP hD hS ls hl
    refine lv_iload_n hx hb dX4_forget_24 rfl (lv_at hl 1 rfl) ?_
    refine lv_bipush (v := nI 20) hx hb dX4_forget_25 (by decide) ?_
    refine lv_icmp_ge (tgt := 43) hx hb dX4_forget_27 (by decide) (fun c_27 => ?_) (fun c_27 => ?_)
    ·
      have c_27 := (nI_leI (by omega) (by omega)).mp c_27
      exact hex g (fun j h => hg j (by omega))  H locs (hP.sub [0, 1, 2] rfl) (hD.sub [0, 1, 2] (by decide) rfl) hS ls (lv_sub hl [0] rfl)
    ·
      have c_27 := (mt (nI_leI (by omega) (by omega)).mpr c_27)
      refine lv_aload_n hx hb dX4_forget_30 rfl (lv_at hl 0 rfl) ?_
      refine va_get (D := D) (ci := 4) (v := .ref mk) (C := RX4) (T := TX4) (N := 21) hx hb hw iwX4 hown hK.1 hP 0 rfl rfl 1 (by decide) (hw _ xw_293) (fun _ h9 => h9) rfl dX4_forget_31 ?_
      refine lv_iload_n hx hb dX4_forget_34 rfl (lv_at hl 1 rfl) ?_
      refine lv_iconst (v := (-1)) hx hb dX4_forget_35 (by decide) ?_
      refine es_iast hx hb hK.1 hP hD hS 2 0 rfl rfl (by omega) (Nat.le_of_ble_eq_true rfl) dX4_forget_36 (fun H locs hP hD hS => ?_)
      have hP : va_P D vwCl [(mo, .inr (4, [.ref ma, .ref mk, .ref mtx, .int (nI n), .int (nI tn), .ref m0, .ref m1, .ref m2, .ref m3, .int fl, .int fk, .int ot, .ref mb, .int of_, .int os_, .int (nI rd), .int (nI sc), .int (nI ed), .int ts, .int tkd, .int tl])), (ma, .inl (cI, 200, .inl ar)), (mk, .inl (cI, 20, .inl (upd g i (-1))))] H := hP
      have hD : va_D A [(mo, .inr (4, [.ref ma, .ref mk, .ref mtx, .int (nI n), .int (nI tn), .ref m0, .ref m1, .ref m2, .ref m3, .int fl, .int fk, .int ot, .ref mb, .int of_, .int os_, .int (nI rd), .int (nI sc), .int (nI ed), .int ts, .int tkd, .int tl])), (ma, .inl (cI, 200, .inl ar)), (mk, .inl (cI, 20, .inl (upd g i (-1))))] := hD
      refine lv_iinc (v := nI (i + 1)) (lv' := [(1, .int (nI (i + 1))), (0, .ref mo)]) hx hb dX4_forget_37 hl (k := 1) rfl (nI_1 _) (by decide) rfl (fun ls hl => ?_)
      refine lv_goto (tgt := 24) hx hb dX4_forget_40 (by decide) ?_
      exact ih (i + 1) (upd g i (-1)) (by first | assumption | omega) (es_ext hg) (by omega) H locs (hP.sub [0, 1, 2] rfl) (hD.sub [0, 1, 2] (by decide) rfl) hS ls (lv_sub hl [1, 0] rfl)
set_option maxHeartbeats 1000000 in
set_option maxRecDepth 100000 in
/-- X4.forget  -/
theorem c_X4_forget (l : Launch) (D : va_G) (cI : ClassId) (sz : Nat) (mo : Nat) (ma : Nat) (mk : Nat) (mtx : Nat) (m0 : Nat) (m1 : Nat) (m2 : Nat) (m3 : Nat) (mb : Nat) (ar : Nat → Int32) (ki : Nat → Int32) (n : Nat) (tn : Nat) (fl : Int32) (fk : Int32) (ot : Int32) (of_ : Int32) (os_ : Int32) (rd : Nat) (sc : Nat) (ed : Nat) (ts : Int32) (tkd : Int32) (tl : Int32)  : Met l yX4_forget (Cond.code yX4_forget cX4_forget 2 none :: es_T) { frames := 0, cells := 0, slots := 0, locals := 0 } (va_Pc [.ref mo] (es_W D cI sz [(mo, .inr (4, [.ref ma, .ref mk, .ref mtx, .int (nI n), .int (nI tn), .ref m0, .ref m1, .ref m2, .ref m3, .int fl, .int fk, .int ot, .ref mb, .int of_, .int os_, .int (nI rd), .int (nI sc), .int (nI ed), .int ts, .int tkd, .int tl])), (ma, .inl (cI, 200, .inl ar)), (mk, .inl (cI, 20, .inl ki))])) (va_Qv (fun _ => True) (fun (u : Unit) zt => va_P D vwCl [(mo, .inr (4, [.ref ma, .ref mk, .ref mtx, .int (nI 0), .int (nI 0), .ref m0, .ref m1, .ref m2, .ref m3, .int (-1), .int (nI 0), .int ot, .ref mb, .int of_, .int os_, .int (nI 0), .int (nI 0), .int (nI 0), .int ts, .int tkd, .int tl])), (ma, .inl (cI, 200, .inl (fun _ => -1))), (mk, .inl (cI, 20, .inl (fun _ => -1)))] zt.heap ∧ va_D (va_A [(mo, .inr (4, [.ref ma, .ref mk, .ref mtx, .int (nI n), .int (nI tn), .ref m0, .ref m1, .ref m2, .ref m3, .int fl, .int fk, .int ot, .ref mb, .int of_, .int os_, .int (nI rd), .int (nI sc), .int (nI ed), .int ts, .int tkd, .int tl])), (ma, .inl (cI, 200, .inl ar)), (mk, .inl (cI, 20, .inl ki))] sz) [(mo, .inr (4, [.ref ma, .ref mk, .ref mtx, .int (nI 0), .int (nI 0), .ref m0, .ref m1, .ref m2, .ref m3, .int (-1), .int (nI 0), .int ot, .ref mb, .int of_, .int os_, .int (nI 0), .int (nI 0), .int (nI 0), .int ts, .int tkd, .int tl])), (ma, .inl (cI, 200, .inl (fun _ => -1))), (mk, .inl (cI, 20, .inl (fun _ => -1)))]) (va_A [(mo, .inr (4, [.ref ma, .ref mk, .ref mtx, .int (nI n), .int (nI tn), .ref m0, .ref m1, .ref m2, .ref m3, .int fl, .int fk, .int ot, .ref mb, .int of_, .int os_, .int (nI rd), .int (nI sc), .int (nI ed), .int ts, .int tkd, .int tl])), (ma, .inl (cI, 200, .inl ar)), (mk, .inl (cI, 20, .inl ki))] sz)) 0 0 (va_A [(mo, .inr (4, [.ref ma, .ref mk, .ref mtx, .int (nI n), .int (nI tn), .ref m0, .ref m1, .ref m2, .ref m3, .int fl, .int fk, .int ot, .ref mb, .int of_, .int os_, .int (nI rd), .int (nI sc), .int (nI ed), .int ts, .int tkd, .int tl])), (ma, .inl (cI, 200, .inl ar)), (mk, .inl (cI, 20, .inl ki))] sz) := by
  refine Met.ofW (cc := cX4_forget) (maxL := 2) (ret := none) (by decide) rfl ?_
  intro p e s m args below meth c s₁ B hml hv
  obtain ⟨rfl, hsz, hP, hK, hD0⟩ := hv
  have hx := B.exec
  have hb := B.bytes
  have hr := B.returns
  have hts := atoms_spec (ws := (Cond.code yX4_forget cX4_forget 2 none :: es_T)) B.pre
  have hw : ∀ w ∈ es_T, w.before _ s = true := fun w h => hts w (List.mem_cons_of_mem _ h)
  have hown : s.vm.findClass RX4 = some m.cls := findClass_of_methodNamed B.named
  have hlocks := B.notSynchronized
  have hRm : 0 ≤ (headSpec (Cond.code yX4_forget cX4_forget 2 none :: es_T) { frames := 0, cells := 0, slots := 0, locals := 0 }).room.frames ∧ 0 ≤ (headSpec (Cond.code yX4_forget cX4_forget 2 none :: es_T) { frames := 0, cells := 0, slots := 0, locals := 0 }).room.locals := ⟨Nat.le_refl _, Nat.le_refl _⟩
  have hRc : 0 ≤ (headSpec (Cond.code yX4_forget cX4_forget 2 none :: es_T) { frames := 0, cells := 0, slots := 0, locals := 0 }).room.cells ∧ 0 ≤ (headSpec (Cond.code yX4_forget cX4_forget 2 none :: es_T) { frames := 0, cells := 0, slots := 0, locals := 0 }).room.slots := ⟨Nat.le_refl _, Nat.le_refl _⟩
  subst hsz
  have hD := hD0.self (sz := s.heap.size)
  generalize hAe : va_A [(mo, .inr (4, [.ref ma, .ref mk, .ref mtx, .int (nI n), .int (nI tn), .ref m0, .ref m1, .ref m2, .ref m3, .int fl, .int fk, .int ot, .ref mb, .int of_, .int os_, .int (nI rd), .int (nI sc), .int (nI ed), .int ts, .int tkd, .int tl])), (ma, .inl (cI, 200, .inl ar)), (mk, .inl (cI, 20, .inl ki))] s.heap.size = A at hD ⊢
  have hA : ∀ q : Nat, s.heap.size ≤ q → A q := fun q h => by rw [← hAe]; exact Or.inr h
  have hS : va_S A s.heap s.heap [] := va_S.rf
  have hl := lv_entry ([.ref mo]) (n := 2) (Nat.le_of_ble_eq_true rfl)
  rw [lg_entry_eq]
  generalize (lg_sl ([.ref mo]) ++ List.replicate (2 - (lg_sl ([.ref mo])).length) Slot.unset).toArray = ls at hl ⊢
  have hl : lv_has ls 2 [(0, .ref mo)] := hl
  refine lv_iconst (v := nI 0) hx hb dX4_forget_0 (by decide) ?_
  refine lv_istore_n (lv' := [(1, .int (nI 0)), (0, .ref mo)]) hx hb dX4_forget_1 rfl hl (by decide) rfl (fun ls hl => ?_)
  refine lp_fgA D cI mo ma mk mtx m0 m1 m2 m3 mb n tn fl fk ot of_ os_ rd sc ed ts tkd tl ki hx hb hml hown hw hK ⟨Nat.le_trans (Nat.le_of_ble_eq_true rfl) hRm.1, Nat.le_trans (Nat.le_of_ble_eq_true rfl) hRm.2⟩ hA  (fun g hg H locs hP hD hS ls hl => ?_) ((200 - 0) + 1) 0 ar (Nat.zero_le _) (fun j h => absurd h (Nat.not_lt_zero _)) (Nat.lt_succ_self _) s.heap [] (hP.sub [0, 1, 2] rfl) (hD.sub [0, 1, 2] (by decide) rfl) hS ls (lv_sub hl [1, 0] rfl)
  obtain ⟨hP, hD⟩ := es_P_arr hP hD 1 rfl (fun _ => -1) hg
  have hP : va_P D vwCl [(mo, .inr (4, [.ref ma, .ref mk, .ref mtx, .int (nI n), .int (nI tn), .ref m0, .ref m1, .ref m2, .ref m3, .int fl, .int fk, .int ot, .ref mb, .int of_, .int os_, .int (nI rd), .int (nI sc), .int (nI ed), .int ts, .int tkd, .int tl])), (ma, .inl (cI, 200, .inl (fun _ => -1))), (mk, .inl (cI, 20, .inl ki))] H := hP
  have hD : va_D A [(mo, .inr (4, [.ref ma, .ref mk, .ref mtx, .int (nI n), .int (nI tn), .ref m0, .ref m1, .ref m2, .ref m3, .int fl, .int fk, .int ot, .ref mb, .int of_, .int os_, .int (nI rd), .int (nI sc), .int (nI ed), .int ts, .int tkd, .int tl])), (ma, .inl (cI, 200, .inl (fun _ => -1))), (mk, .inl (cI, 20, .inl ki))] := hD
  refine lv_iconst (v := nI 0) hx hb dX4_forget_22 (by decide) ?_
  refine lv_istore_n (lv' := [(1, .int (nI 0)), (0, .ref mo)]) hx hb dX4_forget_23 rfl hl (by decide) rfl (fun ls hl => ?_)
  refine lp_fgB D cI mo ma mk mtx m0 m1 m2 m3 mb n tn fl fk ot of_ os_ rd sc ed ts tkd tl (fun _ => -1) hx hb hml hown hw hK ⟨Nat.le_trans (Nat.le_of_ble_eq_true rfl) hRm.1, Nat.le_trans (Nat.le_of_ble_eq_true rfl) hRm.2⟩ hA  (fun g hg H locs hP hD hS ls hl => ?_) ((20 - 0) + 1) 0 ki (Nat.zero_le _) (fun j h => absurd h (Nat.not_lt_zero _)) (Nat.lt_succ_self _) H locs (hP.sub [0, 1, 2] rfl) (hD.sub [0, 1, 2] (by decide) rfl) hS ls (lv_sub hl [1, 0] rfl)
  obtain ⟨hP, hD⟩ := es_P_arr hP hD 2 rfl (fun _ => -1) hg
  have hP : va_P D vwCl [(mo, .inr (4, [.ref ma, .ref mk, .ref mtx, .int (nI n), .int (nI tn), .ref m0, .ref m1, .ref m2, .ref m3, .int fl, .int fk, .int ot, .ref mb, .int of_, .int os_, .int (nI rd), .int (nI sc), .int (nI ed), .int ts, .int tkd, .int tl])), (ma, .inl (cI, 200, .inl (fun _ => -1))), (mk, .inl (cI, 20, .inl (fun _ => -1)))] H := hP
  have hD : va_D A [(mo, .inr (4, [.ref ma, .ref mk, .ref mtx, .int (nI n), .int (nI tn), .ref m0, .ref m1, .ref m2, .ref m3, .int fl, .int fk, .int ot, .ref mb, .int of_, .int os_, .int (nI rd), .int (nI sc), .int (nI ed), .int ts, .int tkd, .int tl])), (ma, .inl (cI, 200, .inl (fun _ => -1))), (mk, .inl (cI, 20, .inl (fun _ => -1)))] := hD
  refine lv_aload_n hx hb dX4_forget_43 rfl (lv_at hl 0 rfl) ?_
  refine lv_iconst (v := nI 0) hx hb dX4_forget_44 (by decide) ?_
  refine va_put (D := D) (ci := 4) (v := .int (nI 0)) (ty := .int) (C := RX4) (T := TX4) (N := 21) hx hb hw iwX4 tyX4 tyX4_ok nmX4 hown hK.1 hP hD hS 0 rfl rfl 3 (by decide) (hw _ xw_260) (fun _ h9 => h9) rfl (by decide +kernel) rfl rfl (Nat.le_of_ble_eq_true rfl) dX4_forget_45 (fun H locs hP hD hS => ?_)
  have hP : va_P D vwCl [(mo, .inr (4, [.ref ma, .ref mk, .ref mtx, .int (nI 0), .int (nI tn), .ref m0, .ref m1, .ref m2, .ref m3, .int fl, .int fk, .int ot, .ref mb, .int of_, .int os_, .int (nI rd), .int (nI sc), .int (nI ed), .int ts, .int tkd, .int tl])), (ma, .inl (cI, 200, .inl (fun _ => -1))), (mk, .inl (cI, 20, .inl (fun _ => -1)))] H := hP
  have hD : va_D A [(mo, .inr (4, [.ref ma, .ref mk, .ref mtx, .int (nI 0), .int (nI tn), .ref m0, .ref m1, .ref m2, .ref m3, .int fl, .int fk, .int ot, .ref mb, .int of_, .int os_, .int (nI rd), .int (nI sc), .int (nI ed), .int ts, .int tkd, .int tl])), (ma, .inl (cI, 200, .inl (fun _ => -1))), (mk, .inl (cI, 20, .inl (fun _ => -1)))] := hD
  refine lv_aload_n hx hb dX4_forget_48 rfl (lv_at hl 0 rfl) ?_
  refine lv_iconst (v := nI 0) hx hb dX4_forget_49 (by decide) ?_
  refine va_put (D := D) (ci := 4) (v := .int (nI 0)) (ty := .int) (C := RX4) (T := TX4) (N := 21) hx hb hw iwX4 tyX4 tyX4_ok nmX4 hown hK.1 hP hD hS 0 rfl rfl 4 (by decide) (hw _ xw_268) (fun _ h9 => h9) rfl (by decide +kernel) rfl rfl (Nat.le_of_ble_eq_true rfl) dX4_forget_50 (fun H locs hP hD hS => ?_)
  have hP : va_P D vwCl [(mo, .inr (4, [.ref ma, .ref mk, .ref mtx, .int (nI 0), .int (nI 0), .ref m0, .ref m1, .ref m2, .ref m3, .int fl, .int fk, .int ot, .ref mb, .int of_, .int os_, .int (nI rd), .int (nI sc), .int (nI ed), .int ts, .int tkd, .int tl])), (ma, .inl (cI, 200, .inl (fun _ => -1))), (mk, .inl (cI, 20, .inl (fun _ => -1)))] H := hP
  have hD : va_D A [(mo, .inr (4, [.ref ma, .ref mk, .ref mtx, .int (nI 0), .int (nI 0), .ref m0, .ref m1, .ref m2, .ref m3, .int fl, .int fk, .int ot, .ref mb, .int of_, .int os_, .int (nI rd), .int (nI sc), .int (nI ed), .int ts, .int tkd, .int tl])), (ma, .inl (cI, 200, .inl (fun _ => -1))), (mk, .inl (cI, 20, .inl (fun _ => -1)))] := hD
  refine lv_aload_n hx hb dX4_forget_53 rfl (lv_at hl 0 rfl) ?_
  refine lv_iconst (v := (-1)) hx hb dX4_forget_54 (by decide) ?_
  refine va_put (D := D) (ci := 4) (v := .int (-1)) (ty := .int) (C := RX4) (T := TX4) (N := 21) hx hb hw iwX4 tyX4 tyX4_ok nmX4 hown hK.1 hP hD hS 0 rfl rfl 9 (by decide) (hw _ xw_273) (fun _ h9 => h9) rfl (by decide +kernel) rfl rfl (Nat.le_of_ble_eq_true rfl) dX4_forget_55 (fun H locs hP hD hS => ?_)
  have hP : va_P D vwCl [(mo, .inr (4, [.ref ma, .ref mk, .ref mtx, .int (nI 0), .int (nI 0), .ref m0, .ref m1, .ref m2, .ref m3, .int (-1), .int fk, .int ot, .ref mb, .int of_, .int os_, .int (nI rd), .int (nI sc), .int (nI ed), .int ts, .int tkd, .int tl])), (ma, .inl (cI, 200, .inl (fun _ => -1))), (mk, .inl (cI, 20, .inl (fun _ => -1)))] H := hP
  have hD : va_D A [(mo, .inr (4, [.ref ma, .ref mk, .ref mtx, .int (nI 0), .int (nI 0), .ref m0, .ref m1, .ref m2, .ref m3, .int (-1), .int fk, .int ot, .ref mb, .int of_, .int os_, .int (nI rd), .int (nI sc), .int (nI ed), .int ts, .int tkd, .int tl])), (ma, .inl (cI, 200, .inl (fun _ => -1))), (mk, .inl (cI, 20, .inl (fun _ => -1)))] := hD
  refine lv_aload_n hx hb dX4_forget_58 rfl (lv_at hl 0 rfl) ?_
  refine lv_iconst (v := nI 0) hx hb dX4_forget_59 (by decide) ?_
  refine va_put (D := D) (ci := 4) (v := .int (nI 0)) (ty := .int) (C := RX4) (T := TX4) (N := 21) hx hb hw iwX4 tyX4 tyX4_ok nmX4 hown hK.1 hP hD hS 0 rfl rfl 10 (by decide) (hw _ xw_274) (fun _ h9 => h9) rfl (by decide +kernel) rfl rfl (Nat.le_of_ble_eq_true rfl) dX4_forget_60 (fun H locs hP hD hS => ?_)
  have hP : va_P D vwCl [(mo, .inr (4, [.ref ma, .ref mk, .ref mtx, .int (nI 0), .int (nI 0), .ref m0, .ref m1, .ref m2, .ref m3, .int (-1), .int (nI 0), .int ot, .ref mb, .int of_, .int os_, .int (nI rd), .int (nI sc), .int (nI ed), .int ts, .int tkd, .int tl])), (ma, .inl (cI, 200, .inl (fun _ => -1))), (mk, .inl (cI, 20, .inl (fun _ => -1)))] H := hP
  have hD : va_D A [(mo, .inr (4, [.ref ma, .ref mk, .ref mtx, .int (nI 0), .int (nI 0), .ref m0, .ref m1, .ref m2, .ref m3, .int (-1), .int (nI 0), .int ot, .ref mb, .int of_, .int os_, .int (nI rd), .int (nI sc), .int (nI ed), .int ts, .int tkd, .int tl])), (ma, .inl (cI, 200, .inl (fun _ => -1))), (mk, .inl (cI, 20, .inl (fun _ => -1)))] := hD
  refine lv_aload_n hx hb dX4_forget_63 rfl (lv_at hl 0 rfl) ?_
  refine lv_iconst (v := nI 0) hx hb dX4_forget_64 (by decide) ?_
  refine va_put (D := D) (ci := 4) (v := .int (nI 0)) (ty := .int) (C := RX4) (T := TX4) (N := 21) hx hb hw iwX4 tyX4 tyX4_ok nmX4 hown hK.1 hP hD hS 0 rfl rfl 15 (by decide) (hw _ xw_275) (fun _ h9 => h9) rfl (by decide +kernel) rfl rfl (Nat.le_of_ble_eq_true rfl) dX4_forget_65 (fun H locs hP hD hS => ?_)
  have hP : va_P D vwCl [(mo, .inr (4, [.ref ma, .ref mk, .ref mtx, .int (nI 0), .int (nI 0), .ref m0, .ref m1, .ref m2, .ref m3, .int (-1), .int (nI 0), .int ot, .ref mb, .int of_, .int os_, .int (nI 0), .int (nI sc), .int (nI ed), .int ts, .int tkd, .int tl])), (ma, .inl (cI, 200, .inl (fun _ => -1))), (mk, .inl (cI, 20, .inl (fun _ => -1)))] H := hP
  have hD : va_D A [(mo, .inr (4, [.ref ma, .ref mk, .ref mtx, .int (nI 0), .int (nI 0), .ref m0, .ref m1, .ref m2, .ref m3, .int (-1), .int (nI 0), .int ot, .ref mb, .int of_, .int os_, .int (nI 0), .int (nI sc), .int (nI ed), .int ts, .int tkd, .int tl])), (ma, .inl (cI, 200, .inl (fun _ => -1))), (mk, .inl (cI, 20, .inl (fun _ => -1)))] := hD
  refine lv_aload_n hx hb dX4_forget_68 rfl (lv_at hl 0 rfl) ?_
  refine lv_iconst (v := nI 0) hx hb dX4_forget_69 (by decide) ?_
  refine va_put (D := D) (ci := 4) (v := .int (nI 0)) (ty := .int) (C := RX4) (T := TX4) (N := 21) hx hb hw iwX4 tyX4 tyX4_ok nmX4 hown hK.1 hP hD hS 0 rfl rfl 16 (by decide) (hw _ xw_276) (fun _ h9 => h9) rfl (by decide +kernel) rfl rfl (Nat.le_of_ble_eq_true rfl) dX4_forget_70 (fun H locs hP hD hS => ?_)
  have hP : va_P D vwCl [(mo, .inr (4, [.ref ma, .ref mk, .ref mtx, .int (nI 0), .int (nI 0), .ref m0, .ref m1, .ref m2, .ref m3, .int (-1), .int (nI 0), .int ot, .ref mb, .int of_, .int os_, .int (nI 0), .int (nI 0), .int (nI ed), .int ts, .int tkd, .int tl])), (ma, .inl (cI, 200, .inl (fun _ => -1))), (mk, .inl (cI, 20, .inl (fun _ => -1)))] H := hP
  have hD : va_D A [(mo, .inr (4, [.ref ma, .ref mk, .ref mtx, .int (nI 0), .int (nI 0), .ref m0, .ref m1, .ref m2, .ref m3, .int (-1), .int (nI 0), .int ot, .ref mb, .int of_, .int os_, .int (nI 0), .int (nI 0), .int (nI ed), .int ts, .int tkd, .int tl])), (ma, .inl (cI, 200, .inl (fun _ => -1))), (mk, .inl (cI, 20, .inl (fun _ => -1)))] := hD
  refine lv_aload_n hx hb dX4_forget_73 rfl (lv_at hl 0 rfl) ?_
  refine lv_iconst (v := nI 0) hx hb dX4_forget_74 (by decide) ?_
  refine va_put (D := D) (ci := 4) (v := .int (nI 0)) (ty := .int) (C := RX4) (T := TX4) (N := 21) hx hb hw iwX4 tyX4 tyX4_ok nmX4 hown hK.1 hP hD hS 0 rfl rfl 17 (by decide) (hw _ xw_277) (fun _ h9 => h9) rfl (by decide +kernel) rfl rfl (Nat.le_of_ble_eq_true rfl) dX4_forget_75 (fun H locs hP hD hS => ?_)
  have hP : va_P D vwCl [(mo, .inr (4, [.ref ma, .ref mk, .ref mtx, .int (nI 0), .int (nI 0), .ref m0, .ref m1, .ref m2, .ref m3, .int (-1), .int (nI 0), .int ot, .ref mb, .int of_, .int os_, .int (nI 0), .int (nI 0), .int (nI 0), .int ts, .int tkd, .int tl])), (ma, .inl (cI, 200, .inl (fun _ => -1))), (mk, .inl (cI, 20, .inl (fun _ => -1)))] H := hP
  have hD : va_D A [(mo, .inr (4, [.ref ma, .ref mk, .ref mtx, .int (nI 0), .int (nI 0), .ref m0, .ref m1, .ref m2, .ref m3, .int (-1), .int (nI 0), .int ot, .ref mb, .int of_, .int os_, .int (nI 0), .int (nI 0), .int (nI 0), .int ts, .int tkd, .int tl])), (ma, .inl (cI, 200, .inl (fun _ => -1))), (mk, .inl (cI, 20, .inl (fun _ => -1)))] := hD
  exact W.vret hx hb hr (fun zt ht hW => ⟨⟨(), rfl, trivial, ⟨by rw [ht]; exact hP.sub [0, 1, 2] rfl, hD.sub [0, 1, 2] (by decide) rfl⟩⟩, hS.F ht⟩) hS.2.2 dX4_forget_78
set_option maxHeartbeats 1000000 in
set_option maxRecDepth 100000 in
/-- X4.init  -/
theorem c_X4_init (l : Launch) (D : va_G) (cI : ClassId) (sz : Nat) (mo : Nat)  : Met l yX4_init (Cond.code yX4_init cX4_init 1 none :: es_T) { frames := 1, cells := 8, slots := 2620, locals := 21 } (va_Pc [.ref mo] (es_W D cI sz [(mo, .inr (4, [.null, .null, .null, .int 0, .int 0, .null, .null, .null, .null, .int 0, .int 0, .int 0, .null, .int 0, .int 0, .int 0, .int 0, .int 0, .int 0, .int 0, .int 0]))])) (va_Qv (fun _ => True) (fun (u : (Nat × Nat × Nat) × (Nat × Nat × Nat × Nat) × Nat) zt => va_P D vwCl [(mo, .inr (4, [.ref u.1.1, .ref u.1.2.1, .ref u.1.2.2, .int (nI 0), .int (nI 0), .ref u.2.1.1, .ref u.2.1.2.1, .ref u.2.1.2.2.1, .ref u.2.1.2.2.2, .int (-1), .int (nI 0), .int 0, .ref u.2.2, .int 0, .int 0, .int (nI 0), .int (nI 0), .int (nI 0), .int 0, .int 0, .int 0])), (u.1.1, .inl (cI, 200, .inl (fun _ => -1))), (u.1.2.1, .inl (cI, 20, .inl (fun _ => -1))), (u.1.2.2, .inl (cI, 400, .inl (fun _ => 0))), (u.2.1.1, .inl (cI, 400, .inl (fun _ => 0))), (u.2.1.2.1, .inl (cI, 400, .inl (fun _ => 0))), (u.2.1.2.2.1, .inl (cI, 400, .inl (fun _ => 0))), (u.2.1.2.2.2, .inl (cI, 400, .inl (fun _ => 0))), (u.2.2, .inl (cI, 400, .inl (fun _ => 0)))] zt.heap ∧ va_D (va_A [(mo, .inr (4, [.null, .null, .null, .int 0, .int 0, .null, .null, .null, .null, .int 0, .int 0, .int 0, .null, .int 0, .int 0, .int 0, .int 0, .int 0, .int 0, .int 0, .int 0]))] sz) [(mo, .inr (4, [.ref u.1.1, .ref u.1.2.1, .ref u.1.2.2, .int (nI 0), .int (nI 0), .ref u.2.1.1, .ref u.2.1.2.1, .ref u.2.1.2.2.1, .ref u.2.1.2.2.2, .int (-1), .int (nI 0), .int 0, .ref u.2.2, .int 0, .int 0, .int (nI 0), .int (nI 0), .int (nI 0), .int 0, .int 0, .int 0])), (u.1.1, .inl (cI, 200, .inl (fun _ => -1))), (u.1.2.1, .inl (cI, 20, .inl (fun _ => -1))), (u.1.2.2, .inl (cI, 400, .inl (fun _ => 0))), (u.2.1.1, .inl (cI, 400, .inl (fun _ => 0))), (u.2.1.2.1, .inl (cI, 400, .inl (fun _ => 0))), (u.2.1.2.2.1, .inl (cI, 400, .inl (fun _ => 0))), (u.2.1.2.2.2, .inl (cI, 400, .inl (fun _ => 0))), (u.2.2, .inl (cI, 400, .inl (fun _ => 0)))]) (va_A [(mo, .inr (4, [.null, .null, .null, .int 0, .int 0, .null, .null, .null, .null, .int 0, .int 0, .int 0, .null, .int 0, .int 0, .int 0, .int 0, .int 0, .int 0, .int 0, .int 0]))] sz)) 8 2620 (va_A [(mo, .inr (4, [.null, .null, .null, .int 0, .int 0, .null, .null, .null, .null, .int 0, .int 0, .int 0, .null, .int 0, .int 0, .int 0, .int 0, .int 0, .int 0, .int 0, .int 0]))] sz) := by
  refine Met.ofW (cc := cX4_init) (maxL := 1) (ret := none) (by decide) rfl ?_
  intro p e s m args below meth c s₁ B hml hv
  obtain ⟨rfl, hsz, hP, hK, hD0⟩ := hv
  have hx := B.exec
  have hb := B.bytes
  have hr := B.returns
  have hts := atoms_spec (ws := (Cond.code yX4_init cX4_init 1 none :: es_T)) B.pre
  have hw : ∀ w ∈ es_T, w.before _ s = true := fun w h => hts w (List.mem_cons_of_mem _ h)
  have hown : s.vm.findClass RX4 = some m.cls := findClass_of_methodNamed B.named
  have hlocks := B.notSynchronized
  have hin : meth.name = "<init>" := (name_of_methodNamed B.named B.method).1
  have hRm : 1 ≤ (headSpec (Cond.code yX4_init cX4_init 1 none :: es_T) { frames := 1, cells := 8, slots := 2620, locals := 21 }).room.frames ∧ 21 ≤ (headSpec (Cond.code yX4_init cX4_init 1 none :: es_T) { frames := 1, cells := 8, slots := 2620, locals := 21 }).room.locals := ⟨Nat.le_refl _, Nat.le_refl _⟩
  have hRc : 8 ≤ (headSpec (Cond.code yX4_init cX4_init 1 none :: es_T) { frames := 1, cells := 8, slots := 2620, locals := 21 }).room.cells ∧ 2620 ≤ (headSpec (Cond.code yX4_init cX4_init 1 none :: es_T) { frames := 1, cells := 8, slots := 2620, locals := 21 }).room.slots := ⟨Nat.le_refl _, Nat.le_refl _⟩
  subst hsz
  have hD := hD0.self (sz := s.heap.size)
  generalize hAe : va_A [(mo, .inr (4, [.null, .null, .null, .int 0, .int 0, .null, .null, .null, .null, .int 0, .int 0, .int 0, .null, .int 0, .int 0, .int 0, .int 0, .int 0, .int 0, .int 0, .int 0]))] s.heap.size = A at hD ⊢
  have hA : ∀ q : Nat, s.heap.size ≤ q → A q := fun q h => by rw [← hAe]; exact Or.inr h
  have hS : va_S A s.heap s.heap [] := va_S.rf
  have hl := lv_entry ([.ref mo]) (n := 1) (Nat.le_of_ble_eq_true rfl)
  rw [lg_entry_eq]
  generalize (lg_sl ([.ref mo]) ++ List.replicate (1 - (lg_sl ([.ref mo])).length) Slot.unset).toArray = ls at hl ⊢
  have hl : lv_has ls 1 [(0, .ref mo)] := hl
  refine lv_aload_n hx hb dX4_init_0 rfl (lv_at hl 0 rfl) ?_
  refine W.objInit hx hb hown (hw _ xw_304) (hw _ xw_92) (hw _ xw_93) rfl (by rw [hml]; exact hl.1) rfl dX4_init_1 (Nat.le_trans (Nat.le_of_ble_eq_true rfl) hRm.1) (Nat.le_trans (Nat.le_of_ble_eq_true rfl) hRm.2) ?_
  refine W.eq (g2 := F0 m 4 ls []) rfl ?_
  refine lv_aload_n hx hb dX4_init_4 rfl (lv_at hl 0 rfl) ?_
  refine lv_sipush (v := nI 200) hx hb dX4_init_5 (by decide) ?_
  refine es_newa hx hb (hw _ xw_94) hK.1 hP hD hS hA (N' := 200) (by decide) (by decide) (Nat.le_trans (Nat.le_of_ble_eq_true rfl) hRc.1) (Nat.le_trans (Nat.le_of_ble_eq_true rfl) hRc.2) (by decide) dX4_init_8 (fun q_1 H hP hD hS => ?_)
  have hP : va_P D vwCl [(mo, .inr (4, [.null, .null, .null, .int 0, .int 0, .null, .null, .null, .null, .int 0, .int 0, .int 0, .null, .int 0, .int 0, .int 0, .int 0, .int 0, .int 0, .int 0, .int 0])), (q_1, .inl (cI, 200, .inl (fun _ => 0)))] H := hP
  have hD : va_D A [(mo, .inr (4, [.null, .null, .null, .int 0, .int 0, .null, .null, .null, .null, .int 0, .int 0, .int 0, .null, .int 0, .int 0, .int 0, .int 0, .int 0, .int 0, .int 0, .int 0])), (q_1, .inl (cI, 200, .inl (fun _ => 0)))] := hD
  refine W.widen (k := 1) (n := 200) (Nat.le_of_ble_eq_true rfl) (Nat.le_of_ble_eq_true rfl) ?_
  refine va_putF (D := D) (ci := 4) (v := .ref q_1) (ty := (.array .int)) (C := RX4) (T := TX4) (N := 21) hx hb hw iwX4 tyX4 tyX4_ok nmX4 hown hK.1 hP hD hS 0 rfl rfl 0 (by decide) (hw _ xw_261) (fun _ h9 => h9) rfl hin rfl (by decide +kernel) rfl rfl (Nat.le_of_ble_eq_true rfl) dX4_init_10 (fun H locs hP hD hS => ?_)
  have hP : va_P D vwCl [(mo, .inr (4, [.ref q_1, .null, .null, .int 0, .int 0, .null, .null, .null, .null, .int 0, .int 0, .int 0, .null, .int 0, .int 0, .int 0, .int 0, .int 0, .int 0, .int 0, .int 0])), (q_1, .inl (cI, 200, .inl (fun _ => 0)))] H := hP
  have hD : va_D A [(mo, .inr (4, [.ref q_1, .null, .null, .int 0, .int 0, .null, .null, .null, .null, .int 0, .int 0, .int 0, .null, .int 0, .int 0, .int 0, .int 0, .int 0, .int 0, .int 0, .int 0])), (q_1, .inl (cI, 200, .inl (fun _ => 0)))] := hD
  refine lv_aload_n hx hb dX4_init_13 rfl (lv_at hl 0 rfl) ?_
  refine lv_bipush (v := nI 20) hx hb dX4_init_14 (by decide) ?_
  refine es_newa hx hb (hw _ xw_94) hK.1 hP hD hS hA (N' := 20) (by decide) (by decide) (Nat.le_trans (Nat.le_of_ble_eq_true rfl) hRc.1) (Nat.le_trans (Nat.le_of_ble_eq_true rfl) hRc.2) (by decide) dX4_init_16 (fun q_2 H hP hD hS => ?_)
  have hP : va_P D vwCl [(mo, .inr (4, [.ref q_1, .null, .null, .int 0, .int 0, .null, .null, .null, .null, .int 0, .int 0, .int 0, .null, .int 0, .int 0, .int 0, .int 0, .int 0, .int 0, .int 0, .int 0])), (q_1, .inl (cI, 200, .inl (fun _ => 0))), (q_2, .inl (cI, 20, .inl (fun _ => 0)))] H := hP
  have hD : va_D A [(mo, .inr (4, [.ref q_1, .null, .null, .int 0, .int 0, .null, .null, .null, .null, .int 0, .int 0, .int 0, .null, .int 0, .int 0, .int 0, .int 0, .int 0, .int 0, .int 0, .int 0])), (q_1, .inl (cI, 200, .inl (fun _ => 0))), (q_2, .inl (cI, 20, .inl (fun _ => 0)))] := hD
  refine W.widen (k := 2) (n := 220) (Nat.le_of_ble_eq_true rfl) (Nat.le_of_ble_eq_true rfl) ?_
  refine va_putF (D := D) (ci := 4) (v := .ref q_2) (ty := (.array .int)) (C := RX4) (T := TX4) (N := 21) hx hb hw iwX4 tyX4 tyX4_ok nmX4 hown hK.1 hP hD hS 0 rfl rfl 1 (by decide) (hw _ xw_293) (fun _ h9 => h9) rfl hin rfl (by decide +kernel) rfl rfl (Nat.le_of_ble_eq_true rfl) dX4_init_18 (fun H locs hP hD hS => ?_)
  have hP : va_P D vwCl [(mo, .inr (4, [.ref q_1, .ref q_2, .null, .int 0, .int 0, .null, .null, .null, .null, .int 0, .int 0, .int 0, .null, .int 0, .int 0, .int 0, .int 0, .int 0, .int 0, .int 0, .int 0])), (q_1, .inl (cI, 200, .inl (fun _ => 0))), (q_2, .inl (cI, 20, .inl (fun _ => 0)))] H := hP
  have hD : va_D A [(mo, .inr (4, [.ref q_1, .ref q_2, .null, .int 0, .int 0, .null, .null, .null, .null, .int 0, .int 0, .int 0, .null, .int 0, .int 0, .int 0, .int 0, .int 0, .int 0, .int 0, .int 0])), (q_1, .inl (cI, 200, .inl (fun _ => 0))), (q_2, .inl (cI, 20, .inl (fun _ => 0)))] := hD
  refine lv_aload_n hx hb dX4_init_21 rfl (lv_at hl 0 rfl) ?_
  refine lv_sipush (v := nI 400) hx hb dX4_init_22 (by decide) ?_
  refine es_newa hx hb (hw _ xw_94) hK.1 hP hD hS hA (N' := 400) (by decide) (by decide) (Nat.le_trans (Nat.le_of_ble_eq_true rfl) hRc.1) (Nat.le_trans (Nat.le_of_ble_eq_true rfl) hRc.2) (by decide) dX4_init_25 (fun q_3 H hP hD hS => ?_)
  have hP : va_P D vwCl [(mo, .inr (4, [.ref q_1, .ref q_2, .null, .int 0, .int 0, .null, .null, .null, .null, .int 0, .int 0, .int 0, .null, .int 0, .int 0, .int 0, .int 0, .int 0, .int 0, .int 0, .int 0])), (q_1, .inl (cI, 200, .inl (fun _ => 0))), (q_2, .inl (cI, 20, .inl (fun _ => 0))), (q_3, .inl (cI, 400, .inl (fun _ => 0)))] H := hP
  have hD : va_D A [(mo, .inr (4, [.ref q_1, .ref q_2, .null, .int 0, .int 0, .null, .null, .null, .null, .int 0, .int 0, .int 0, .null, .int 0, .int 0, .int 0, .int 0, .int 0, .int 0, .int 0, .int 0])), (q_1, .inl (cI, 200, .inl (fun _ => 0))), (q_2, .inl (cI, 20, .inl (fun _ => 0))), (q_3, .inl (cI, 400, .inl (fun _ => 0)))] := hD
  refine W.widen (k := 3) (n := 620) (Nat.le_of_ble_eq_true rfl) (Nat.le_of_ble_eq_true rfl) ?_
  refine va_putF (D := D) (ci := 4) (v := .ref q_3) (ty := (.array .int)) (C := RX4) (T := TX4) (N := 21) hx hb hw iwX4 tyX4 tyX4_ok nmX4 hown hK.1 hP hD hS 0 rfl rfl 2 (by decide) (hw _ xw_266) (fun _ h9 => h9) rfl hin rfl (by decide +kernel) rfl rfl (Nat.le_of_ble_eq_true rfl) dX4_init_27 (fun H locs hP hD hS => ?_)
  have hP : va_P D vwCl [(mo, .inr (4, [.ref q_1, .ref q_2, .ref q_3, .int 0, .int 0, .null, .null, .null, .null, .int 0, .int 0, .int 0, .null, .int 0, .int 0, .int 0, .int 0, .int 0, .int 0, .int 0, .int 0])), (q_1, .inl (cI, 200, .inl (fun _ => 0))), (q_2, .inl (cI, 20, .inl (fun _ => 0))), (q_3, .inl (cI, 400, .inl (fun _ => 0)))] H := hP
  have hD : va_D A [(mo, .inr (4, [.ref q_1, .ref q_2, .ref q_3, .int 0, .int 0, .null, .null, .null, .null, .int 0, .int 0, .int 0, .null, .int 0, .int 0, .int 0, .int 0, .int 0, .int 0, .int 0, .int 0])), (q_1, .inl (cI, 200, .inl (fun _ => 0))), (q_2, .inl (cI, 20, .inl (fun _ => 0))), (q_3, .inl (cI, 400, .inl (fun _ => 0)))] := hD
  refine lv_aload_n hx hb dX4_init_30 rfl (lv_at hl 0 rfl) ?_
  refine lv_sipush (v := nI 400) hx hb dX4_init_31 (by decide) ?_
  refine es_newa hx hb (hw _ xw_94) hK.1 hP hD hS hA (N' := 400) (by decide) (by decide) (Nat.le_trans (Nat.le_of_ble_eq_true rfl) hRc.1) (Nat.le_trans (Nat.le_of_ble_eq_true rfl) hRc.2) (by decide) dX4_init_34 (fun q_4 H hP hD hS => ?_)
  have hP : va_P D vwCl [(mo, .inr (4, [.ref q_1, .ref q_2, .ref q_3, .int 0, .int 0, .null, .null, .null, .null, .int 0, .int 0, .int 0, .null, .int 0, .int 0, .int 0, .int 0, .int 0, .int 0, .int 0, .int 0])), (q_1, .inl (cI, 200, .inl (fun _ => 0))), (q_2, .inl (cI, 20, .inl (fun _ => 0))), (q_3, .inl (cI, 400, .inl (fun _ => 0))), (q_4, .inl (cI, 400, .inl (fun _ => 0)))] H := hP
  have hD : va_D A [(mo, .inr (4, [.ref q_1, .ref q_2, .ref q_3, .int 0, .int 0, .null, .null, .null, .null, .int 0, .int 0, .int 0, .null, .int 0, .int 0, .int 0, .int 0, .int 0, .int 0, .int 0, .int 0])), (q_1, .inl (cI, 200, .inl (fun _ => 0))), (q_2, .inl (cI, 20, .inl (fun _ => 0))), (q_3, .inl (cI, 400, .inl (fun _ => 0))), (q_4, .inl (cI, 400, .inl (fun _ => 0)))] := hD
  refine W.widen (k := 4) (n := 1020) (Nat.le_of_ble_eq_true rfl) (Nat.le_of_ble_eq_true rfl) ?_
  refine va_putF (D := D) (ci := 4) (v := .ref q_4) (ty := (.array .int)) (C := RX4) (T := TX4) (N := 21) hx hb hw iwX4 tyX4 tyX4_ok nmX4 hown hK.1 hP hD hS 0 rfl rfl 5 (by decide) (hw _ xw_279) (fun _ h9 => h9) rfl hin rfl (by decide +kernel) rfl rfl (Nat.le_of_ble_eq_true rfl) dX4_init_36 (fun H locs hP hD hS => ?_)
  have hP : va_P D vwCl [(mo, .inr (4, [.ref q_1, .ref q_2, .ref q_3, .int 0, .int 0, .ref q_4, .null, .null, .null, .int 0, .int 0, .int 0, .null, .int 0, .int 0, .int 0, .int 0, .int 0, .int 0, .int 0, .int 0])), (q_1, .inl (cI, 200, .inl (fun _ => 0))), (q_2, .inl (cI, 20, .inl (fun _ => 0))), (q_3, .inl (cI, 400, .inl (fun _ => 0))), (q_4, .inl (cI, 400, .inl (fun _ => 0)))] H := hP
  have hD : va_D A [(mo, .inr (4, [.ref q_1, .ref q_2, .ref q_3, .int 0, .int 0, .ref q_4, .null, .null, .null, .int 0, .int 0, .int 0, .null, .int 0, .int 0, .int 0, .int 0, .int 0, .int 0, .int 0, .int 0])), (q_1, .inl (cI, 200, .inl (fun _ => 0))), (q_2, .inl (cI, 20, .inl (fun _ => 0))), (q_3, .inl (cI, 400, .inl (fun _ => 0))), (q_4, .inl (cI, 400, .inl (fun _ => 0)))] := hD
  refine lv_aload_n hx hb dX4_init_39 rfl (lv_at hl 0 rfl) ?_
  refine lv_sipush (v := nI 400) hx hb dX4_init_40 (by decide) ?_
  refine es_newa hx hb (hw _ xw_94) hK.1 hP hD hS hA (N' := 400) (by decide) (by decide) (Nat.le_trans (Nat.le_of_ble_eq_true rfl) hRc.1) (Nat.le_trans (Nat.le_of_ble_eq_true rfl) hRc.2) (by decide) dX4_init_43 (fun q_5 H hP hD hS => ?_)
  have hP : va_P D vwCl [(mo, .inr (4, [.ref q_1, .ref q_2, .ref q_3, .int 0, .int 0, .ref q_4, .null, .null, .null, .int 0, .int 0, .int 0, .null, .int 0, .int 0, .int 0, .int 0, .int 0, .int 0, .int 0, .int 0])), (q_1, .inl (cI, 200, .inl (fun _ => 0))), (q_2, .inl (cI, 20, .inl (fun _ => 0))), (q_3, .inl (cI, 400, .inl (fun _ => 0))), (q_4, .inl (cI, 400, .inl (fun _ => 0))), (q_5, .inl (cI, 400, .inl (fun _ => 0)))] H := hP
  have hD : va_D A [(mo, .inr (4, [.ref q_1, .ref q_2, .ref q_3, .int 0, .int 0, .ref q_4, .null, .null, .null, .int 0, .int 0, .int 0, .null, .int 0, .int 0, .int 0, .int 0, .int 0, .int 0, .int 0, .int 0])), (q_1, .inl (cI, 200, .inl (fun _ => 0))), (q_2, .inl (cI, 20, .inl (fun _ => 0))), (q_3, .inl (cI, 400, .inl (fun _ => 0))), (q_4, .inl (cI, 400, .inl (fun _ => 0))), (q_5, .inl (cI, 400, .inl (fun _ => 0)))] := hD
  refine W.widen (k := 5) (n := 1420) (Nat.le_of_ble_eq_true rfl) (Nat.le_of_ble_eq_true rfl) ?_
  refine va_putF (D := D) (ci := 4) (v := .ref q_5) (ty := (.array .int)) (C := RX4) (T := TX4) (N := 21) hx hb hw iwX4 tyX4 tyX4_ok nmX4 hown hK.1 hP hD hS 0 rfl rfl 6 (by decide) (hw _ xw_305) (fun _ h9 => h9) rfl hin rfl (by decide +kernel) rfl rfl (Nat.le_of_ble_eq_true rfl) dX4_init_45 (fun H locs hP hD hS => ?_)
  have hP : va_P D vwCl [(mo, .inr (4, [.ref q_1, .ref q_2, .ref q_3, .int 0, .int 0, .ref q_4, .ref q_5, .null, .null, .int 0, .int 0, .int 0, .null, .int 0, .int 0, .int 0, .int 0, .int 0, .int 0, .int 0, .int 0])), (q_1, .inl (cI, 200, .inl (fun _ => 0))), (q_2, .inl (cI, 20, .inl (fun _ => 0))), (q_3, .inl (cI, 400, .inl (fun _ => 0))), (q_4, .inl (cI, 400, .inl (fun _ => 0))), (q_5, .inl (cI, 400, .inl (fun _ => 0)))] H := hP
  have hD : va_D A [(mo, .inr (4, [.ref q_1, .ref q_2, .ref q_3, .int 0, .int 0, .ref q_4, .ref q_5, .null, .null, .int 0, .int 0, .int 0, .null, .int 0, .int 0, .int 0, .int 0, .int 0, .int 0, .int 0, .int 0])), (q_1, .inl (cI, 200, .inl (fun _ => 0))), (q_2, .inl (cI, 20, .inl (fun _ => 0))), (q_3, .inl (cI, 400, .inl (fun _ => 0))), (q_4, .inl (cI, 400, .inl (fun _ => 0))), (q_5, .inl (cI, 400, .inl (fun _ => 0)))] := hD
  refine lv_aload_n hx hb dX4_init_48 rfl (lv_at hl 0 rfl) ?_
  refine lv_sipush (v := nI 400) hx hb dX4_init_49 (by decide) ?_
  refine es_newa hx hb (hw _ xw_94) hK.1 hP hD hS hA (N' := 400) (by decide) (by decide) (Nat.le_trans (Nat.le_of_ble_eq_true rfl) hRc.1) (Nat.le_trans (Nat.le_of_ble_eq_true rfl) hRc.2) (by decide) dX4_init_52 (fun q_6 H hP hD hS => ?_)
  have hP : va_P D vwCl [(mo, .inr (4, [.ref q_1, .ref q_2, .ref q_3, .int 0, .int 0, .ref q_4, .ref q_5, .null, .null, .int 0, .int 0, .int 0, .null, .int 0, .int 0, .int 0, .int 0, .int 0, .int 0, .int 0, .int 0])), (q_1, .inl (cI, 200, .inl (fun _ => 0))), (q_2, .inl (cI, 20, .inl (fun _ => 0))), (q_3, .inl (cI, 400, .inl (fun _ => 0))), (q_4, .inl (cI, 400, .inl (fun _ => 0))), (q_5, .inl (cI, 400, .inl (fun _ => 0))), (q_6, .inl (cI, 400, .inl (fun _ => 0)))] H := hP
  have hD : va_D A [(mo, .inr (4, [.ref q_1, .ref q_2, .ref q_3, .int 0, .int 0, .ref q_4, .ref q_5, .null, .null, .int 0, .int 0, .int 0, .null, .int 0, .int 0, .int 0, .int 0, .int 0, .int 0, .int 0, .int 0])), (q_1, .inl (cI, 200, .inl (fun _ => 0))), (q_2, .inl (cI, 20, .inl (fun _ => 0))), (q_3, .inl (cI, 400, .inl (fun _ => 0))), (q_4, .inl (cI, 400, .inl (fun _ => 0))), (q_5, .inl (cI, 400, .inl (fun _ => 0))), (q_6, .inl (cI, 400, .inl (fun _ => 0)))] := hD
  refine W.widen (k := 6) (n := 1820) (Nat.le_of_ble_eq_true rfl) (Nat.le_of_ble_eq_true rfl) ?_
  refine va_putF (D := D) (ci := 4) (v := .ref q_6) (ty := (.array .int)) (C := RX4) (T := TX4) (N := 21) hx hb hw iwX4 tyX4 tyX4_ok nmX4 hown hK.1 hP hD hS 0 rfl rfl 7 (by decide) (hw _ xw_306) (fun _ h9 => h9) rfl hin rfl (by decide +kernel) rfl rfl (Nat.le_of_ble_eq_true rfl) dX4_init_54 (fun H locs hP hD hS => ?_)
  have hP : va_P D vwCl [(mo, .inr (4, [.ref q_1, .ref q_2, .ref q_3, .int 0, .int 0, .ref q_4, .ref q_5, .ref q_6, .null, .int 0, .int 0, .int 0, .null, .int 0, .int 0, .int 0, .int 0, .int 0, .int 0, .int 0, .int 0])), (q_1, .inl (cI, 200, .inl (fun _ => 0))), (q_2, .inl (cI, 20, .inl (fun _ => 0))), (q_3, .inl (cI, 400, .inl (fun _ => 0))), (q_4, .inl (cI, 400, .inl (fun _ => 0))), (q_5, .inl (cI, 400, .inl (fun _ => 0))), (q_6, .inl (cI, 400, .inl (fun _ => 0)))] H := hP
  have hD : va_D A [(mo, .inr (4, [.ref q_1, .ref q_2, .ref q_3, .int 0, .int 0, .ref q_4, .ref q_5, .ref q_6, .null, .int 0, .int 0, .int 0, .null, .int 0, .int 0, .int 0, .int 0, .int 0, .int 0, .int 0, .int 0])), (q_1, .inl (cI, 200, .inl (fun _ => 0))), (q_2, .inl (cI, 20, .inl (fun _ => 0))), (q_3, .inl (cI, 400, .inl (fun _ => 0))), (q_4, .inl (cI, 400, .inl (fun _ => 0))), (q_5, .inl (cI, 400, .inl (fun _ => 0))), (q_6, .inl (cI, 400, .inl (fun _ => 0)))] := hD
  refine lv_aload_n hx hb dX4_init_57 rfl (lv_at hl 0 rfl) ?_
  refine lv_sipush (v := nI 400) hx hb dX4_init_58 (by decide) ?_
  refine es_newa hx hb (hw _ xw_94) hK.1 hP hD hS hA (N' := 400) (by decide) (by decide) (Nat.le_trans (Nat.le_of_ble_eq_true rfl) hRc.1) (Nat.le_trans (Nat.le_of_ble_eq_true rfl) hRc.2) (by decide) dX4_init_61 (fun q_7 H hP hD hS => ?_)
  have hP : va_P D vwCl [(mo, .inr (4, [.ref q_1, .ref q_2, .ref q_3, .int 0, .int 0, .ref q_4, .ref q_5, .ref q_6, .null, .int 0, .int 0, .int 0, .null, .int 0, .int 0, .int 0, .int 0, .int 0, .int 0, .int 0, .int 0])), (q_1, .inl (cI, 200, .inl (fun _ => 0))), (q_2, .inl (cI, 20, .inl (fun _ => 0))), (q_3, .inl (cI, 400, .inl (fun _ => 0))), (q_4, .inl (cI, 400, .inl (fun _ => 0))), (q_5, .inl (cI, 400, .inl (fun _ => 0))), (q_6, .inl (cI, 400, .inl (fun _ => 0))), (q_7, .inl (cI, 400, .inl (fun _ => 0)))] H := hP
  have hD : va_D A [(mo, .inr (4, [.ref q_1, .ref q_2, .ref q_3, .int 0, .int 0, .ref q_4, .ref q_5, .ref q_6, .null, .int 0, .int 0, .int 0, .null, .int 0, .int 0, .int 0, .int 0, .int 0, .int 0, .int 0, .int 0])), (q_1, .inl (cI, 200, .inl (fun _ => 0))), (q_2, .inl (cI, 20, .inl (fun _ => 0))), (q_3, .inl (cI, 400, .inl (fun _ => 0))), (q_4, .inl (cI, 400, .inl (fun _ => 0))), (q_5, .inl (cI, 400, .inl (fun _ => 0))), (q_6, .inl (cI, 400, .inl (fun _ => 0))), (q_7, .inl (cI, 400, .inl (fun _ => 0)))] := hD
  refine W.widen (k := 7) (n := 2220) (Nat.le_of_ble_eq_true rfl) (Nat.le_of_ble_eq_true rfl) ?_
  refine va_putF (D := D) (ci := 4) (v := .ref q_7) (ty := (.array .int)) (C := RX4) (T := TX4) (N := 21) hx hb hw iwX4 tyX4 tyX4_ok nmX4 hown hK.1 hP hD hS 0 rfl rfl 8 (by decide) (hw _ xw_280) (fun _ h9 => h9) rfl hin rfl (by decide +kernel) rfl rfl (Nat.le_of_ble_eq_true rfl) dX4_init_63 (fun H locs hP hD hS => ?_)
  have hP : va_P D vwCl [(mo, .inr (4, [.ref q_1, .ref q_2, .ref q_3, .int 0, .int 0, .ref q_4, .ref q_5, .ref q_6, .ref q_7, .int 0, .int 0, .int 0, .null, .int 0, .int 0, .int 0, .int 0, .int 0, .int 0, .int 0, .int 0])), (q_1, .inl (cI, 200, .inl (fun _ => 0))), (q_2, .inl (cI, 20, .inl (fun _ => 0))), (q_3, .inl (cI, 400, .inl (fun _ => 0))), (q_4, .inl (cI, 400, .inl (fun _ => 0))), (q_5, .inl (cI, 400, .inl (fun _ => 0))), (q_6, .inl (cI, 400, .inl (fun _ => 0))), (q_7, .inl (cI, 400, .inl (fun _ => 0)))] H := hP
  have hD : va_D A [(mo, .inr (4, [.ref q_1, .ref q_2, .ref q_3, .int 0, .int 0, .ref q_4, .ref q_5, .ref q_6, .ref q_7, .int 0, .int 0, .int 0, .null, .int 0, .int 0, .int 0, .int 0, .int 0, .int 0, .int 0, .int 0])), (q_1, .inl (cI, 200, .inl (fun _ => 0))), (q_2, .inl (cI, 20, .inl (fun _ => 0))), (q_3, .inl (cI, 400, .inl (fun _ => 0))), (q_4, .inl (cI, 400, .inl (fun _ => 0))), (q_5, .inl (cI, 400, .inl (fun _ => 0))), (q_6, .inl (cI, 400, .inl (fun _ => 0))), (q_7, .inl (cI, 400, .inl (fun _ => 0)))] := hD
  refine lv_aload_n hx hb dX4_init_66 rfl (lv_at hl 0 rfl) ?_
  refine lv_iconst (v := (-1)) hx hb dX4_init_67 (by decide) ?_
  refine va_put (D := D) (ci := 4) (v := .int (-1)) (ty := .int) (C := RX4) (T := TX4) (N := 21) hx hb hw iwX4 tyX4 tyX4_ok nmX4 hown hK.1 hP hD hS 0 rfl rfl 9 (by decide) (hw _ xw_273) (fun _ h9 => h9) rfl (by decide +kernel) rfl rfl (Nat.le_of_ble_eq_true rfl) dX4_init_68 (fun H locs hP hD hS => ?_)
  have hP : va_P D vwCl [(mo, .inr (4, [.ref q_1, .ref q_2, .ref q_3, .int 0, .int 0, .ref q_4, .ref q_5, .ref q_6, .ref q_7, .int (-1), .int 0, .int 0, .null, .int 0, .int 0, .int 0, .int 0, .int 0, .int 0, .int 0, .int 0])), (q_1, .inl (cI, 200, .inl (fun _ => 0))), (q_2, .inl (cI, 20, .inl (fun _ => 0))), (q_3, .inl (cI, 400, .inl (fun _ => 0))), (q_4, .inl (cI, 400, .inl (fun _ => 0))), (q_5, .inl (cI, 400, .inl (fun _ => 0))), (q_6, .inl (cI, 400, .inl (fun _ => 0))), (q_7, .inl (cI, 400, .inl (fun _ => 0)))] H := hP
  have hD : va_D A [(mo, .inr (4, [.ref q_1, .ref q_2, .ref q_3, .int 0, .int 0, .ref q_4, .ref q_5, .ref q_6, .ref q_7, .int (-1), .int 0, .int 0, .null, .int 0, .int 0, .int 0, .int 0, .int 0, .int 0, .int 0, .int 0])), (q_1, .inl (cI, 200, .inl (fun _ => 0))), (q_2, .inl (cI, 20, .inl (fun _ => 0))), (q_3, .inl (cI, 400, .inl (fun _ => 0))), (q_4, .inl (cI, 400, .inl (fun _ => 0))), (q_5, .inl (cI, 400, .inl (fun _ => 0))), (q_6, .inl (cI, 400, .inl (fun _ => 0))), (q_7, .inl (cI, 400, .inl (fun _ => 0)))] := hD
  refine lv_aload_n hx hb dX4_init_71 rfl (lv_at hl 0 rfl) ?_
  refine lv_sipush (v := nI 400) hx hb dX4_init_72 (by decide) ?_
  refine es_newa hx hb (hw _ xw_94) hK.1 hP hD hS hA (N' := 400) (by decide) (by decide) (Nat.le_trans (Nat.le_of_ble_eq_true rfl) hRc.1) (Nat.le_trans (Nat.le_of_ble_eq_true rfl) hRc.2) (by decide) dX4_init_75 (fun q_8 H hP hD hS => ?_)
  have hP : va_P D vwCl [(mo, .inr (4, [.ref q_1, .ref q_2, .ref q_3, .int 0, .int 0, .ref q_4, .ref q_5, .ref q_6, .ref q_7, .int (-1), .int 0, .int 0, .null, .int 0, .int 0, .int 0, .int 0, .int 0, .int 0, .int 0, .int 0])), (q_1, .inl (cI, 200, .inl (fun _ => 0))), (q_2, .inl (cI, 20, .inl (fun _ => 0))), (q_3, .inl (cI, 400, .inl (fun _ => 0))), (q_4, .inl (cI, 400, .inl (fun _ => 0))), (q_5, .inl (cI, 400, .inl (fun _ => 0))), (q_6, .inl (cI, 400, .inl (fun _ => 0))), (q_7, .inl (cI, 400, .inl (fun _ => 0))), (q_8, .inl (cI, 400, .inl (fun _ => 0)))] H := hP
  have hD : va_D A [(mo, .inr (4, [.ref q_1, .ref q_2, .ref q_3, .int 0, .int 0, .ref q_4, .ref q_5, .ref q_6, .ref q_7, .int (-1), .int 0, .int 0, .null, .int 0, .int 0, .int 0, .int 0, .int 0, .int 0, .int 0, .int 0])), (q_1, .inl (cI, 200, .inl (fun _ => 0))), (q_2, .inl (cI, 20, .inl (fun _ => 0))), (q_3, .inl (cI, 400, .inl (fun _ => 0))), (q_4, .inl (cI, 400, .inl (fun _ => 0))), (q_5, .inl (cI, 400, .inl (fun _ => 0))), (q_6, .inl (cI, 400, .inl (fun _ => 0))), (q_7, .inl (cI, 400, .inl (fun _ => 0))), (q_8, .inl (cI, 400, .inl (fun _ => 0)))] := hD
  refine W.widen (k := 8) (n := 2620) (Nat.le_of_ble_eq_true rfl) (Nat.le_of_ble_eq_true rfl) ?_
  refine va_putF (D := D) (ci := 4) (v := .ref q_8) (ty := (.array .int)) (C := RX4) (T := TX4) (N := 21) hx hb hw iwX4 tyX4 tyX4_ok nmX4 hown hK.1 hP hD hS 0 rfl rfl 12 (by decide) (hw _ xw_265) (fun _ h9 => h9) rfl hin rfl (by decide +kernel) rfl rfl (Nat.le_of_ble_eq_true rfl) dX4_init_77 (fun H locs hP hD hS => ?_)
  have hP : va_P D vwCl [(mo, .inr (4, [.ref q_1, .ref q_2, .ref q_3, .int 0, .int 0, .ref q_4, .ref q_5, .ref q_6, .ref q_7, .int (-1), .int 0, .int 0, .ref q_8, .int 0, .int 0, .int 0, .int 0, .int 0, .int 0, .int 0, .int 0])), (q_1, .inl (cI, 200, .inl (fun _ => 0))), (q_2, .inl (cI, 20, .inl (fun _ => 0))), (q_3, .inl (cI, 400, .inl (fun _ => 0))), (q_4, .inl (cI, 400, .inl (fun _ => 0))), (q_5, .inl (cI, 400, .inl (fun _ => 0))), (q_6, .inl (cI, 400, .inl (fun _ => 0))), (q_7, .inl (cI, 400, .inl (fun _ => 0))), (q_8, .inl (cI, 400, .inl (fun _ => 0)))] H := hP
  have hD : va_D A [(mo, .inr (4, [.ref q_1, .ref q_2, .ref q_3, .int 0, .int 0, .ref q_4, .ref q_5, .ref q_6, .ref q_7, .int (-1), .int 0, .int 0, .ref q_8, .int 0, .int 0, .int 0, .int 0, .int 0, .int 0, .int 0, .int 0])), (q_1, .inl (cI, 200, .inl (fun _ => 0))), (q_2, .inl (cI, 20, .inl (fun _ => 0))), (q_3, .inl (cI, 400, .inl (fun _ => 0))), (q_4, .inl (cI, 400, .inl (fun _ => 0))), (q_5, .inl (cI, 400, .inl (fun _ => 0))), (q_6, .inl (cI, 400, .inl (fun _ => 0))), (q_7, .inl (cI, 400, .inl (fun _ => 0))), (q_8, .inl (cI, 400, .inl (fun _ => 0)))] := hD
  refine lv_aload_n hx hb dX4_init_80 rfl (lv_at hl 0 rfl) ?_
  refine es_cv (wr := [(q_3, .inl (cI, 400, .inl (fun _ => 0))), (q_4, .inl (cI, 400, .inl (fun _ => 0))), (q_5, .inl (cI, 400, .inl (fun _ => 0))), (q_6, .inl (cI, 400, .inl (fun _ => 0))), (q_7, .inl (cI, 400, .inl (fun _ => 0))), (q_8, .inl (cI, 400, .inl (fun _ => 0)))]) (va_runV (As := []) (rest := []) ⟨hx, hb, hml, hown, hw⟩ (c_X4_forget l D cI H.size mo q_1 q_2 q_3 q_4 q_5 q_6 q_7 q_8 (fun _ => 0) (fun _ => 0) 0 0 (-1) 0 0 0 0 0 0 0 0 0 0 ) (cwV 0 hw (es_v xw_269 xw_270 xw_271 xw_272 xw_8) rfl rfl rfl kv_X4_forget ⟨Nat.le_trans (Nat.le_of_ble_eq_true rfl) hRm.1, Nat.le_trans (Nat.le_of_ble_eq_true rfl) hRm.2⟩) (es_WV hK (hP.sub (ws' := [(mo, .inr (4, [.ref q_1, .ref q_2, .ref q_3, .int 0, .int 0, .ref q_4, .ref q_5, .ref q_6, .ref q_7, .int (-1), .int 0, .int 0, .ref q_8, .int 0, .int 0, .int 0, .int 0, .int 0, .int 0, .int 0, .int 0])), (q_1, .inl (cI, 200, .inl (fun _ => 0))), (q_2, .inl (cI, 20, .inl (fun _ => 0)))]) [0, 1, 2] rfl) (hD.sub (ws' := [(mo, .inr (4, [.ref q_1, .ref q_2, .ref q_3, .int 0, .int 0, .ref q_4, .ref q_5, .ref q_6, .ref q_7, .int (-1), .int 0, .int 0, .ref q_8, .int 0, .int 0, .int 0, .int 0, .int 0, .int 0, .int 0, .int 0])), (q_1, .inl (cI, 200, .inl (fun _ => 0))), (q_2, .inl (cI, 20, .inl (fun _ => 0)))]) [0, 1, 2] (by decide) rfl) rfl rfl) rfl rfl hl.1 rfl (lv_room (Nat.le_of_ble_eq_true rfl)) dX4_init_81 ⟨(Nat.le_trans (Nat.le_of_ble_eq_true rfl) hRc.1), (Nat.le_trans (Nat.le_of_ble_eq_true rfl) hRc.2)⟩) hP hD hS hA [0, 1, 2] [3, 4, 5, 6, 7, 8] rfl rfl (by decide) (by decide) (fun u_9 H locs hu_9 hP hD hS => ?_)
  have hP : va_P D vwCl [(q_3, .inl (cI, 400, .inl (fun _ => 0))), (q_4, .inl (cI, 400, .inl (fun _ => 0))), (q_5, .inl (cI, 400, .inl (fun _ => 0))), (q_6, .inl (cI, 400, .inl (fun _ => 0))), (q_7, .inl (cI, 400, .inl (fun _ => 0))), (q_8, .inl (cI, 400, .inl (fun _ => 0))), (mo, .inr (4, [.ref q_1, .ref q_2, .ref q_3, .int (nI 0), .int (nI 0), .ref q_4, .ref q_5, .ref q_6, .ref q_7, .int (-1), .int (nI 0), .int 0, .ref q_8, .int 0, .int 0, .int (nI 0), .int (nI 0), .int (nI 0), .int 0, .int 0, .int 0])), (q_1, .inl (cI, 200, .inl (fun _ => -1))), (q_2, .inl (cI, 20, .inl (fun _ => -1)))] H := hP
  have hD : va_D A [(q_3, .inl (cI, 400, .inl (fun _ => 0))), (q_4, .inl (cI, 400, .inl (fun _ => 0))), (q_5, .inl (cI, 400, .inl (fun _ => 0))), (q_6, .inl (cI, 400, .inl (fun _ => 0))), (q_7, .inl (cI, 400, .inl (fun _ => 0))), (q_8, .inl (cI, 400, .inl (fun _ => 0))), (mo, .inr (4, [.ref q_1, .ref q_2, .ref q_3, .int (nI 0), .int (nI 0), .ref q_4, .ref q_5, .ref q_6, .ref q_7, .int (-1), .int (nI 0), .int 0, .ref q_8, .int 0, .int 0, .int (nI 0), .int (nI 0), .int (nI 0), .int 0, .int 0, .int 0])), (q_1, .inl (cI, 200, .inl (fun _ => -1))), (q_2, .inl (cI, 20, .inl (fun _ => -1)))] := hD
  refine W.widen (k := 8) (n := 2620) (Nat.le_of_ble_eq_true rfl) (Nat.le_of_ble_eq_true rfl) ?_
  exact W.vret hx hb hr (fun zt ht hW => ⟨⟨((q_1, q_2, q_3), (q_4, q_5, q_6, q_7), q_8), rfl, trivial, ⟨by rw [ht]; exact hP.sub [6, 7, 8, 0, 1, 2, 3, 4, 5] rfl, hD.sub [6, 7, 8, 0, 1, 2, 3, 4, 5] (by decide) rfl⟩⟩, hS.F ht⟩) hS.2.2 dX4_init_84
set_option maxHeartbeats 1000000 in
set_option maxRecDepth 100000 in
/-- X4.arrow  -/
theorem c_X4_arrow (l : Launch) (D : va_G) (cI : ClassId) (sz : Nat) (mo : Nat) (ma : Nat) (mk : Nat) (mtx : Nat) (m0 : Nat) (m1 : Nat) (m2 : Nat) (m3 : Nat) (mb : Nat) (ar : Nat → Int32) (n : Nat) (tn : Nat) (fl : Int32) (fk : Int32) (ot : Int32) (of_ : Int32) (os_ : Int32) (rd : Nat) (sc : Nat) (ed : Nat) (ts : Int32) (tkd : Int32) (tl : Int32) (x : Int32) (y : Int32) (z : Int32) (hn : n ≤ 400) : Met l yX4_arrow (Cond.code yX4_arrow cX4_arrow 4 (some .boolean) :: es_T) { frames := 0, cells := 0, slots := 0, locals := 0 } (va_Pc [.ref mo, .int x, .int y, .int z] (es_W D cI sz [(mo, .inr (4, [.ref ma, .ref mk, .ref mtx, .int (nI n), .int (nI tn), .ref m0, .ref m1, .ref m2, .ref m3, .int fl, .int fk, .int ot, .ref mb, .int of_, .int os_, .int (nI rd), .int (nI sc), .int (nI ed), .int ts, .int tkd, .int tl])), (ma, .inl (cI, 200, .inl ar))])) (va_Qi (fun q u => (q = nI 1 ∧ (n = 0 ∧ es_okA x y z) ∧ u = upd ar (10 * x.toNatClampNeg + y.toNatClampNeg) z) ∨ (q = nI 0 ∧ ¬ (n = 0 ∧ es_okA x y z) ∧ u = ar)) (fun (u : Nat → Int32) zt => va_P D vwCl [(mo, .inr (4, [.ref ma, .ref mk, .ref mtx, .int (nI n), .int (nI tn), .ref m0, .ref m1, .ref m2, .ref m3, .int fl, .int fk, .int ot, .ref mb, .int of_, .int os_, .int (nI rd), .int (nI sc), .int (nI ed), .int ts, .int tkd, .int tl])), (ma, .inl (cI, 200, .inl u))] zt.heap ∧ va_D (va_A [(mo, .inr (4, [.ref ma, .ref mk, .ref mtx, .int (nI n), .int (nI tn), .ref m0, .ref m1, .ref m2, .ref m3, .int fl, .int fk, .int ot, .ref mb, .int of_, .int os_, .int (nI rd), .int (nI sc), .int (nI ed), .int ts, .int tkd, .int tl])), (ma, .inl (cI, 200, .inl ar))] sz) [(mo, .inr (4, [.ref ma, .ref mk, .ref mtx, .int (nI n), .int (nI tn), .ref m0, .ref m1, .ref m2, .ref m3, .int fl, .int fk, .int ot, .ref mb, .int of_, .int os_, .int (nI rd), .int (nI sc), .int (nI ed), .int ts, .int tkd, .int tl])), (ma, .inl (cI, 200, .inl u))]) (va_A [(mo, .inr (4, [.ref ma, .ref mk, .ref mtx, .int (nI n), .int (nI tn), .ref m0, .ref m1, .ref m2, .ref m3, .int fl, .int fk, .int ot, .ref mb, .int of_, .int os_, .int (nI rd), .int (nI sc), .int (nI ed), .int ts, .int tkd, .int tl])), (ma, .inl (cI, 200, .inl ar))] sz)) 0 0 (va_A [(mo, .inr (4, [.ref ma, .ref mk, .ref mtx, .int (nI n), .int (nI tn), .ref m0, .ref m1, .ref m2, .ref m3, .int fl, .int fk, .int ot, .ref mb, .int of_, .int os_, .int (nI rd), .int (nI sc), .int (nI ed), .int ts, .int tkd, .int tl])), (ma, .inl (cI, 200, .inl ar))] sz) := by
  refine Met.ofW (cc := cX4_arrow) (maxL := 4) (ret := (some .boolean)) (by decide) rfl ?_
  intro p e s m args below meth c s₁ B hml hv
  obtain ⟨rfl, hsz, hP, hK, hD0⟩ := hv
  have hx := B.exec
  have hb := B.bytes
  have hr := B.returns
  have hts := atoms_spec (ws := (Cond.code yX4_arrow cX4_arrow 4 (some .boolean) :: es_T)) B.pre
  have hw : ∀ w ∈ es_T, w.before _ s = true := fun w h => hts w (List.mem_cons_of_mem _ h)
  have hown : s.vm.findClass RX4 = some m.cls := findClass_of_methodNamed B.named
  have hlocks := B.notSynchronized
  have hRm : 0 ≤ (headSpec (Cond.code yX4_arrow cX4_arrow 4 (some .boolean) :: es_T) { frames := 0, cells := 0, slots := 0, locals := 0 }).room.frames ∧ 0 ≤ (headSpec (Cond.code yX4_arrow cX4_arrow 4 (some .boolean) :: es_T) { frames := 0, cells := 0, slots := 0, locals := 0 }).room.locals := ⟨Nat.le_refl _, Nat.le_refl _⟩
  have hRc : 0 ≤ (headSpec (Cond.code yX4_arrow cX4_arrow 4 (some .boolean) :: es_T) { frames := 0, cells := 0, slots := 0, locals := 0 }).room.cells ∧ 0 ≤ (headSpec (Cond.code yX4_arrow cX4_arrow 4 (some .boolean) :: es_T) { frames := 0, cells := 0, slots := 0, locals := 0 }).room.slots := ⟨Nat.le_refl _, Nat.le_refl _⟩
  subst hsz
  have hD := hD0.self (sz := s.heap.size)
  generalize hAe : va_A [(mo, .inr (4, [.ref ma, .ref mk, .ref mtx, .int (nI n), .int (nI tn), .ref m0, .ref m1, .ref m2, .ref m3, .int fl, .int fk, .int ot, .ref mb, .int of_, .int os_, .int (nI rd), .int (nI sc), .int (nI ed), .int ts, .int tkd, .int tl])), (ma, .inl (cI, 200, .inl ar))] s.heap.size = A at hD ⊢
  have hA : ∀ q : Nat, s.heap.size ≤ q → A q := fun q h => by rw [← hAe]; exact Or.inr h
  have hS : va_S A s.heap s.heap [] := va_S.rf
  have hl := lv_entry ([.ref mo, .int x, .int y, .int z]) (n := 4) (Nat.le_of_ble_eq_true rfl)
  rw [lg_entry_eq]
  generalize (lg_sl ([.ref mo, .int x, .int y, .int z]) ++ List.replicate (4 - (lg_sl ([.ref mo, .int x, .int y, .int z])).length) Slot.unset).toArray = ls at hl ⊢
  have hl : lv_has ls 4 [(0, .ref mo), (1, .int x), (2, .int y), (3, .int z)] := hl
  refine lv_aload_n hx hb dX4_arrow_0 rfl (lv_at hl 0 rfl) ?_
  refine va_get (D := D) (ci := 4) (v := .int (nI n)) (C := RX4) (T := TX4) (N := 21) hx hb hw iwX4 hown hK.1 hP 0 rfl rfl 3 (by decide) (hw _ xw_260) (fun _ h9 => h9) rfl dX4_arrow_1 ?_
  refine lv_if_gt (tgt := 38) hx hb dX4_arrow_4 (by decide) (fun c_4 => ?_) (fun c_4 => ?_)
  ·
    have c_4 := (nI_ltI (a := 0) (b := n) (by omega) (by omega)).mp c_4
    refine lv_iconst (v := nI 0) hx hb dX4_arrow_38 (by decide) ?_
    exact W.zret (v := nI 0) hx hb hr rfl (fun zt ht hW => ⟨⟨_, ar, rfl, Or.inr ⟨rfl, (fun h => by exact absurd h.1 (by omega)), rfl⟩, ⟨by rw [ht]; exact hP.sub [0, 1] rfl, hD.sub [0, 1] (by decide) rfl⟩⟩, hS.F ht⟩) hS.2.2 dX4_arrow_39
  ·
    have c_4 := (mt (nI_ltI (a := 0) (b := n) (by omega) (by omega)).mpr c_4)
    refine lv_iload_n hx hb dX4_arrow_7 rfl (lv_at hl 1 rfl) ?_
    refine lv_if_lt (tgt := 38) hx hb dX4_arrow_8 (by decide) (fun c_8 => ?_) (fun c_8 => ?_)
    ·
      refine lv_iconst (v := nI 0) hx hb dX4_arrow_38 (by decide) ?_
      exact W.zret (v := nI 0) hx hb hr rfl (fun zt ht hW => ⟨⟨_, ar, rfl, Or.inr ⟨rfl, (fun h => by exact absurd c_8 (Int32.not_lt.mpr h.2.1.1)), rfl⟩, ⟨by rw [ht]; exact hP.sub [0, 1] rfl, hD.sub [0, 1] (by decide) rfl⟩⟩, hS.F ht⟩) hS.2.2 dX4_arrow_39
    ·
      refine lv_iload_n hx hb dX4_arrow_11 rfl (lv_at hl 1 rfl) ?_
      refine lv_bipush (v := nI 20) hx hb dX4_arrow_12 (by decide) ?_
      refine lv_icmp_ge (tgt := 38) hx hb dX4_arrow_14 (by decide) (fun c_14 => ?_) (fun c_14 => ?_)
      ·
        refine lv_iconst (v := nI 0) hx hb dX4_arrow_38 (by decide) ?_
        exact W.zret (v := nI 0) hx hb hr rfl (fun zt ht hW => ⟨⟨_, ar, rfl, Or.inr ⟨rfl, (fun h => by exact absurd h.2.1.2 (Int32.not_lt.mpr c_14)), rfl⟩, ⟨by rw [ht]; exact hP.sub [0, 1] rfl, hD.sub [0, 1] (by decide) rfl⟩⟩, hS.F ht⟩) hS.2.2 dX4_arrow_39
      ·
        refine lv_iload_n hx hb dX4_arrow_17 rfl (lv_at hl 2 rfl) ?_
        refine lv_if_lt (tgt := 38) hx hb dX4_arrow_18 (by decide) (fun c_18 => ?_) (fun c_18 => ?_)
        ·
          refine lv_iconst (v := nI 0) hx hb dX4_arrow_38 (by decide) ?_
          exact W.zret (v := nI 0) hx hb hr rfl (fun zt ht hW => ⟨⟨_, ar, rfl, Or.inr ⟨rfl, (fun h => by exact absurd c_18 (Int32.not_lt.mpr h.2.2.1.1)), rfl⟩, ⟨by rw [ht]; exact hP.sub [0, 1] rfl, hD.sub [0, 1] (by decide) rfl⟩⟩, hS.F ht⟩) hS.2.2 dX4_arrow_39
        ·
          refine lv_iload_n hx hb dX4_arrow_21 rfl (lv_at hl 2 rfl) ?_
          refine lv_bipush (v := nI 10) hx hb dX4_arrow_22 (by decide) ?_
          refine lv_icmp_ge (tgt := 38) hx hb dX4_arrow_24 (by decide) (fun c_24 => ?_) (fun c_24 => ?_)
          ·
            refine lv_iconst (v := nI 0) hx hb dX4_arrow_38 (by decide) ?_
            exact W.zret (v := nI 0) hx hb hr rfl (fun zt ht hW => ⟨⟨_, ar, rfl, Or.inr ⟨rfl, (fun h => by exact absurd h.2.2.1.2 (Int32.not_lt.mpr c_24)), rfl⟩, ⟨by rw [ht]; exact hP.sub [0, 1] rfl, hD.sub [0, 1] (by decide) rfl⟩⟩, hS.F ht⟩) hS.2.2 dX4_arrow_39
          ·
            refine lv_iload_n hx hb dX4_arrow_27 rfl (lv_at hl 3 rfl) ?_
            refine lv_iconst (v := (-1)) hx hb dX4_arrow_28 (by decide) ?_
            refine lv_icmp_lt (tgt := 38) hx hb dX4_arrow_29 (by decide) (fun c_29 => ?_) (fun c_29 => ?_)
            ·
              refine lv_iconst (v := nI 0) hx hb dX4_arrow_38 (by decide) ?_
              exact W.zret (v := nI 0) hx hb hr rfl (fun zt ht hW => ⟨⟨_, ar, rfl, Or.inr ⟨rfl, (fun h => by exact (es_zok.mp h.2.2.2).1 c_29), rfl⟩, ⟨by rw [ht]; exact hP.sub [0, 1] rfl, hD.sub [0, 1] (by decide) rfl⟩⟩, hS.F ht⟩) hS.2.2 dX4_arrow_39
            ·
              refine lv_iload_n hx hb dX4_arrow_32 rfl (lv_at hl 3 rfl) ?_
              refine lv_bipush (v := nI 20) hx hb dX4_arrow_33 (by decide) ?_
              refine lv_icmp_lt (tgt := 40) hx hb dX4_arrow_35 (by decide) (fun c_35 => ?_) (fun c_35 => ?_)
              ·
                obtain ⟨x0, hx0, rfl⟩ := es_nat (Int32.not_lt.mp c_8) (Int32.not_le.mp c_14) (by decide)
                obtain ⟨y0, hy0, rfl⟩ := es_nat (Int32.not_lt.mp c_18) (Int32.not_le.mp c_24) (by decide)
                refine lv_aload_n hx hb dX4_arrow_40 rfl (lv_at hl 0 rfl) ?_
                refine va_get (D := D) (ci := 4) (v := .ref ma) (C := RX4) (T := TX4) (N := 21) hx hb hw iwX4 hown hK.1 hP 0 rfl rfl 0 (by decide) (hw _ xw_261) (fun _ h9 => h9) rfl dX4_arrow_41 ?_
                refine lv_bipush (v := nI 10) hx hb dX4_arrow_44 (by decide) ?_
                refine lv_iload_n hx hb dX4_arrow_46 rfl (lv_at hl 1 rfl) ?_
                refine lv_imul hx hb dX4_arrow_47 ?_
                refine es_top (y := nI (10 * x0)) (pk_mul _ _) ?_
                refine lv_iload_n hx hb dX4_arrow_48 rfl (lv_at hl 2 rfl) ?_
                refine lv_iadd hx hb dX4_arrow_49 ?_
                refine es_top (y := nI ((10 * x0) + y0)) (nI_add _ _) ?_
                refine lv_iload_n hx hb dX4_arrow_50 rfl (lv_at hl 3 rfl) ?_
                refine es_iast hx hb hK.1 hP hD hS 1 0 rfl rfl (by omega) (Nat.le_of_ble_eq_true rfl) dX4_arrow_51 (fun H locs hP hD hS => ?_)
                have hP : va_P D vwCl [(mo, .inr (4, [.ref ma, .ref mk, .ref mtx, .int (nI n), .int (nI tn), .ref m0, .ref m1, .ref m2, .ref m3, .int fl, .int fk, .int ot, .ref mb, .int of_, .int os_, .int (nI rd), .int (nI sc), .int (nI ed), .int ts, .int tkd, .int tl])), (ma, .inl (cI, 200, .inl (upd ar ((10 * x0) + y0) z)))] H := hP
                have hD : va_D A [(mo, .inr (4, [.ref ma, .ref mk, .ref mtx, .int (nI n), .int (nI tn), .ref m0, .ref m1, .ref m2, .ref m3, .int fl, .int fk, .int ot, .ref mb, .int of_, .int os_, .int (nI rd), .int (nI sc), .int (nI ed), .int ts, .int tkd, .int tl])), (ma, .inl (cI, 200, .inl (upd ar ((10 * x0) + y0) z)))] := hD
                refine lv_iconst (v := nI 1) hx hb dX4_arrow_52 (by decide) ?_
                exact W.zret (v := nI 1) hx hb hr rfl (fun zt ht hW => ⟨⟨_, (upd ar (10 * x0 + y0) z), rfl, Or.inl ⟨rfl, ⟨by omega, ⟨Int32.not_lt.mp c_8, Int32.not_le.mp c_14⟩, ⟨Int32.not_lt.mp c_18, Int32.not_le.mp c_24⟩, es_zok.mpr ⟨c_29, c_35⟩⟩, (by rw [nI_clamp (by omega), nI_clamp (by omega)])⟩, ⟨by rw [ht]; exact hP.sub [0, 1] rfl, hD.sub [0, 1] (by decide) rfl⟩⟩, hS.F ht⟩) hS.2.2 dX4_arrow_53
              ·
                refine lv_iconst (v := nI 0) hx hb dX4_arrow_38 (by decide) ?_
                exact W.zret (v := nI 0) hx hb hr rfl (fun zt ht hW => ⟨⟨_, ar, rfl, Or.inr ⟨rfl, (fun h => by exact c_35 (es_zok.mp h.2.2.2).2), rfl⟩, ⟨by rw [ht]; exact hP.sub [0, 1] rfl, hD.sub [0, 1] (by decide) rfl⟩⟩, hS.F ht⟩) hS.2.2 dX4_arrow_39
set_option maxHeartbeats 1000000 in
set_option maxRecDepth 100000 in
/-- X4.kind  -/
theorem c_X4_kind (l : Launch) (D : va_G) (cI : ClassId) (sz : Nat) (mo : Nat) (ma : Nat) (mk : Nat) (mtx : Nat) (m0 : Nat) (m1 : Nat) (m2 : Nat) (m3 : Nat) (mb : Nat) (ki : Nat → Int32) (n : Nat) (tn : Nat) (fl : Int32) (fk : Int32) (ot : Int32) (of_ : Int32) (os_ : Int32) (rd : Nat) (sc : Nat) (ed : Nat) (ts : Int32) (tkd : Int32) (tl : Int32) (x : Int32) (y : Int32) (hn : n ≤ 400) : Met l yX4_kind (Cond.code yX4_kind cX4_kind 3 (some .boolean) :: es_T) { frames := 0, cells := 0, slots := 0, locals := 0 } (va_Pc [.ref mo, .int x, .int y] (es_W D cI sz [(mo, .inr (4, [.ref ma, .ref mk, .ref mtx, .int (nI n), .int (nI tn), .ref m0, .ref m1, .ref m2, .ref m3, .int fl, .int fk, .int ot, .ref mb, .int of_, .int os_, .int (nI rd), .int (nI sc), .int (nI ed), .int ts, .int tkd, .int tl])), (mk, .inl (cI, 20, .inl ki))])) (va_Qi (fun q u => (q = nI 1 ∧ (n = 0 ∧ es_okK x y) ∧ u = upd ki x.toNatClampNeg y) ∨ (q = nI 0 ∧ ¬ (n = 0 ∧ es_okK x y) ∧ u = ki)) (fun (u : Nat → Int32) zt => va_P D vwCl [(mo, .inr (4, [.ref ma, .ref mk, .ref mtx, .int (nI n), .int (nI tn), .ref m0, .ref m1, .ref m2, .ref m3, .int fl, .int fk, .int ot, .ref mb, .int of_, .int os_, .int (nI rd), .int (nI sc), .int (nI ed), .int ts, .int tkd, .int tl])), (mk, .inl (cI, 20, .inl u))] zt.heap ∧ va_D (va_A [(mo, .inr (4, [.ref ma, .ref mk, .ref mtx, .int (nI n), .int (nI tn), .ref m0, .ref m1, .ref m2, .ref m3, .int fl, .int fk, .int ot, .ref mb, .int of_, .int os_, .int (nI rd), .int (nI sc), .int (nI ed), .int ts, .int tkd, .int tl])), (mk, .inl (cI, 20, .inl ki))] sz) [(mo, .inr (4, [.ref ma, .ref mk, .ref mtx, .int (nI n), .int (nI tn), .ref m0, .ref m1, .ref m2, .ref m3, .int fl, .int fk, .int ot, .ref mb, .int of_, .int os_, .int (nI rd), .int (nI sc), .int (nI ed), .int ts, .int tkd, .int tl])), (mk, .inl (cI, 20, .inl u))]) (va_A [(mo, .inr (4, [.ref ma, .ref mk, .ref mtx, .int (nI n), .int (nI tn), .ref m0, .ref m1, .ref m2, .ref m3, .int fl, .int fk, .int ot, .ref mb, .int of_, .int os_, .int (nI rd), .int (nI sc), .int (nI ed), .int ts, .int tkd, .int tl])), (mk, .inl (cI, 20, .inl ki))] sz)) 0 0 (va_A [(mo, .inr (4, [.ref ma, .ref mk, .ref mtx, .int (nI n), .int (nI tn), .ref m0, .ref m1, .ref m2, .ref m3, .int fl, .int fk, .int ot, .ref mb, .int of_, .int os_, .int (nI rd), .int (nI sc), .int (nI ed), .int ts, .int tkd, .int tl])), (mk, .inl (cI, 20, .inl ki))] sz) := by
  refine Met.ofW (cc := cX4_kind) (maxL := 3) (ret := (some .boolean)) (by decide) rfl ?_
  intro p e s m args below meth c s₁ B hml hv
  obtain ⟨rfl, hsz, hP, hK, hD0⟩ := hv
  have hx := B.exec
  have hb := B.bytes
  have hr := B.returns
  have hts := atoms_spec (ws := (Cond.code yX4_kind cX4_kind 3 (some .boolean) :: es_T)) B.pre
  have hw : ∀ w ∈ es_T, w.before _ s = true := fun w h => hts w (List.mem_cons_of_mem _ h)
  have hown : s.vm.findClass RX4 = some m.cls := findClass_of_methodNamed B.named
  have hlocks := B.notSynchronized
  have hRm : 0 ≤ (headSpec (Cond.code yX4_kind cX4_kind 3 (some .boolean) :: es_T) { frames := 0, cells := 0, slots := 0, locals := 0 }).room.frames ∧ 0 ≤ (headSpec (Cond.code yX4_kind cX4_kind 3 (some .boolean) :: es_T) { frames := 0, cells := 0, slots := 0, locals := 0 }).room.locals := ⟨Nat.le_refl _, Nat.le_refl _⟩
  have hRc : 0 ≤ (headSpec (Cond.code yX4_kind cX4_kind 3 (some .boolean) :: es_T) { frames := 0, cells := 0, slots := 0, locals := 0 }).room.cells ∧ 0 ≤ (headSpec (Cond.code yX4_kind cX4_kind 3 (some .boolean) :: es_T) { frames := 0, cells := 0, slots := 0, locals := 0 }).room.slots := ⟨Nat.le_refl _, Nat.le_refl _⟩
  subst hsz
  have hD := hD0.self (sz := s.heap.size)
  generalize hAe : va_A [(mo, .inr (4, [.ref ma, .ref mk, .ref mtx, .int (nI n), .int (nI tn), .ref m0, .ref m1, .ref m2, .ref m3, .int fl, .int fk, .int ot, .ref mb, .int of_, .int os_, .int (nI rd), .int (nI sc), .int (nI ed), .int ts, .int tkd, .int tl])), (mk, .inl (cI, 20, .inl ki))] s.heap.size = A at hD ⊢
  have hA : ∀ q : Nat, s.heap.size ≤ q → A q := fun q h => by rw [← hAe]; exact Or.inr h
  have hS : va_S A s.heap s.heap [] := va_S.rf
  have hl := lv_entry ([.ref mo, .int x, .int y]) (n := 3) (Nat.le_of_ble_eq_true rfl)
  rw [lg_entry_eq]
  generalize (lg_sl ([.ref mo, .int x, .int y]) ++ List.replicate (3 - (lg_sl ([.ref mo, .int x, .int y])).length) Slot.unset).toArray = ls at hl ⊢
  have hl : lv_has ls 3 [(0, .ref mo), (1, .int x), (2, .int y)] := hl
  refine lv_aload_n hx hb dX4_kind_0 rfl (lv_at hl 0 rfl) ?_
  refine va_get (D := D) (ci := 4) (v := .int (nI n)) (C := RX4) (T := TX4) (N := 21) hx hb hw iwX4 hown hK.1 hP 0 rfl rfl 3 (by decide) (hw _ xw_260) (fun _ h9 => h9) rfl dX4_kind_1 ?_
  refine lv_if_gt (tgt := 28) hx hb dX4_kind_4 (by decide) (fun c_4 => ?_) (fun c_4 => ?_)
  ·
    have c_4 := (nI_ltI (a := 0) (b := n) (by omega) (by omega)).mp c_4
    refine lv_iconst (v := nI 0) hx hb dX4_kind_28 (by decide) ?_
    exact W.zret (v := nI 0) hx hb hr rfl (fun zt ht hW => ⟨⟨_, ki, rfl, Or.inr ⟨rfl, (fun h => by exact absurd h.1 (by omega)), rfl⟩, ⟨by rw [ht]; exact hP.sub [0, 1] rfl, hD.sub [0, 1] (by decide) rfl⟩⟩, hS.F ht⟩) hS.2.2 dX4_kind_29
  ·
    have c_4 := (mt (nI_ltI (a := 0) (b := n) (by omega) (by omega)).mpr c_4)
    refine lv_iload_n hx hb dX4_kind_7 rfl (lv_at hl 1 rfl) ?_
    refine lv_if_lt (tgt := 28) hx hb dX4_kind_8 (by decide) (fun c_8 => ?_) (fun c_8 => ?_)
    ·
      refine lv_iconst (v := nI 0) hx hb dX4_kind_28 (by decide) ?_
      exact W.zret (v := nI 0) hx hb hr rfl (fun zt ht hW => ⟨⟨_, ki, rfl, Or.inr ⟨rfl, (fun h => by exact absurd c_8 (Int32.not_lt.mpr h.2.1.1)), rfl⟩, ⟨by rw [ht]; exact hP.sub [0, 1] rfl, hD.sub [0, 1] (by decide) rfl⟩⟩, hS.F ht⟩) hS.2.2 dX4_kind_29
    ·
      refine lv_iload_n hx hb dX4_kind_11 rfl (lv_at hl 1 rfl) ?_
      refine lv_bipush (v := nI 20) hx hb dX4_kind_12 (by decide) ?_
      refine lv_icmp_ge (tgt := 28) hx hb dX4_kind_14 (by decide) (fun c_14 => ?_) (fun c_14 => ?_)
      ·
        refine lv_iconst (v := nI 0) hx hb dX4_kind_28 (by decide) ?_
        exact W.zret (v := nI 0) hx hb hr rfl (fun zt ht hW => ⟨⟨_, ki, rfl, Or.inr ⟨rfl, (fun h => by exact absurd h.2.1.2 (Int32.not_lt.mpr c_14)), rfl⟩, ⟨by rw [ht]; exact hP.sub [0, 1] rfl, hD.sub [0, 1] (by decide) rfl⟩⟩, hS.F ht⟩) hS.2.2 dX4_kind_29
      ·
        refine lv_iload_n hx hb dX4_kind_17 rfl (lv_at hl 2 rfl) ?_
        refine lv_iconst (v := (-1)) hx hb dX4_kind_18 (by decide) ?_
        refine lv_icmp_lt (tgt := 28) hx hb dX4_kind_19 (by decide) (fun c_19 => ?_) (fun c_19 => ?_)
        ·
          refine lv_iconst (v := nI 0) hx hb dX4_kind_28 (by decide) ?_
          exact W.zret (v := nI 0) hx hb hr rfl (fun zt ht hW => ⟨⟨_, ki, rfl, Or.inr ⟨rfl, (fun h => by exact absurd c_19 (Int32.not_lt.mpr h.2.2.1)), rfl⟩, ⟨by rw [ht]; exact hP.sub [0, 1] rfl, hD.sub [0, 1] (by decide) rfl⟩⟩, hS.F ht⟩) hS.2.2 dX4_kind_29
        ·
          refine lv_iload_n hx hb dX4_kind_22 rfl (lv_at hl 2 rfl) ?_
          refine lv_bipush (v := nI 99) hx hb dX4_kind_23 (by decide) ?_
          refine lv_icmp_le (tgt := 30) hx hb dX4_kind_25 (by decide) (fun c_25 => ?_) (fun c_25 => ?_)
          ·
            obtain ⟨x0, hx0, rfl⟩ := es_nat (Int32.not_lt.mp c_8) (Int32.not_le.mp c_14) (by decide)
            refine lv_aload_n hx hb dX4_kind_30 rfl (lv_at hl 0 rfl) ?_
            refine va_get (D := D) (ci := 4) (v := .ref mk) (C := RX4) (T := TX4) (N := 21) hx hb hw iwX4 hown hK.1 hP 0 rfl rfl 1 (by decide) (hw _ xw_293) (fun _ h9 => h9) rfl dX4_kind_31 ?_
            refine lv_iload_n hx hb dX4_kind_34 rfl (lv_at hl 1 rfl) ?_
            refine lv_iload_n hx hb dX4_kind_35 rfl (lv_at hl 2 rfl) ?_
            refine es_iast hx hb hK.1 hP hD hS 1 0 rfl rfl (by omega) (Nat.le_of_ble_eq_true rfl) dX4_kind_36 (fun H locs hP hD hS => ?_)
            have hP : va_P D vwCl [(mo, .inr (4, [.ref ma, .ref mk, .ref mtx, .int (nI n), .int (nI tn), .ref m0, .ref m1, .ref m2, .ref m3, .int fl, .int fk, .int ot, .ref mb, .int of_, .int os_, .int (nI rd), .int (nI sc), .int (nI ed), .int ts, .int tkd, .int tl])), (mk, .inl (cI, 20, .inl (upd ki x0 y)))] H := hP
            have hD : va_D A [(mo, .inr (4, [.ref ma, .ref mk, .ref mtx, .int (nI n), .int (nI tn), .ref m0, .ref m1, .ref m2, .ref m3, .int fl, .int fk, .int ot, .ref mb, .int of_, .int os_, .int (nI rd), .int (nI sc), .int (nI ed), .int ts, .int tkd, .int tl])), (mk, .inl (cI, 20, .inl (upd ki x0 y)))] := hD
            refine lv_iconst (v := nI 1) hx hb dX4_kind_37 (by decide) ?_
            exact W.zret (v := nI 1) hx hb hr rfl (fun zt ht hW => ⟨⟨_, (upd ki x0 y), rfl, Or.inl ⟨rfl, ⟨by omega, ⟨Int32.not_lt.mp c_8, Int32.not_le.mp c_14⟩, Int32.not_lt.mp c_19, es_y99.mp c_25⟩, (by rw [nI_clamp (by omega)])⟩, ⟨by rw [ht]; exact hP.sub [0, 1] rfl, hD.sub [0, 1] (by decide) rfl⟩⟩, hS.F ht⟩) hS.2.2 dX4_kind_38
          ·
            refine lv_iconst (v := nI 0) hx hb dX4_kind_28 (by decide) ?_
            exact W.zret (v := nI 0) hx hb hr rfl (fun zt ht hW => ⟨⟨_, ki, rfl, Or.inr ⟨rfl, (fun h => by exact c_25 (es_y99.mpr h.2.2.2)), rfl⟩, ⟨by rw [ht]; exact hP.sub [0, 1] rfl, hD.sub [0, 1] (by decide) rfl⟩⟩, hS.F ht⟩) hS.2.2 dX4_kind_29
set_option maxHeartbeats 1000000 in
set_option maxRecDepth 100000 in
/-- X4.token  -/
theorem c_X4_token (l : Launch) (D : va_G) (cI : ClassId) (mo : Nat) (ma : Nat) (mk : Nat) (mtx : Nat) (m0 : Nat) (m1 : Nat) (m2 : Nat) (m3 : Nat) (mb : Nat) (M : Nat → Nat → Int32) (n : Nat) (tn : Nat) (fl : Int32) (fk : Int32) (ot : Int32) (of_ : Int32) (os_ : Int32) (rd : Nat) (sc : Nat) (ed : Nat) (ts : Int32) (tkd : Int32) (tl : Int32) (x : Int32) (y : Int32) (htn : tn ≤ 400) : Met l yX4_token (Cond.code yX4_token cX4_token 3 (some .int) :: es_T) { frames := 0, cells := 0, slots := 0, locals := 0 } (va_Pc [.ref mo, .int x, .int y] (es_R D cI [(mo, .inr (4, [.ref ma, .ref mk, .ref mtx, .int (nI n), .int (nI tn), .ref m0, .ref m1, .ref m2, .ref m3, .int fl, .int fk, .int ot, .ref mb, .int of_, .int os_, .int (nI rd), .int (nI sc), .int (nI ed), .int ts, .int tkd, .int tl])), (m0, .inl (cI, 400, .inl (M 0))), (m1, .inl (cI, 400, .inl (M 1))), (m2, .inl (cI, 400, .inl (M 2))), (m3, .inl (cI, 400, .inl (M 3)))])) (vp_Si (fun r => r = if 0 ≤ x ∧ x < nI tn then es_tw M y x else -1)) 0 0 (fun _ => False) := by
  refine Met.ofW (cc := cX4_token) (maxL := 3) (ret := (some .int)) (by decide) rfl ?_
  intro p e s m args below meth c s₁ B hml hv
  obtain ⟨rfl, hP, hK⟩ := hv
  have hx := B.exec
  have hb := B.bytes
  have hr := B.returns
  have hts := atoms_spec (ws := (Cond.code yX4_token cX4_token 3 (some .int) :: es_T)) B.pre
  have hw : ∀ w ∈ es_T, w.before _ s = true := fun w h => hts w (List.mem_cons_of_mem _ h)
  have hown : s.vm.findClass RX4 = some m.cls := findClass_of_methodNamed B.named
  have hlocks := B.notSynchronized
  have hRm : 0 ≤ (headSpec (Cond.code yX4_token cX4_token 3 (some .int) :: es_T) { frames := 0, cells := 0, slots := 0, locals := 0 }).room.frames ∧ 0 ≤ (headSpec (Cond.code yX4_token cX4_token 3 (some .int) :: es_T) { frames := 0, cells := 0, slots := 0, locals := 0 }).room.locals := ⟨Nat.le_refl _, Nat.le_refl _⟩
  have hRc : 0 ≤ (headSpec (Cond.code yX4_token cX4_token 3 (some .int) :: es_T) { frames := 0, cells := 0, slots := 0, locals := 0 }).room.cells ∧ 0 ≤ (headSpec (Cond.code yX4_token cX4_token 3 (some .int) :: es_T) { frames := 0, cells := 0, slots := 0, locals := 0 }).room.slots := ⟨Nat.le_refl _, Nat.le_refl _⟩
  have hl := lv_entry ([.ref mo, .int x, .int y]) (n := 3) (Nat.le_of_ble_eq_true rfl)
  rw [lg_entry_eq]
  generalize (lg_sl ([.ref mo, .int x, .int y]) ++ List.replicate (3 - (lg_sl ([.ref mo, .int x, .int y])).length) Slot.unset).toArray = ls at hl ⊢
  have hl : lv_has ls 3 [(0, .ref mo), (1, .int x), (2, .int y)] := hl
  refine lv_iload_n hx hb dX4_token_0 rfl (lv_at hl 1 rfl) ?_
  refine lv_if_lt (tgt := 12) hx hb dX4_token_1 (by decide) (fun c_1 => ?_) (fun c_1 => ?_)
  ·
    refine lv_iconst (v := (-1)) hx hb dX4_token_12 (by decide) ?_
    exact W.iret (v := (-1)) hx hb hr (fun zt ht hW => ⟨_, rfl, (by show _ = _; first | (rw [if_neg (fun h => absurd c_1 (Int32.not_lt.mpr h.1))]; done) | (rw [if_neg (fun h => c_9 h.2)]; done)), ht⟩) (fun _ h => by cases h) dX4_token_13
  ·
    refine lv_iload_n hx hb dX4_token_4 rfl (lv_at hl 1 rfl) ?_
    refine lv_aload_n hx hb dX4_token_5 rfl (lv_at hl 0 rfl) ?_
    refine va_get (D := D) (ci := 4) (v := .int (nI tn)) (C := RX4) (T := TX4) (N := 21) hx hb hw iwX4 hown hK.1 hP 0 rfl rfl 4 (by decide) (hw _ xw_268) (fun _ h9 => h9) rfl dX4_token_6 ?_
    refine lv_icmp_lt (tgt := 14) hx hb dX4_token_9 (by decide) (fun c_9 => ?_) (fun c_9 => ?_)
    ·
      refine lv_iload_n hx hb dX4_token_14 rfl (lv_at hl 2 rfl) ?_
      refine lv_if_ne (tgt := 27) hx hb dX4_token_15 (by decide) (fun c_15 => ?_) (fun c_15 => ?_)
      ·
        refine lv_iload_n hx hb dX4_token_27 rfl (lv_at hl 2 rfl) ?_
        refine lv_iconst (v := nI 1) hx hb dX4_token_28 (by decide) ?_
        refine lv_icmp_ne (tgt := 41) hx hb dX4_token_29 (by decide) (fun c_29 => ?_) (fun c_29 => ?_)
        ·
          refine lv_iload_n hx hb dX4_token_41 rfl (lv_at hl 2 rfl) ?_
          refine lv_iconst (v := nI 2) hx hb dX4_token_42 (by decide) ?_
          refine lv_icmp_ne (tgt := 55) hx hb dX4_token_43 (by decide) (fun c_43 => ?_) (fun c_43 => ?_)
          ·
            refine lv_iload_n hx hb dX4_token_55 rfl (lv_at hl 2 rfl) ?_
            refine lv_iconst (v := nI 3) hx hb dX4_token_56 (by decide) ?_
            refine lv_icmp_ne (tgt := 69) hx hb dX4_token_57 (by decide) (fun c_57 => ?_) (fun c_57 => ?_)
            ·
              refine lv_iconst (v := (-1)) hx hb dX4_token_69 (by decide) ?_
              exact W.iret (v := (-1)) hx hb hr (fun zt ht hW => ⟨_, rfl, (by show _ = _; rw [if_pos ⟨Int32.not_lt.mp c_1, c_9⟩]; unfold es_tw; first | (rw [if_pos c_15]; done) | (rw [if_neg c_15, if_pos (show y = 1 from c_29)]; done) | (rw [if_neg c_15, if_neg (show ¬ y = 1 from c_29), if_pos (show y = 2 from c_43)]; done) | (rw [if_neg c_15, if_neg (show ¬ y = 1 from c_29), if_neg (show ¬ y = 2 from c_43), if_pos (show y = 3 from c_57)]; done) | (rw [if_neg c_15, if_neg (show ¬ y = 1 from c_29), if_neg (show ¬ y = 2 from c_43), if_neg (show ¬ y = 3 from c_57)]; done)), ht⟩) (fun _ h => by cases h) dX4_token_70
            ·
              refine lv_aload_n hx hb dX4_token_60 rfl (lv_at hl 0 rfl) ?_
              refine va_get (D := D) (ci := 4) (v := .ref m3) (C := RX4) (T := TX4) (N := 21) hx hb hw iwX4 hown hK.1 hP 0 rfl rfl 8 (by decide) (hw _ xw_280) (fun _ h9 => h9) rfl dX4_token_61 ?_
              refine lv_iload_n hx hb dX4_token_64 rfl (lv_at hl 1 rfl) ?_
              refine va_iald hx hb hK.1 hP 4 0 rfl rfl (es_vin ⟨Int32.not_lt.mp c_1, c_9⟩ htn (by decide)) dX4_token_65 ?_
              refine lv_goto (tgt := 70) hx hb dX4_token_66 (by decide) ?_
              exact W.iret (v := (M 3) (x).toNatClampNeg) hx hb hr (fun zt ht hW => ⟨_, rfl, (by show _ = _; rw [if_pos ⟨Int32.not_lt.mp c_1, c_9⟩]; unfold es_tw; first | (rw [if_pos c_15]; done) | (rw [if_neg c_15, if_pos (show y = 1 from c_29)]; done) | (rw [if_neg c_15, if_neg (show ¬ y = 1 from c_29), if_pos (show y = 2 from c_43)]; done) | (rw [if_neg c_15, if_neg (show ¬ y = 1 from c_29), if_neg (show ¬ y = 2 from c_43), if_pos (show y = 3 from c_57)]; done) | (rw [if_neg c_15, if_neg (show ¬ y = 1 from c_29), if_neg (show ¬ y = 2 from c_43), if_neg (show ¬ y = 3 from c_57)]; done)), ht⟩) (fun _ h => by cases h) dX4_token_70
          ·
            refine lv_aload_n hx hb dX4_token_46 rfl (lv_at hl 0 rfl) ?_
            refine va_get (D := D) (ci := 4) (v := .ref m2) (C := RX4) (T := TX4) (N := 21) hx hb hw iwX4 hown hK.1 hP 0 rfl rfl 7 (by decide) (hw _ xw_306) (fun _ h9 => h9) rfl dX4_token_47 ?_
            refine lv_iload_n hx hb dX4_token_50 rfl (lv_at hl 1 rfl) ?_
            refine va_iald hx hb hK.1 hP 3 0 rfl rfl (es_vin ⟨Int32.not_lt.mp c_1, c_9⟩ htn (by decide)) dX4_token_51 ?_
            refine lv_goto (tgt := 70) hx hb dX4_token_52 (by decide) ?_
            exact W.iret (v := (M 2) (x).toNatClampNeg) hx hb hr (fun zt ht hW => ⟨_, rfl, (by show _ = _; rw [if_pos ⟨Int32.not_lt.mp c_1, c_9⟩]; unfold es_tw; first | (rw [if_pos c_15]; done) | (rw [if_neg c_15, if_pos (show y = 1 from c_29)]; done) | (rw [if_neg c_15, if_neg (show ¬ y = 1 from c_29), if_pos (show y = 2 from c_43)]; done) | (rw [if_neg c_15, if_neg (show ¬ y = 1 from c_29), if_neg (show ¬ y = 2 from c_43), if_pos (show y = 3 from c_57)]; done) | (rw [if_neg c_15, if_neg (show ¬ y = 1 from c_29), if_neg (show ¬ y = 2 from c_43), if_neg (show ¬ y = 3 from c_57)]; done)), ht⟩) (fun _ h => by cases h) dX4_token_70
        ·
          refine lv_aload_n hx hb dX4_token_32 rfl (lv_at hl 0 rfl) ?_
          refine va_get (D := D) (ci := 4) (v := .ref m1) (C := RX4) (T := TX4) (N := 21) hx hb hw iwX4 hown hK.1 hP 0 rfl rfl 6 (by decide) (hw _ xw_305) (fun _ h9 => h9) rfl dX4_token_33 ?_
          refine lv_iload_n hx hb dX4_token_36 rfl (lv_at hl 1 rfl) ?_
          refine va_iald hx hb hK.1 hP 2 0 rfl rfl (es_vin ⟨Int32.not_lt.mp c_1, c_9⟩ htn (by decide)) dX4_token_37 ?_
          refine lv_goto (tgt := 70) hx hb dX4_token_38 (by decide) ?_
          exact W.iret (v := (M 1) (x).toNatClampNeg) hx hb hr (fun zt ht hW => ⟨_, rfl, (by show _ = _; rw [if_pos ⟨Int32.not_lt.mp c_1, c_9⟩]; unfold es_tw; first | (rw [if_pos c_15]; done) | (rw [if_neg c_15, if_pos (show y = 1 from c_29)]; done) | (rw [if_neg c_15, if_neg (show ¬ y = 1 from c_29), if_pos (show y = 2 from c_43)]; done) | (rw [if_neg c_15, if_neg (show ¬ y = 1 from c_29), if_neg (show ¬ y = 2 from c_43), if_pos (show y = 3 from c_57)]; done) | (rw [if_neg c_15, if_neg (show ¬ y = 1 from c_29), if_neg (show ¬ y = 2 from c_43), if_neg (show ¬ y = 3 from c_57)]; done)), ht⟩) (fun _ h => by cases h) dX4_token_70
      ·
        refine lv_aload_n hx hb dX4_token_18 rfl (lv_at hl 0 rfl) ?_
        refine va_get (D := D) (ci := 4) (v := .ref m0) (C := RX4) (T := TX4) (N := 21) hx hb hw iwX4 hown hK.1 hP 0 rfl rfl 5 (by decide) (hw _ xw_279) (fun _ h9 => h9) rfl dX4_token_19 ?_
        refine lv_iload_n hx hb dX4_token_22 rfl (lv_at hl 1 rfl) ?_
        refine va_iald hx hb hK.1 hP 1 0 rfl rfl (es_vin ⟨Int32.not_lt.mp c_1, c_9⟩ htn (by decide)) dX4_token_23 ?_
        refine lv_goto (tgt := 70) hx hb dX4_token_24 (by decide) ?_
        exact W.iret (v := (M 0) (x).toNatClampNeg) hx hb hr (fun zt ht hW => ⟨_, rfl, (by show _ = _; rw [if_pos ⟨Int32.not_lt.mp c_1, c_9⟩]; unfold es_tw; first | (rw [if_pos c_15]; done) | (rw [if_neg c_15, if_pos (show y = 1 from c_29)]; done) | (rw [if_neg c_15, if_neg (show ¬ y = 1 from c_29), if_pos (show y = 2 from c_43)]; done) | (rw [if_neg c_15, if_neg (show ¬ y = 1 from c_29), if_neg (show ¬ y = 2 from c_43), if_pos (show y = 3 from c_57)]; done) | (rw [if_neg c_15, if_neg (show ¬ y = 1 from c_29), if_neg (show ¬ y = 2 from c_43), if_neg (show ¬ y = 3 from c_57)]; done)), ht⟩) (fun _ h => by cases h) dX4_token_70
    ·
      refine lv_iconst (v := (-1)) hx hb dX4_token_12 (by decide) ?_
      exact W.iret (v := (-1)) hx hb hr (fun zt ht hW => ⟨_, rfl, (by show _ = _; first | (rw [if_neg (fun h => absurd c_1 (Int32.not_lt.mpr h.1))]; done) | (rw [if_neg (fun h => c_9 h.2)]; done)), ht⟩) (fun _ h => by cases h) dX4_token_13
set_option maxHeartbeats 1000000 in
set_option maxRecDepth 100000 in
theorem lp_mTokenAt {p : Program} {l : Launch} {e : Env} {R : Room} {s : State} {m : MethodId} {args : Array Value} {below : List Frame} {meth : Method} {c : Code} {Q : State → Prop} {H : Heap} {locs : List Loc} (D : va_G) (cI : ClassId) (mo : Nat) (ma : Nat) (mk : Nat) (mtx : Nat) (m0 : Nat) (m1 : Nat) (m2 : Nat) (m3 : Nat) (mb : Nat) (M : Nat → Nat → Int32) (n : Nat) (tn : Nat) (fl : Int32) (fk : Int32) (ot : Int32) (of_ : Int32) (os_ : Int32) (rd : Nat) (sc : Nat) (ed : Nat) (ts : Int32) (tkd : Int32) (tl : Int32) (x : Int32) (hx : p.tables.exec = Jvm.exec) (hb : c.code = cX4_tokenAt) (hml : c.maxLocals = 4) (hown : s.vm.findClass RX4 = some m.cls) (hw : ∀ w ∈ es_T, w.before args s = true) (hK : es_K D cI s) (hRm : 0 ≤ R.frames ∧ 0 ≤ R.locals) (hP : va_P D vwCl [(mo, .inr (4, [.ref ma, .ref mk, .ref mtx, .int (nI n), .int (nI tn), .ref m0, .ref m1, .ref m2, .ref m3, .int fl, .int fk, .int ot, .ref mb, .int of_, .int os_, .int (nI rd), .int (nI sc), .int (nI ed), .int ts, .int tkd, .int tl])), (m0, .inl (cI, 400, .inl (M 0))), (m1, .inl (cI, 400, .inl (M 1))), (m2, .inl (cI, 400, .inl (M 2))), (m3, .inl (cI, 400, .inl (M 3)))] H) (htn : tn ≤ 400) (hex : ∀ (fd : Int32), ((fd = -1 ∧ ∀ j, j < tn → ¬ (M 0 j ≤ x ∧ x < M 0 j + M 1 j)) ∨ (∃ w : Nat, w < tn ∧ fd = nI w ∧ (M 0 w ≤ x ∧ x < M 0 w + M 1 w) ∧ ∀ j, w < j → j < tn → ¬ (M 0 j ≤ x ∧ x < M 0 j + M 1 j))) → ∀ (ls : Array Slot), lv_has ls 4 [(2, .int fd)] →  W p l e R s m args below meth c H locs 0 0 Q (F0 m 51 ls [])) : ∀ (N : Nat) (i : Nat) (fd : Int32), (i ≤ tn) → ((fd = -1 ∧ ∀ j, j < i → ¬ (M 0 j ≤ x ∧ x < M 0 j + M 1 j)) ∨ (∃ w : Nat, w < i ∧ fd = nI w ∧ (M 0 w ≤ x ∧ x < M 0 w + M 1 w) ∧ ∀ j, w < j → j < i → ¬ (M 0 j ≤ x ∧ x < M 0 j + M 1 j))) → (tn - i) < N → ∀ (ls : Array Slot), lv_has ls 4 [(0, .ref mo), (1, .int x), (2, .int fd), (3, .int (nI i))] →  W p l e R s m args below meth c H locs 0 0 Q (F0 m 4 ls []) := by
  intro N
  induction N with
  | zero =>
    intro i fd hi hf hN
    exact absurd hN (Nat.not_lt_zero _)
  | succ N ih =>
    intro i fd hi hf hN ls hl
    refine lv_iload_n hx hb dX4_tokenAt_4 rfl (lv_at hl 3 rfl) ?_
    refine lv_aload_n hx hb dX4_tokenAt_5 rfl (lv_at hl 0 rfl) ?_
    refine va_get (D := D) (ci := 4) (v := .int (nI tn)) (C := RX4) (T := TX4) (N := 21) hx hb hw iwX4 hown hK.1 hP 0 rfl rfl 4 (by decide) (hw _ xw_268) (fun _ h9 => h9) rfl dX4_tokenAt_6 ?_
    refine lv_icmp_ge (tgt := 51) hx hb dX4_tokenAt_9 (by decide) (fun c_9 => ?_) (fun c_9 => ?_)
    ·
      have c_9 := (nI_leI (by omega) (by omega)).mp c_9
      exact hex fd (by rw [show tn = i by omega]; exact hf)  ls (lv_sub hl [2] rfl)
    ·
      have c_9 := (mt (nI_leI (by omega) (by omega)).mpr c_9)
      refine lv_iload_n hx hb dX4_tokenAt_12 rfl (lv_at hl 1 rfl) ?_
      refine lv_aload_n hx hb dX4_tokenAt_13 rfl (lv_at hl 0 rfl) ?_
      refine va_get (D := D) (ci := 4) (v := .ref m0) (C := RX4) (T := TX4) (N := 21) hx hb hw iwX4 hown hK.1 hP 0 rfl rfl 5 (by decide) (hw _ xw_279) (fun _ h9 => h9) rfl dX4_tokenAt_14 ?_
      refine lv_iload_n hx hb dX4_tokenAt_17 rfl (lv_at hl 3 rfl) ?_
      refine es_iald hx hb hK.1 hP 1 0 rfl rfl (by omega) (Nat.le_of_ble_eq_true rfl) dX4_tokenAt_18 ?_
      refine lv_icmp_lt (tgt := 43) hx hb dX4_tokenAt_19 (by decide) (fun c_19 => ?_) (fun c_19 => ?_)
      ·
        refine lv_iload_n hx hb dX4_tokenAt_43 rfl (lv_at hl 2 rfl) ?_
        refine lv_istore_n (lv' := [(2, .int fd), (0, .ref mo), (1, .int x), (3, .int (nI i))]) hx hb dX4_tokenAt_44 rfl hl (by decide) rfl (fun ls hl => ?_)
        refine lv_iinc (v := nI (i + 1)) (lv' := [(3, .int (nI (i + 1))), (2, .int fd), (0, .ref mo), (1, .int x)]) hx hb dX4_tokenAt_45 hl (k := 3) rfl (nI_1 _) (by decide) rfl (fun ls hl => ?_)
        refine lv_goto (tgt := 4) hx hb dX4_tokenAt_48 (by decide) ?_
        exact ih (i + 1) fd (by first | assumption | omega) (by first | exact es_ta_y hf ⟨Int32.not_lt.mp c_19, Int32.not_le.mp c_36⟩ | exact es_ta_n hf (fun h => absurd c_19 (Int32.not_lt.mpr h.1)) | exact es_ta_n hf (fun h => absurd h.2 (Int32.not_lt.mpr c_36))) (by omega) ls (lv_sub hl [2, 3, 1, 0] rfl)
      ·
        refine lv_iload_n hx hb dX4_tokenAt_22 rfl (lv_at hl 1 rfl) ?_
        refine lv_aload_n hx hb dX4_tokenAt_23 rfl (lv_at hl 0 rfl) ?_
        refine va_get (D := D) (ci := 4) (v := .ref m0) (C := RX4) (T := TX4) (N := 21) hx hb hw iwX4 hown hK.1 hP 0 rfl rfl 5 (by decide) (hw _ xw_279) (fun _ h9 => h9) rfl dX4_tokenAt_24 ?_
        refine lv_iload_n hx hb dX4_tokenAt_27 rfl (lv_at hl 3 rfl) ?_
        refine es_iald hx hb hK.1 hP 1 0 rfl rfl (by omega) (Nat.le_of_ble_eq_true rfl) dX4_tokenAt_28 ?_
        refine lv_aload_n hx hb dX4_tokenAt_29 rfl (lv_at hl 0 rfl) ?_
        refine va_get (D := D) (ci := 4) (v := .ref m1) (C := RX4) (T := TX4) (N := 21) hx hb hw iwX4 hown hK.1 hP 0 rfl rfl 6 (by decide) (hw _ xw_305) (fun _ h9 => h9) rfl dX4_tokenAt_30 ?_
        refine lv_iload_n hx hb dX4_tokenAt_33 rfl (lv_at hl 3 rfl) ?_
        refine es_iald hx hb hK.1 hP 2 0 rfl rfl (by omega) (Nat.le_of_ble_eq_true rfl) dX4_tokenAt_34 ?_
        refine lv_iadd hx hb dX4_tokenAt_35 ?_
        refine lv_icmp_ge (tgt := 43) hx hb dX4_tokenAt_36 (by decide) (fun c_36 => ?_) (fun c_36 => ?_)
        ·
          refine lv_iload_n hx hb dX4_tokenAt_43 rfl (lv_at hl 2 rfl) ?_
          refine lv_istore_n (lv' := [(2, .int fd), (0, .ref mo), (1, .int x), (3, .int (nI i))]) hx hb dX4_tokenAt_44 rfl hl (by decide) rfl (fun ls hl => ?_)
          refine lv_iinc (v := nI (i + 1)) (lv' := [(3, .int (nI (i + 1))), (2, .int fd), (0, .ref mo), (1, .int x)]) hx hb dX4_tokenAt_45 hl (k := 3) rfl (nI_1 _) (by decide) rfl (fun ls hl => ?_)
          refine lv_goto (tgt := 4) hx hb dX4_tokenAt_48 (by decide) ?_
          exact ih (i + 1) fd (by first | assumption | omega) (by first | exact es_ta_y hf ⟨Int32.not_lt.mp c_19, Int32.not_le.mp c_36⟩ | exact es_ta_n hf (fun h => absurd c_19 (Int32.not_lt.mpr h.1)) | exact es_ta_n hf (fun h => absurd h.2 (Int32.not_lt.mpr c_36))) (by omega) ls (lv_sub hl [2, 3, 1, 0] rfl)
        ·
          refine lv_iload_n hx hb dX4_tokenAt_39 rfl (lv_at hl 3 rfl) ?_
          refine lv_goto (tgt := 44) hx hb dX4_tokenAt_40 (by decide) ?_
          refine lv_istore_n (lv' := [(2, .int (nI i)), (0, .ref mo), (1, .int x), (3, .int (nI i))]) hx hb dX4_tokenAt_44 rfl hl (by decide) rfl (fun ls hl => ?_)
          refine lv_iinc (v := nI (i + 1)) (lv' := [(3, .int (nI (i + 1))), (2, .int (nI i)), (0, .ref mo), (1, .int x)]) hx hb dX4_tokenAt_45 hl (k := 3) rfl (nI_1 _) (by decide) rfl (fun ls hl => ?_)
          refine lv_goto (tgt := 4) hx hb dX4_tokenAt_48 (by decide) ?_
          exact ih (i + 1) (nI i) (by first | assumption | omega) (by first | exact es_ta_y hf ⟨Int32.not_lt.mp c_19, Int32.not_le.mp c_36⟩ | exact es_ta_n hf (fun h => absurd c_19 (Int32.not_lt.mpr h.1)) | exact es_ta_n hf (fun h => absurd h.2 (Int32.not_lt.mpr c_36))) (by omega) ls (lv_sub hl [2, 3, 1, 0] rfl)
set_option maxHeartbeats 1000000 in
set_option maxRecDepth 100000 in
/-- X4.tokenAt  -/
theorem c_X4_tokenAt (l : Launch) (D : va_G) (cI : ClassId) (mo : Nat) (ma : Nat) (mk : Nat) (mtx : Nat) (m0 : Nat) (m1 : Nat) (m2 : Nat) (m3 : Nat) (mb : Nat) (M : Nat → Nat → Int32) (n : Nat) (tn : Nat) (fl : Int32) (fk : Int32) (ot : Int32) (of_ : Int32) (os_ : Int32) (rd : Nat) (sc : Nat) (ed : Nat) (ts : Int32) (tkd : Int32) (tl : Int32) (x : Int32) (htn : tn ≤ 400) : Met l yX4_tokenAt (Cond.code yX4_tokenAt cX4_tokenAt 4 (some .int) :: es_T) { frames := 0, cells := 0, slots := 0, locals := 0 } (va_Pc [.ref mo, .int x] (es_R D cI [(mo, .inr (4, [.ref ma, .ref mk, .ref mtx, .int (nI n), .int (nI tn), .ref m0, .ref m1, .ref m2, .ref m3, .int fl, .int fk, .int ot, .ref mb, .int of_, .int os_, .int (nI rd), .int (nI sc), .int (nI ed), .int ts, .int tkd, .int tl])), (m0, .inl (cI, 400, .inl (M 0))), (m1, .inl (cI, 400, .inl (M 1))), (m2, .inl (cI, 400, .inl (M 2))), (m3, .inl (cI, 400, .inl (M 3)))])) (vp_Si (fun q => (q = -1 ∧ ∀ j, j < tn → ¬ (M 0 j ≤ x ∧ x < M 0 j + M 1 j)) ∨ (∃ w : Nat, w < tn ∧ q = nI w ∧ (M 0 w ≤ x ∧ x < M 0 w + M 1 w) ∧ ∀ j, w < j → j < tn → ¬ (M 0 j ≤ x ∧ x < M 0 j + M 1 j)))) 0 0 (fun _ => False) := by
  refine Met.ofW (cc := cX4_tokenAt) (maxL := 4) (ret := (some .int)) (by decide) rfl ?_
  intro p e s m args below meth c s₁ B hml hv
  obtain ⟨rfl, hP, hK⟩ := hv
  have hx := B.exec
  have hb := B.bytes
  have hr := B.returns
  have hts := atoms_spec (ws := (Cond.code yX4_tokenAt cX4_tokenAt 4 (some .int) :: es_T)) B.pre
  have hw : ∀ w ∈ es_T, w.before _ s = true := fun w h => hts w (List.mem_cons_of_mem _ h)
  have hown : s.vm.findClass RX4 = some m.cls := findClass_of_methodNamed B.named
  have hlocks := B.notSynchronized
  have hRm : 0 ≤ (headSpec (Cond.code yX4_tokenAt cX4_tokenAt 4 (some .int) :: es_T) { frames := 0, cells := 0, slots := 0, locals := 0 }).room.frames ∧ 0 ≤ (headSpec (Cond.code yX4_tokenAt cX4_tokenAt 4 (some .int) :: es_T) { frames := 0, cells := 0, slots := 0, locals := 0 }).room.locals := ⟨Nat.le_refl _, Nat.le_refl _⟩
  have hRc : 0 ≤ (headSpec (Cond.code yX4_tokenAt cX4_tokenAt 4 (some .int) :: es_T) { frames := 0, cells := 0, slots := 0, locals := 0 }).room.cells ∧ 0 ≤ (headSpec (Cond.code yX4_tokenAt cX4_tokenAt 4 (some .int) :: es_T) { frames := 0, cells := 0, slots := 0, locals := 0 }).room.slots := ⟨Nat.le_refl _, Nat.le_refl _⟩
  have hl := lv_entry ([.ref mo, .int x]) (n := 4) (Nat.le_of_ble_eq_true rfl)
  rw [lg_entry_eq]
  generalize (lg_sl ([.ref mo, .int x]) ++ List.replicate (4 - (lg_sl ([.ref mo, .int x])).length) Slot.unset).toArray = ls at hl ⊢
  have hl : lv_has ls 4 [(0, .ref mo), (1, .int x)] := hl
  refine lv_iconst (v := (-1)) hx hb dX4_tokenAt_0 (by decide) ?_
  refine lv_istore_n (lv' := [(2, .int (-1)), (0, .ref mo), (1, .int x)]) hx hb dX4_tokenAt_1 rfl hl (by decide) rfl (fun ls hl => ?_)
  refine lv_iconst (v := nI 0) hx hb dX4_tokenAt_2 (by decide) ?_
  refine lv_istore_n (lv' := [(3, .int (nI 0)), (2, .int (-1)), (0, .ref mo), (1, .int x)]) hx hb dX4_tokenAt_3 rfl hl (by decide) rfl (fun ls hl => ?_)
  refine lp_mTokenAt D cI mo ma mk mtx m0 m1 m2 m3 mb M n tn fl fk ot of_ os_ rd sc ed ts tkd tl x hx hb hml hown hw hK ⟨Nat.le_trans (Nat.le_of_ble_eq_true rfl) hRm.1, Nat.le_trans (Nat.le_of_ble_eq_true rfl) hRm.2⟩ hP (by first | assumption | omega) (fun fd hf ls hl => ?_) ((tn - 0) + 1) 0 (-1) (Nat.zero_le _) (Or.inl ⟨rfl, fun j h => absurd h (Nat.not_lt_zero _)⟩) (Nat.lt_succ_self _) ls (lv_sub hl [2, 3, 1, 0] rfl)
  refine lv_iload_n hx hb dX4_tokenAt_51 rfl (lv_at hl 0 rfl) ?_
  exact W.iret (v := fd) hx hb hr (fun zt ht hW => ⟨_, rfl, hf, ht⟩) (fun _ h => by cases h) dX4_tokenAt_52
set_option maxHeartbeats 1000000 in
set_option maxRecDepth 100000 in
/-- X4.symbol  -/
theorem c_X4_symbol (l : Launch) (D : va_G) (cI : ClassId) (mo : Nat) (ma : Nat) (mk : Nat) (mtx : Nat) (m0 : Nat) (m1 : Nat) (m2 : Nat) (m3 : Nat) (mb : Nat) (mx : Nat → Int32) (n : Nat) (tn : Nat) (fl : Int32) (fk : Int32) (ot : Int32) (of_ : Int32) (os_ : Int32) (rd : Nat) (sc : Nat) (ed : Nat) (ts : Int32) (tkd : Int32) (tl : Int32) (x : Int32) (hn : n ≤ 400) : Met l yX4_symbol (Cond.code yX4_symbol cX4_symbol 2 (some .int) :: es_T) { frames := 0, cells := 0, slots := 0, locals := 0 } (va_Pc [.ref mo, .int x] (es_R D cI [(mo, .inr (4, [.ref ma, .ref mk, .ref mtx, .int (nI n), .int (nI tn), .ref m0, .ref m1, .ref m2, .ref m3, .int fl, .int fk, .int ot, .ref mb, .int of_, .int os_, .int (nI rd), .int (nI sc), .int (nI ed), .int ts, .int tkd, .int tl])), (mtx, .inl (cI, 400, .inl mx))])) (vp_Si (fun r => r = if 0 ≤ x ∧ x < nI n then mx x.toNatClampNeg else -1)) 0 0 (fun _ => False) := by
  refine Met.ofW (cc := cX4_symbol) (maxL := 2) (ret := (some .int)) (by decide) rfl ?_
  intro p e s m args below meth c s₁ B hml hv
  obtain ⟨rfl, hP, hK⟩ := hv
  have hx := B.exec
  have hb := B.bytes
  have hr := B.returns
  have hts := atoms_spec (ws := (Cond.code yX4_symbol cX4_symbol 2 (some .int) :: es_T)) B.pre
  have hw : ∀ w ∈ es_T, w.before _ s = true := fun w h => hts w (List.mem_cons_of_mem _ h)
  have hown : s.vm.findClass RX4 = some m.cls := findClass_of_methodNamed B.named
  have hlocks := B.notSynchronized
  have hRm : 0 ≤ (headSpec (Cond.code yX4_symbol cX4_symbol 2 (some .int) :: es_T) { frames := 0, cells := 0, slots := 0, locals := 0 }).room.frames ∧ 0 ≤ (headSpec (Cond.code yX4_symbol cX4_symbol 2 (some .int) :: es_T) { frames := 0, cells := 0, slots := 0, locals := 0 }).room.locals := ⟨Nat.le_refl _, Nat.le_refl _⟩
  have hRc : 0 ≤ (headSpec (Cond.code yX4_symbol cX4_symbol 2 (some .int) :: es_T) { frames := 0, cells := 0, slots := 0, locals := 0 }).room.cells ∧ 0 ≤ (headSpec (Cond.code yX4_symbol cX4_symbol 2 (some .int) :: es_T) { frames := 0, cells := 0, slots := 0, locals := 0 }).room.slots := ⟨Nat.le_refl _, Nat.le_refl _⟩
  have hl := lv_entry ([.ref mo, .int x]) (n := 2) (Nat.le_of_ble_eq_true rfl)
  rw [lg_entry_eq]
  generalize (lg_sl ([.ref mo, .int x]) ++ List.replicate (2 - (lg_sl ([.ref mo, .int x])).length) Slot.unset).toArray = ls at hl ⊢
  have hl : lv_has ls 2 [(0, .ref mo), (1, .int x)] := hl
  refine lv_iload_n hx hb dX4_symbol_0 rfl (lv_at hl 1 rfl) ?_
  refine lv_if_lt (tgt := 21) hx hb dX4_symbol_1 (by decide) (fun c_1 => ?_) (fun c_1 => ?_)
  ·
    refine lv_iconst (v := (-1)) hx hb dX4_symbol_21 (by decide) ?_
    exact W.iret (v := (-1)) hx hb hr (fun zt ht hW => ⟨_, rfl, (by show _ = _; first | (rw [if_pos ⟨Int32.not_lt.mp c_1, Int32.not_le.mp c_9⟩]; done) | (rw [if_neg (fun h => absurd c_1 (Int32.not_lt.mpr h.1))]; done) | (rw [if_neg (fun h => absurd h.2 (Int32.not_lt.mpr c_9))]; done)), ht⟩) (fun _ h => by cases h) dX4_symbol_22
  ·
    refine lv_iload_n hx hb dX4_symbol_4 rfl (lv_at hl 1 rfl) ?_
    refine lv_aload_n hx hb dX4_symbol_5 rfl (lv_at hl 0 rfl) ?_
    refine va_get (D := D) (ci := 4) (v := .int (nI n)) (C := RX4) (T := TX4) (N := 21) hx hb hw iwX4 hown hK.1 hP 0 rfl rfl 3 (by decide) (hw _ xw_260) (fun _ h9 => h9) rfl dX4_symbol_6 ?_
    refine lv_icmp_ge (tgt := 21) hx hb dX4_symbol_9 (by decide) (fun c_9 => ?_) (fun c_9 => ?_)
    ·
      refine lv_iconst (v := (-1)) hx hb dX4_symbol_21 (by decide) ?_
      exact W.iret (v := (-1)) hx hb hr (fun zt ht hW => ⟨_, rfl, (by show _ = _; first | (rw [if_pos ⟨Int32.not_lt.mp c_1, Int32.not_le.mp c_9⟩]; done) | (rw [if_neg (fun h => absurd c_1 (Int32.not_lt.mpr h.1))]; done) | (rw [if_neg (fun h => absurd h.2 (Int32.not_lt.mpr c_9))]; done)), ht⟩) (fun _ h => by cases h) dX4_symbol_22
    ·
      refine lv_aload_n hx hb dX4_symbol_12 rfl (lv_at hl 0 rfl) ?_
      refine va_get (D := D) (ci := 4) (v := .ref mtx) (C := RX4) (T := TX4) (N := 21) hx hb hw iwX4 hown hK.1 hP 0 rfl rfl 2 (by decide) (hw _ xw_266) (fun _ h9 => h9) rfl dX4_symbol_13 ?_
      refine lv_iload_n hx hb dX4_symbol_16 rfl (lv_at hl 1 rfl) ?_
      refine va_iald hx hb hK.1 hP 1 0 rfl rfl (es_vin ⟨Int32.not_lt.mp c_1, Int32.not_le.mp c_9⟩ hn (by decide)) dX4_symbol_17 ?_
      refine lv_goto (tgt := 22) hx hb dX4_symbol_18 (by decide) ?_
      exact W.iret (v := mx (x).toNatClampNeg) hx hb hr (fun zt ht hW => ⟨_, rfl, (by show _ = _; first | (rw [if_pos ⟨Int32.not_lt.mp c_1, Int32.not_le.mp c_9⟩]; done) | (rw [if_neg (fun h => absurd c_1 (Int32.not_lt.mpr h.1))]; done) | (rw [if_neg (fun h => absurd h.2 (Int32.not_lt.mpr c_9))]; done)), ht⟩) (fun _ h => by cases h) dX4_symbol_22
set_option maxHeartbeats 1000000 in
set_option maxRecDepth 100000 in
/-- X4.count  -/
theorem c_X4_count (l : Launch) (D : va_G) (cI : ClassId) (mo : Nat) (ma : Nat) (mk : Nat) (mtx : Nat) (m0 : Nat) (m1 : Nat) (m2 : Nat) (m3 : Nat) (mb : Nat) (n : Nat) (tn : Nat) (fl : Int32) (fk : Int32) (ot : Int32) (of_ : Int32) (os_ : Int32) (rd : Nat) (sc : Nat) (ed : Nat) (ts : Int32) (tkd : Int32) (tl : Int32) (x : Int32)  : Met l yX4_count (Cond.code yX4_count cX4_count 2 (some .int) :: es_T) { frames := 0, cells := 0, slots := 0, locals := 0 } (va_Pc [.ref mo, .int x] (es_R D cI [(mo, .inr (4, [.ref ma, .ref mk, .ref mtx, .int (nI n), .int (nI tn), .ref m0, .ref m1, .ref m2, .ref m3, .int fl, .int fk, .int ot, .ref mb, .int of_, .int os_, .int (nI rd), .int (nI sc), .int (nI ed), .int ts, .int tkd, .int tl]))])) (vp_Si (fun r => r = es_cm tn n fl fk rd sc ed x)) 0 0 (fun _ => False) := by
  refine Met.ofW (cc := cX4_count) (maxL := 2) (ret := (some .int)) (by decide) rfl ?_
  intro p e s m args below meth c s₁ B hml hv
  obtain ⟨rfl, hP, hK⟩ := hv
  have hx := B.exec
  have hb := B.bytes
  have hr := B.returns
  have hts := atoms_spec (ws := (Cond.code yX4_count cX4_count 2 (some .int) :: es_T)) B.pre
  have hw : ∀ w ∈ es_T, w.before _ s = true := fun w h => hts w (List.mem_cons_of_mem _ h)
  have hown : s.vm.findClass RX4 = some m.cls := findClass_of_methodNamed B.named
  have hlocks := B.notSynchronized
  have hRm : 0 ≤ (headSpec (Cond.code yX4_count cX4_count 2 (some .int) :: es_T) { frames := 0, cells := 0, slots := 0, locals := 0 }).room.frames ∧ 0 ≤ (headSpec (Cond.code yX4_count cX4_count 2 (some .int) :: es_T) { frames := 0, cells := 0, slots := 0, locals := 0 }).room.locals := ⟨Nat.le_refl _, Nat.le_refl _⟩
  have hRc : 0 ≤ (headSpec (Cond.code yX4_count cX4_count 2 (some .int) :: es_T) { frames := 0, cells := 0, slots := 0, locals := 0 }).room.cells ∧ 0 ≤ (headSpec (Cond.code yX4_count cX4_count 2 (some .int) :: es_T) { frames := 0, cells := 0, slots := 0, locals := 0 }).room.slots := ⟨Nat.le_refl _, Nat.le_refl _⟩
  have hl := lv_entry ([.ref mo, .int x]) (n := 2) (Nat.le_of_ble_eq_true rfl)
  rw [lg_entry_eq]
  generalize (lg_sl ([.ref mo, .int x]) ++ List.replicate (2 - (lg_sl ([.ref mo, .int x])).length) Slot.unset).toArray = ls at hl ⊢
  have hl : lv_has ls 2 [(0, .ref mo), (1, .int x)] := hl
  refine lv_iload_n hx hb dX4_count_0 rfl (lv_at hl 1 rfl) ?_
  refine lv_if_ne (tgt := 11) hx hb dX4_count_1 (by decide) (fun c_1 => ?_) (fun c_1 => ?_)
  ·
    refine lv_iload_n hx hb dX4_count_11 rfl (lv_at hl 1 rfl) ?_
    refine lv_iconst (v := nI 1) hx hb dX4_count_12 (by decide) ?_
    refine lv_icmp_ne (tgt := 23) hx hb dX4_count_13 (by decide) (fun c_13 => ?_) (fun c_13 => ?_)
    ·
      refine lv_iload_n hx hb dX4_count_23 rfl (lv_at hl 1 rfl) ?_
      refine lv_iconst (v := nI 2) hx hb dX4_count_24 (by decide) ?_
      refine lv_icmp_ne (tgt := 35) hx hb dX4_count_25 (by decide) (fun c_25 => ?_) (fun c_25 => ?_)
      ·
        refine lv_iload_n hx hb dX4_count_35 rfl (lv_at hl 1 rfl) ?_
        refine lv_iconst (v := nI 3) hx hb dX4_count_36 (by decide) ?_
        refine lv_icmp_ne (tgt := 47) hx hb dX4_count_37 (by decide) (fun c_37 => ?_) (fun c_37 => ?_)
        ·
          refine lv_iload_n hx hb dX4_count_47 rfl (lv_at hl 1 rfl) ?_
          refine lv_iconst (v := nI 4) hx hb dX4_count_48 (by decide) ?_
          refine lv_icmp_ne (tgt := 59) hx hb dX4_count_49 (by decide) (fun c_49 => ?_) (fun c_49 => ?_)
          ·
            refine lv_iload_n hx hb dX4_count_59 rfl (lv_at hl 1 rfl) ?_
            refine lv_iconst (v := nI 5) hx hb dX4_count_60 (by decide) ?_
            refine lv_icmp_ne (tgt := 71) hx hb dX4_count_61 (by decide) (fun c_61 => ?_) (fun c_61 => ?_)
            ·
              refine lv_iload_n hx hb dX4_count_71 rfl (lv_at hl 1 rfl) ?_
              refine lv_bipush (v := nI 6) hx hb dX4_count_72 (by decide) ?_
              refine lv_icmp_ne (tgt := 84) hx hb dX4_count_74 (by decide) (fun c_74 => ?_) (fun c_74 => ?_)
              ·
                refine lv_iconst (v := (-1)) hx hb dX4_count_84 (by decide) ?_
                exact W.iret (v := (-1)) hx hb hr (fun zt ht hW => ⟨_, rfl, (by show _ = _; unfold es_cm; first | (rw [if_pos (show x = 0 from c_1)]; done) | (rw [if_neg (show ¬ x = 0 from c_1), if_pos (show x = 1 from c_13)]; done) | (rw [if_neg (show ¬ x = 0 from c_1), if_neg (show ¬ x = 1 from c_13), if_pos (show x = 2 from c_25)]; done) | (rw [if_neg (show ¬ x = 0 from c_1), if_neg (show ¬ x = 1 from c_13), if_neg (show ¬ x = 2 from c_25), if_pos (show x = 3 from c_37)]; done) | (rw [if_neg (show ¬ x = 0 from c_1), if_neg (show ¬ x = 1 from c_13), if_neg (show ¬ x = 2 from c_25), if_neg (show ¬ x = 3 from c_37), if_pos (show x = 4 from c_49)]; done) | (rw [if_neg (show ¬ x = 0 from c_1), if_neg (show ¬ x = 1 from c_13), if_neg (show ¬ x = 2 from c_25), if_neg (show ¬ x = 3 from c_37), if_neg (show ¬ x = 4 from c_49), if_pos (show x = 5 from c_61)]; done) | (rw [if_neg (show ¬ x = 0 from c_1), if_neg (show ¬ x = 1 from c_13), if_neg (show ¬ x = 2 from c_25), if_neg (show ¬ x = 3 from c_37), if_neg (show ¬ x = 4 from c_49), if_neg (show ¬ x = 5 from c_61), if_pos (show x = 6 from c_74)]; done) | (rw [if_neg (show ¬ x = 0 from c_1), if_neg (show ¬ x = 1 from c_13), if_neg (show ¬ x = 2 from c_25), if_neg (show ¬ x = 3 from c_37), if_neg (show ¬ x = 4 from c_49), if_neg (show ¬ x = 5 from c_61), if_neg (show ¬ x = 6 from c_74)]; done)), ht⟩) (fun _ h => by cases h) dX4_count_85
              ·
                refine lv_aload_n hx hb dX4_count_77 rfl (lv_at hl 0 rfl) ?_
                refine va_get (D := D) (ci := 4) (v := .int (nI ed)) (C := RX4) (T := TX4) (N := 21) hx hb hw iwX4 hown hK.1 hP 0 rfl rfl 17 (by decide) (hw _ xw_277) (fun _ h9 => h9) rfl dX4_count_78 ?_
                refine lv_goto (tgt := 85) hx hb dX4_count_81 (by decide) ?_
                exact W.iret (v := nI ed) hx hb hr (fun zt ht hW => ⟨_, rfl, (by show _ = _; unfold es_cm; first | (rw [if_pos (show x = 0 from c_1)]; done) | (rw [if_neg (show ¬ x = 0 from c_1), if_pos (show x = 1 from c_13)]; done) | (rw [if_neg (show ¬ x = 0 from c_1), if_neg (show ¬ x = 1 from c_13), if_pos (show x = 2 from c_25)]; done) | (rw [if_neg (show ¬ x = 0 from c_1), if_neg (show ¬ x = 1 from c_13), if_neg (show ¬ x = 2 from c_25), if_pos (show x = 3 from c_37)]; done) | (rw [if_neg (show ¬ x = 0 from c_1), if_neg (show ¬ x = 1 from c_13), if_neg (show ¬ x = 2 from c_25), if_neg (show ¬ x = 3 from c_37), if_pos (show x = 4 from c_49)]; done) | (rw [if_neg (show ¬ x = 0 from c_1), if_neg (show ¬ x = 1 from c_13), if_neg (show ¬ x = 2 from c_25), if_neg (show ¬ x = 3 from c_37), if_neg (show ¬ x = 4 from c_49), if_pos (show x = 5 from c_61)]; done) | (rw [if_neg (show ¬ x = 0 from c_1), if_neg (show ¬ x = 1 from c_13), if_neg (show ¬ x = 2 from c_25), if_neg (show ¬ x = 3 from c_37), if_neg (show ¬ x = 4 from c_49), if_neg (show ¬ x = 5 from c_61), if_pos (show x = 6 from c_74)]; done) | (rw [if_neg (show ¬ x = 0 from c_1), if_neg (show ¬ x = 1 from c_13), if_neg (show ¬ x = 2 from c_25), if_neg (show ¬ x = 3 from c_37), if_neg (show ¬ x = 4 from c_49), if_neg (show ¬ x = 5 from c_61), if_neg (show ¬ x = 6 from c_74)]; done)), ht⟩) (fun _ h => by cases h) dX4_count_85
            ·
              refine lv_aload_n hx hb dX4_count_64 rfl (lv_at hl 0 rfl) ?_
              refine va_get (D := D) (ci := 4) (v := .int (nI sc)) (C := RX4) (T := TX4) (N := 21) hx hb hw iwX4 hown hK.1 hP 0 rfl rfl 16 (by decide) (hw _ xw_276) (fun _ h9 => h9) rfl dX4_count_65 ?_
              refine lv_goto (tgt := 85) hx hb dX4_count_68 (by decide) ?_
              exact W.iret (v := nI sc) hx hb hr (fun zt ht hW => ⟨_, rfl, (by show _ = _; unfold es_cm; first | (rw [if_pos (show x = 0 from c_1)]; done) | (rw [if_neg (show ¬ x = 0 from c_1), if_pos (show x = 1 from c_13)]; done) | (rw [if_neg (show ¬ x = 0 from c_1), if_neg (show ¬ x = 1 from c_13), if_pos (show x = 2 from c_25)]; done) | (rw [if_neg (show ¬ x = 0 from c_1), if_neg (show ¬ x = 1 from c_13), if_neg (show ¬ x = 2 from c_25), if_pos (show x = 3 from c_37)]; done) | (rw [if_neg (show ¬ x = 0 from c_1), if_neg (show ¬ x = 1 from c_13), if_neg (show ¬ x = 2 from c_25), if_neg (show ¬ x = 3 from c_37), if_pos (show x = 4 from c_49)]; done) | (rw [if_neg (show ¬ x = 0 from c_1), if_neg (show ¬ x = 1 from c_13), if_neg (show ¬ x = 2 from c_25), if_neg (show ¬ x = 3 from c_37), if_neg (show ¬ x = 4 from c_49), if_pos (show x = 5 from c_61)]; done) | (rw [if_neg (show ¬ x = 0 from c_1), if_neg (show ¬ x = 1 from c_13), if_neg (show ¬ x = 2 from c_25), if_neg (show ¬ x = 3 from c_37), if_neg (show ¬ x = 4 from c_49), if_neg (show ¬ x = 5 from c_61), if_pos (show x = 6 from c_74)]; done) | (rw [if_neg (show ¬ x = 0 from c_1), if_neg (show ¬ x = 1 from c_13), if_neg (show ¬ x = 2 from c_25), if_neg (show ¬ x = 3 from c_37), if_neg (show ¬ x = 4 from c_49), if_neg (show ¬ x = 5 from c_61), if_neg (show ¬ x = 6 from c_74)]; done)), ht⟩) (fun _ h => by cases h) dX4_count_85
          ·
            refine lv_aload_n hx hb dX4_count_52 rfl (lv_at hl 0 rfl) ?_
            refine va_get (D := D) (ci := 4) (v := .int (nI rd)) (C := RX4) (T := TX4) (N := 21) hx hb hw iwX4 hown hK.1 hP 0 rfl rfl 15 (by decide) (hw _ xw_275) (fun _ h9 => h9) rfl dX4_count_53 ?_
            refine lv_goto (tgt := 85) hx hb dX4_count_56 (by decide) ?_
            exact W.iret (v := nI rd) hx hb hr (fun zt ht hW => ⟨_, rfl, (by show _ = _; unfold es_cm; first | (rw [if_pos (show x = 0 from c_1)]; done) | (rw [if_neg (show ¬ x = 0 from c_1), if_pos (show x = 1 from c_13)]; done) | (rw [if_neg (show ¬ x = 0 from c_1), if_neg (show ¬ x = 1 from c_13), if_pos (show x = 2 from c_25)]; done) | (rw [if_neg (show ¬ x = 0 from c_1), if_neg (show ¬ x = 1 from c_13), if_neg (show ¬ x = 2 from c_25), if_pos (show x = 3 from c_37)]; done) | (rw [if_neg (show ¬ x = 0 from c_1), if_neg (show ¬ x = 1 from c_13), if_neg (show ¬ x = 2 from c_25), if_neg (show ¬ x = 3 from c_37), if_pos (show x = 4 from c_49)]; done) | (rw [if_neg (show ¬ x = 0 from c_1), if_neg (show ¬ x = 1 from c_13), if_neg (show ¬ x = 2 from c_25), if_neg (show ¬ x = 3 from c_37), if_neg (show ¬ x = 4 from c_49), if_pos (show x = 5 from c_61)]; done) | (rw [if_neg (show ¬ x = 0 from c_1), if_neg (show ¬ x = 1 from c_13), if_neg (show ¬ x = 2 from c_25), if_neg (show ¬ x = 3 from c_37), if_neg (show ¬ x = 4 from c_49), if_neg (show ¬ x = 5 from c_61), if_pos (show x = 6 from c_74)]; done) | (rw [if_neg (show ¬ x = 0 from c_1), if_neg (show ¬ x = 1 from c_13), if_neg (show ¬ x = 2 from c_25), if_neg (show ¬ x = 3 from c_37), if_neg (show ¬ x = 4 from c_49), if_neg (show ¬ x = 5 from c_61), if_neg (show ¬ x = 6 from c_74)]; done)), ht⟩) (fun _ h => by cases h) dX4_count_85
        ·
          refine lv_aload_n hx hb dX4_count_40 rfl (lv_at hl 0 rfl) ?_
          refine va_get (D := D) (ci := 4) (v := .int fk) (C := RX4) (T := TX4) (N := 21) hx hb hw iwX4 hown hK.1 hP 0 rfl rfl 10 (by decide) (hw _ xw_274) (fun _ h9 => h9) rfl dX4_count_41 ?_
          refine lv_goto (tgt := 85) hx hb dX4_count_44 (by decide) ?_
          exact W.iret (v := fk) hx hb hr (fun zt ht hW => ⟨_, rfl, (by show _ = _; unfold es_cm; first | (rw [if_pos (show x = 0 from c_1)]; done) | (rw [if_neg (show ¬ x = 0 from c_1), if_pos (show x = 1 from c_13)]; done) | (rw [if_neg (show ¬ x = 0 from c_1), if_neg (show ¬ x = 1 from c_13), if_pos (show x = 2 from c_25)]; done) | (rw [if_neg (show ¬ x = 0 from c_1), if_neg (show ¬ x = 1 from c_13), if_neg (show ¬ x = 2 from c_25), if_pos (show x = 3 from c_37)]; done) | (rw [if_neg (show ¬ x = 0 from c_1), if_neg (show ¬ x = 1 from c_13), if_neg (show ¬ x = 2 from c_25), if_neg (show ¬ x = 3 from c_37), if_pos (show x = 4 from c_49)]; done) | (rw [if_neg (show ¬ x = 0 from c_1), if_neg (show ¬ x = 1 from c_13), if_neg (show ¬ x = 2 from c_25), if_neg (show ¬ x = 3 from c_37), if_neg (show ¬ x = 4 from c_49), if_pos (show x = 5 from c_61)]; done) | (rw [if_neg (show ¬ x = 0 from c_1), if_neg (show ¬ x = 1 from c_13), if_neg (show ¬ x = 2 from c_25), if_neg (show ¬ x = 3 from c_37), if_neg (show ¬ x = 4 from c_49), if_neg (show ¬ x = 5 from c_61), if_pos (show x = 6 from c_74)]; done) | (rw [if_neg (show ¬ x = 0 from c_1), if_neg (show ¬ x = 1 from c_13), if_neg (show ¬ x = 2 from c_25), if_neg (show ¬ x = 3 from c_37), if_neg (show ¬ x = 4 from c_49), if_neg (show ¬ x = 5 from c_61), if_neg (show ¬ x = 6 from c_74)]; done)), ht⟩) (fun _ h => by cases h) dX4_count_85
      ·
        refine lv_aload_n hx hb dX4_count_28 rfl (lv_at hl 0 rfl) ?_
        refine va_get (D := D) (ci := 4) (v := .int fl) (C := RX4) (T := TX4) (N := 21) hx hb hw iwX4 hown hK.1 hP 0 rfl rfl 9 (by decide) (hw _ xw_273) (fun _ h9 => h9) rfl dX4_count_29 ?_
        refine lv_goto (tgt := 85) hx hb dX4_count_32 (by decide) ?_
        exact W.iret (v := fl) hx hb hr (fun zt ht hW => ⟨_, rfl, (by show _ = _; unfold es_cm; first | (rw [if_pos (show x = 0 from c_1)]; done) | (rw [if_neg (show ¬ x = 0 from c_1), if_pos (show x = 1 from c_13)]; done) | (rw [if_neg (show ¬ x = 0 from c_1), if_neg (show ¬ x = 1 from c_13), if_pos (show x = 2 from c_25)]; done) | (rw [if_neg (show ¬ x = 0 from c_1), if_neg (show ¬ x = 1 from c_13), if_neg (show ¬ x = 2 from c_25), if_pos (show x = 3 from c_37)]; done) | (rw [if_neg (show ¬ x = 0 from c_1), if_neg (show ¬ x = 1 from c_13), if_neg (show ¬ x = 2 from c_25), if_neg (show ¬ x = 3 from c_37), if_pos (show x = 4 from c_49)]; done) | (rw [if_neg (show ¬ x = 0 from c_1), if_neg (show ¬ x = 1 from c_13), if_neg (show ¬ x = 2 from c_25), if_neg (show ¬ x = 3 from c_37), if_neg (show ¬ x = 4 from c_49), if_pos (show x = 5 from c_61)]; done) | (rw [if_neg (show ¬ x = 0 from c_1), if_neg (show ¬ x = 1 from c_13), if_neg (show ¬ x = 2 from c_25), if_neg (show ¬ x = 3 from c_37), if_neg (show ¬ x = 4 from c_49), if_neg (show ¬ x = 5 from c_61), if_pos (show x = 6 from c_74)]; done) | (rw [if_neg (show ¬ x = 0 from c_1), if_neg (show ¬ x = 1 from c_13), if_neg (show ¬ x = 2 from c_25), if_neg (show ¬ x = 3 from c_37), if_neg (show ¬ x = 4 from c_49), if_neg (show ¬ x = 5 from c_61), if_neg (show ¬ x = 6 from c_74)]; done)), ht⟩) (fun _ h => by cases h) dX4_count_85
    ·
      refine lv_aload_n hx hb dX4_count_16 rfl (lv_at hl 0 rfl) ?_
      refine va_get (D := D) (ci := 4) (v := .int (nI n)) (C := RX4) (T := TX4) (N := 21) hx hb hw iwX4 hown hK.1 hP 0 rfl rfl 3 (by decide) (hw _ xw_260) (fun _ h9 => h9) rfl dX4_count_17 ?_
      refine lv_goto (tgt := 85) hx hb dX4_count_20 (by decide) ?_
      exact W.iret (v := nI n) hx hb hr (fun zt ht hW => ⟨_, rfl, (by show _ = _; unfold es_cm; first | (rw [if_pos (show x = 0 from c_1)]; done) | (rw [if_neg (show ¬ x = 0 from c_1), if_pos (show x = 1 from c_13)]; done) | (rw [if_neg (show ¬ x = 0 from c_1), if_neg (show ¬ x = 1 from c_13), if_pos (show x = 2 from c_25)]; done) | (rw [if_neg (show ¬ x = 0 from c_1), if_neg (show ¬ x = 1 from c_13), if_neg (show ¬ x = 2 from c_25), if_pos (show x = 3 from c_37)]; done) | (rw [if_neg (show ¬ x = 0 from c_1), if_neg (show ¬ x = 1 from c_13), if_neg (show ¬ x = 2 from c_25), if_neg (show ¬ x = 3 from c_37), if_pos (show x = 4 from c_49)]; done) | (rw [if_neg (show ¬ x = 0 from c_1), if_neg (show ¬ x = 1 from c_13), if_neg (show ¬ x = 2 from c_25), if_neg (show ¬ x = 3 from c_37), if_neg (show ¬ x = 4 from c_49), if_pos (show x = 5 from c_61)]; done) | (rw [if_neg (show ¬ x = 0 from c_1), if_neg (show ¬ x = 1 from c_13), if_neg (show ¬ x = 2 from c_25), if_neg (show ¬ x = 3 from c_37), if_neg (show ¬ x = 4 from c_49), if_neg (show ¬ x = 5 from c_61), if_pos (show x = 6 from c_74)]; done) | (rw [if_neg (show ¬ x = 0 from c_1), if_neg (show ¬ x = 1 from c_13), if_neg (show ¬ x = 2 from c_25), if_neg (show ¬ x = 3 from c_37), if_neg (show ¬ x = 4 from c_49), if_neg (show ¬ x = 5 from c_61), if_neg (show ¬ x = 6 from c_74)]; done)), ht⟩) (fun _ h => by cases h) dX4_count_85
  ·
    refine lv_aload_n hx hb dX4_count_4 rfl (lv_at hl 0 rfl) ?_
    refine va_get (D := D) (ci := 4) (v := .int (nI tn)) (C := RX4) (T := TX4) (N := 21) hx hb hw iwX4 hown hK.1 hP 0 rfl rfl 4 (by decide) (hw _ xw_268) (fun _ h9 => h9) rfl dX4_count_5 ?_
    refine lv_goto (tgt := 85) hx hb dX4_count_8 (by decide) ?_
    exact W.iret (v := nI tn) hx hb hr (fun zt ht hW => ⟨_, rfl, (by show _ = _; unfold es_cm; first | (rw [if_pos (show x = 0 from c_1)]; done) | (rw [if_neg (show ¬ x = 0 from c_1), if_pos (show x = 1 from c_13)]; done) | (rw [if_neg (show ¬ x = 0 from c_1), if_neg (show ¬ x = 1 from c_13), if_pos (show x = 2 from c_25)]; done) | (rw [if_neg (show ¬ x = 0 from c_1), if_neg (show ¬ x = 1 from c_13), if_neg (show ¬ x = 2 from c_25), if_pos (show x = 3 from c_37)]; done) | (rw [if_neg (show ¬ x = 0 from c_1), if_neg (show ¬ x = 1 from c_13), if_neg (show ¬ x = 2 from c_25), if_neg (show ¬ x = 3 from c_37), if_pos (show x = 4 from c_49)]; done) | (rw [if_neg (show ¬ x = 0 from c_1), if_neg (show ¬ x = 1 from c_13), if_neg (show ¬ x = 2 from c_25), if_neg (show ¬ x = 3 from c_37), if_neg (show ¬ x = 4 from c_49), if_pos (show x = 5 from c_61)]; done) | (rw [if_neg (show ¬ x = 0 from c_1), if_neg (show ¬ x = 1 from c_13), if_neg (show ¬ x = 2 from c_25), if_neg (show ¬ x = 3 from c_37), if_neg (show ¬ x = 4 from c_49), if_neg (show ¬ x = 5 from c_61), if_pos (show x = 6 from c_74)]; done) | (rw [if_neg (show ¬ x = 0 from c_1), if_neg (show ¬ x = 1 from c_13), if_neg (show ¬ x = 2 from c_25), if_neg (show ¬ x = 3 from c_37), if_neg (show ¬ x = 4 from c_49), if_neg (show ¬ x = 5 from c_61), if_neg (show ¬ x = 6 from c_74)]; done)), ht⟩) (fun _ h => by cases h) dX4_count_85
set_option maxHeartbeats 1000000 in
set_option maxRecDepth 100000 in
/-- X4.clear  -/
theorem c_X4_clear (l : Launch) (D : va_G) (cI : ClassId) (sz : Nat) (mo : Nat) (ma : Nat) (mk : Nat) (mtx : Nat) (m0 : Nat) (m1 : Nat) (m2 : Nat) (m3 : Nat) (mb : Nat) (ar : Nat → Int32) (ki : Nat → Int32) (n : Nat) (tn : Nat) (fl : Int32) (fk : Int32) (ot : Int32) (of_ : Int32) (os_ : Int32) (rd : Nat) (sc : Nat) (ed : Nat) (ts : Int32) (tkd : Int32) (tl : Int32)  : Met l yX4_clear (Cond.code yX4_clear cX4_clear 2 (some .int) :: es_T) { frames := 1, cells := 0, slots := 0, locals := 21 } (va_Pc [.ref mo] (es_W D cI sz [(mo, .inr (4, [.ref ma, .ref mk, .ref mtx, .int (nI n), .int (nI tn), .ref m0, .ref m1, .ref m2, .ref m3, .int fl, .int fk, .int ot, .ref mb, .int of_, .int os_, .int (nI rd), .int (nI sc), .int (nI ed), .int ts, .int tkd, .int tl])), (ma, .inl (cI, 200, .inl ar)), (mk, .inl (cI, 20, .inl ki))])) (va_Qi (fun q _ => q = nI tn) (fun (u : Unit) zt => va_P D vwCl [(mo, .inr (4, [.ref ma, .ref mk, .ref mtx, .int (nI 0), .int (nI 0), .ref m0, .ref m1, .ref m2, .ref m3, .int (-1), .int (nI 0), .int ot, .ref mb, .int of_, .int os_, .int (nI 0), .int (nI 0), .int (nI 0), .int ts, .int tkd, .int tl])), (ma, .inl (cI, 200, .inl (fun _ => -1))), (mk, .inl (cI, 20, .inl (fun _ => -1)))] zt.heap ∧ va_D (va_A [(mo, .inr (4, [.ref ma, .ref mk, .ref mtx, .int (nI n), .int (nI tn), .ref m0, .ref m1, .ref m2, .ref m3, .int fl, .int fk, .int ot, .ref mb, .int of_, .int os_, .int (nI rd), .int (nI sc), .int (nI ed), .int ts, .int tkd, .int tl])), (ma, .inl (cI, 200, .inl ar)), (mk, .inl (cI, 20, .inl ki))] sz) [(mo, .inr (4, [.ref ma, .ref mk, .ref mtx, .int (nI 0), .int (nI 0), .ref m0, .ref m1, .ref m2, .ref m3, .int (-1), .int (nI 0), .int ot, .ref mb, .int of_, .int os_, .int (nI 0), .int (nI 0), .int (nI 0), .int ts, .int tkd, .int tl])), (ma, .inl (cI, 200, .inl (fun _ => -1))), (mk, .inl (cI, 20, .inl (fun _ => -1)))]) (va_A [(mo, .inr (4, [.ref ma, .ref mk, .ref mtx, .int (nI n), .int (nI tn), .ref m0, .ref m1, .ref m2, .ref m3, .int fl, .int fk, .int ot, .ref mb, .int of_, .int os_, .int (nI rd), .int (nI sc), .int (nI ed), .int ts, .int tkd, .int tl])), (ma, .inl (cI, 200, .inl ar)), (mk, .inl (cI, 20, .inl ki))] sz)) 0 0 (va_A [(mo, .inr (4, [.ref ma, .ref mk, .ref mtx, .int (nI n), .int (nI tn), .ref m0, .ref m1, .ref m2, .ref m3, .int fl, .int fk, .int ot, .ref mb, .int of_, .int os_, .int (nI rd), .int (nI sc), .int (nI ed), .int ts, .int tkd, .int tl])), (ma, .inl (cI, 200, .inl ar)), (mk, .inl (cI, 20, .inl ki))] sz) := by
  refine Met.ofW (cc := cX4_clear) (maxL := 2) (ret := (some .int)) (by decide) rfl ?_
  intro p e s m args below meth c s₁ B hml hv
  obtain ⟨rfl, hsz, hP, hK, hD0⟩ := hv
  have hx := B.exec
  have hb := B.bytes
  have hr := B.returns
  have hts := atoms_spec (ws := (Cond.code yX4_clear cX4_clear 2 (some .int) :: es_T)) B.pre
  have hw : ∀ w ∈ es_T, w.before _ s = true := fun w h => hts w (List.mem_cons_of_mem _ h)
  have hown : s.vm.findClass RX4 = some m.cls := findClass_of_methodNamed B.named
  have hlocks := B.notSynchronized
  have hRm : 1 ≤ (headSpec (Cond.code yX4_clear cX4_clear 2 (some .int) :: es_T) { frames := 1, cells := 0, slots := 0, locals := 21 }).room.frames ∧ 21 ≤ (headSpec (Cond.code yX4_clear cX4_clear 2 (some .int) :: es_T) { frames := 1, cells := 0, slots := 0, locals := 21 }).room.locals := ⟨Nat.le_refl _, Nat.le_refl _⟩
  have hRc : 0 ≤ (headSpec (Cond.code yX4_clear cX4_clear 2 (some .int) :: es_T) { frames := 1, cells := 0, slots := 0, locals := 21 }).room.cells ∧ 0 ≤ (headSpec (Cond.code yX4_clear cX4_clear 2 (some .int) :: es_T) { frames := 1, cells := 0, slots := 0, locals := 21 }).room.slots := ⟨Nat.le_refl _, Nat.le_refl _⟩
  subst hsz
  have hD := hD0.self (sz := s.heap.size)
  generalize hAe : va_A [(mo, .inr (4, [.ref ma, .ref mk, .ref mtx, .int (nI n), .int (nI tn), .ref m0, .ref m1, .ref m2, .ref m3, .int fl, .int fk, .int ot, .ref mb, .int of_, .int os_, .int (nI rd), .int (nI sc), .int (nI ed), .int ts, .int tkd, .int tl])), (ma, .inl (cI, 200, .inl ar)), (mk, .inl (cI, 20, .inl ki))] s.heap.size = A at hD ⊢
  have hA : ∀ q : Nat, s.heap.size ≤ q → A q := fun q h => by rw [← hAe]; exact Or.inr h
  have hS : va_S A s.heap s.heap [] := va_S.rf
  have hl := lv_entry ([.ref mo]) (n := 2) (Nat.le_of_ble_eq_true rfl)
  rw [lg_entry_eq]
  generalize (lg_sl ([.ref mo]) ++ List.replicate (2 - (lg_sl ([.ref mo])).length) Slot.unset).toArray = ls at hl ⊢
  have hl : lv_has ls 2 [(0, .ref mo)] := hl
  refine lv_aload_n hx hb dX4_clear_0 rfl (lv_at hl 0 rfl) ?_
  refine va_get (D := D) (ci := 4) (v := .int (nI tn)) (C := RX4) (T := TX4) (N := 21) hx hb hw iwX4 hown hK.1 hP 0 rfl rfl 4 (by decide) (hw _ xw_268) (fun _ h9 => h9) rfl dX4_clear_1 ?_
  refine lv_istore_n (lv' := [(1, .int (nI tn)), (0, .ref mo)]) hx hb dX4_clear_4 rfl hl (by decide) rfl (fun ls hl => ?_)
  refine lv_aload_n hx hb dX4_clear_5 rfl (lv_at hl 1 rfl) ?_
  refine es_cv (wr := []) (va_runV (As := []) (rest := []) ⟨hx, hb, hml, hown, hw⟩ (c_X4_forget l D cI s.heap.size mo ma mk mtx m0 m1 m2 m3 mb ar ki n tn fl fk ot of_ os_ rd sc ed ts tkd tl ) (cwV 0 hw (es_v xw_269 xw_270 xw_271 xw_272 xw_8) rfl rfl rfl kv_X4_forget ⟨Nat.le_trans (Nat.le_of_ble_eq_true rfl) hRm.1, Nat.le_trans (Nat.le_of_ble_eq_true rfl) hRm.2⟩) (es_WV hK (hP.sub (ws' := [(mo, .inr (4, [.ref ma, .ref mk, .ref mtx, .int (nI n), .int (nI tn), .ref m0, .ref m1, .ref m2, .ref m3, .int fl, .int fk, .int ot, .ref mb, .int of_, .int os_, .int (nI rd), .int (nI sc), .int (nI ed), .int ts, .int tkd, .int tl])), (ma, .inl (cI, 200, .inl ar)), (mk, .inl (cI, 20, .inl ki))]) [0, 1, 2] rfl) (hD.sub (ws' := [(mo, .inr (4, [.ref ma, .ref mk, .ref mtx, .int (nI n), .int (nI tn), .ref m0, .ref m1, .ref m2, .ref m3, .int fl, .int fk, .int ot, .ref mb, .int of_, .int os_, .int (nI rd), .int (nI sc), .int (nI ed), .int ts, .int tkd, .int tl])), (ma, .inl (cI, 200, .inl ar)), (mk, .inl (cI, 20, .inl ki))]) [0, 1, 2] (by decide) rfl) rfl rfl) rfl rfl hl.1 rfl (lv_room (Nat.le_of_ble_eq_true rfl)) dX4_clear_6 ⟨(Nat.zero_le _), (Nat.zero_le _)⟩) hP hD hS hA [0, 1, 2] [] rfl rfl (by decide) (by decide) (fun u_1 H locs hu_1 hP hD hS => ?_)
  have hP : va_P D vwCl [(mo, .inr (4, [.ref ma, .ref mk, .ref mtx, .int (nI 0), .int (nI 0), .ref m0, .ref m1, .ref m2, .ref m3, .int (-1), .int (nI 0), .int ot, .ref mb, .int of_, .int os_, .int (nI 0), .int (nI 0), .int (nI 0), .int ts, .int tkd, .int tl])), (ma, .inl (cI, 200, .inl (fun _ => -1))), (mk, .inl (cI, 20, .inl (fun _ => -1)))] H := hP
  have hD : va_D A [(mo, .inr (4, [.ref ma, .ref mk, .ref mtx, .int (nI 0), .int (nI 0), .ref m0, .ref m1, .ref m2, .ref m3, .int (-1), .int (nI 0), .int ot, .ref mb, .int of_, .int os_, .int (nI 0), .int (nI 0), .int (nI 0), .int ts, .int tkd, .int tl])), (ma, .inl (cI, 200, .inl (fun _ => -1))), (mk, .inl (cI, 20, .inl (fun _ => -1)))] := hD
  refine lv_iload_n hx hb dX4_clear_9 rfl (lv_at hl 0 rfl) ?_
  exact W.iret (v := nI tn) hx hb hr (fun zt ht hW => ⟨⟨_, (), rfl, rfl, ⟨by rw [ht]; exact hP.sub [0, 1, 2] rfl, hD.sub [0, 1, 2] (by decide) rfl⟩⟩, hS.F ht⟩) hS.2.2 dX4_clear_10
end
section
def es_tt (tx : Nat → Int32) (n : Nat) : Prop := ∀ j, j < n → ∃ q : Nat, q < 10 ∧ tx j = nI q
theorem es_tt_sy {tx : Nat → Int32} {n : Nat} (h : es_tt tx n) : es_sy (es_lk tx n) := fun j => by
  unfold es_lk
  by_cases hj : j < n
  · rw [if_pos hj]; exact Or.inr (h j hj)
  · rw [if_neg hj]; exact Or.inl rfl
theorem es_tt_of {tx ux : Nat → Int32} {n pl ou cn : Nat} {sy : Int64} (hs : es_tt tx n) (h1 : pl + ou ≤ n) (h : es_rep tx ux n pl ou sy cn) (hd : ∀ j, j < cn → es_dg sy j < 10) : es_tt ux (n - ou + cn) := by
  intro j h2
  rcases Nat.lt_or_ge j pl with h3 | h3
  · rw [h.1 j h3]; exact hs j (by omega)
  · rcases Nat.lt_or_ge j (pl + cn) with h5 | h5
    · have h6 := h.2.1 (j - pl) (by omega)
      rw [show pl + (j - pl) = j by omega] at h6
      exact ⟨_, hd (cn - 1 - (j - pl)) (by omega), h6⟩
    · have h6 := h.2.2 (j + ou - cn) (by omega) (by omega)
      rw [show j + ou - cn - ou + cn = j by omega] at h6
      rw [h6]
      exact hs _ (by omega)
theorem es_m1_lt {x : Int32} (h : x = -1) : x < 0 := by rw [h]; decide
theorem es_nlt_m1 {x : Int32} (h : ¬ x < 0) : ¬ x = -1 := fun z => h (es_m1_lt z)
theorem es_q_st2 {ar lk : Nat → Int32} {b i : Nat} {x : Int32} (ha : es_ta ar) (hs : es_sy lk) (h : x = es_q ar (es_at lk b) i) (h1 : ¬ x < 0) : ∃ q : Nat, q < 20 ∧ x = nI q := es_q_st ha hs h (es_nlt_m1 h1)
theorem es_q_neg {ar lk : Nat → Int32} {b i : Nat} {x : Int32} (ha : es_ta ar) (hs : es_sy lk) (h : x = es_q ar (es_at lk b) i) (h1 : x < 0) : es_q ar (es_at lk b) i = -1 := by
  rcases es_q_ok (g := es_at lk b) ha (fun k => hs (b + k)) i with h2 | ⟨q, hq, h2⟩
  · exact h2
  · rw [h, h2] at h1
    exact absurd h1 (nI_pos (by omega))
theorem es_q_in {ar mx : Nat → Int32} {n b i q s : Nat} (hq : q < 20) (h : nI q = es_q ar (es_at (es_lk mx n) b) i) (hn : b + i < n) (hs : s < 10) (h1 : mx (b + i) = nI s) : ar (10 * q + s) = es_q ar (es_at (es_lk mx n) b) (i + 1) := by
  rw [← es_q_s hq h]
  have e : es_at (es_lk mx n) b i = nI s := by
    show es_lk mx n (b + i) = nI s
    unfold es_lk
    rw [if_pos hn]; exact h1
  rw [e, if_neg (es_nnm (by omega)), nI_clamp (by omega)]
theorem es_q_out {ar mx : Nat → Int32} {n b i : Nat} (h : n ≤ b + i) : -1 = es_q ar (es_at (es_lk mx n) b) (i + 1) := (es_q_end (ar := ar) (g := es_at (es_lk mx n) b) (k := i) (es_lk_end h) 0).symm
theorem es_kd_neg {ar ki lk : Nat → Int32} {b i : Nat} (ha : es_ta ar) (hs : es_sy lk) (h : es_q ar (es_at lk b) i < 0) : es_kd ki (es_q ar (es_at lk b) i) = -1 := by
  rw [es_q_neg ha hs rfl h]; exact es_kd_m
theorem es_kd_q {ki : Nat → Int32} {y : Int32} {q : Nat} (e : y = nI q) (hq : q < 20) : ki y.toNatClampNeg = es_kd ki y := by
  unfold es_kd
  rw [if_neg (by rw [e]; exact es_nnm (by omega))]
theorem es_kd_m1 {ki : Nat → Int32} {y : Int32} {q : Nat} (hk : es_tk2 ki) (e : y = nI q) (hq : q < 20) (h : es_kd ki y < 0) : es_kd ki y = -1 := by
  rw [← es_kd_q e hq, e, nI_clamp (by omega)] at h ⊢
  rcases hk q hq with h1 | ⟨k, hk2, h1⟩
  · exact h1
  · rw [h1] at h; exact absurd h (nI_pos (by omega))
theorem es_subb {b i : Nat} : nI (b + i + 1) - nI b = nI (i + 1) := by
  rw [pk_sub (by omega)]; congr 1; omega
theorem es_rq {L : Nat} {q : Int32} (h : q = if 0 < L then nI 1 else nI 0) : ∃ m : Nat, ((m = 1 ∧ 0 < L) ∨ (m = 0 ∧ L = 0)) ∧ q = nI m := by
  by_cases h1 : 0 < L
  · exact ⟨1, Or.inl ⟨rfl, h1⟩, by rw [h, if_pos h1]⟩
  · exact ⟨0, Or.inr ⟨rfl, by omega⟩, by rw [h, if_neg h1]⟩
/-- what the model holds: tokens, and the failure beside them -/
def es_mdl (ar ki lk : Nat → Int32) (n c : Nat) (M : Nat → Nat → Int32) (tn : Nat) (fl fk : Int32) : Prop := es_cnt (es_Le ar ki lk) n c ∧ es_fnd ar ki lk M tn ∧ tn = es_tn (es_Le ar ki lk) c ∧ ((tn + 1 = c ∧ fl = nI (es_B (es_Le ar ki lk) tn) ∧ fk = nI (es_Lo ar lk (es_B (es_Le ar ki lk) tn))) ∨ (tn = c ∧ fl = -1 ∧ fk = nI 0))
def es_ph (ar ki lk : Nat → Int32) (n b ph : Nat) (fl fk : Int32) : Prop := (ph = 1 ∧ fl = -1 ∧ fk = nI 0) ∨ (ph = 0 ∧ fl = nI b ∧ fk = nI (es_Lo ar lk b) ∧ b < n ∧ es_Le ar ki lk b = 0)
theorem es_ph1 {ar ki lk : Nat → Int32} {n b ph : Nat} {fl fk : Int32} (hn : n ≤ 400) (h : es_ph ar ki lk n b ph fl fk) (h1 : ¬ 0 ≤ fl) : ph = 1 ∧ fl = -1 ∧ fk = nI 0 := by
  rcases h with h | ⟨-, h2, -, h3, -⟩
  · exact h
  · rw [h2] at h1; exact absurd (nI_pos' (by omega)) h1
theorem es_sa_end {ar ki lk : Nat → Int32} {E : Nat → Nat → Int32} {n tn b ph : Nat} {fl fk : Int32} (hE : es_fnd ar ki lk E tn) (htok : ∀ i, i < tn → es_B (es_Le ar ki lk) i < n ∧ 0 < es_Le ar ki lk (es_B (es_Le ar ki lk) i)) (hb : b = es_B (es_Le ar ki lk) tn) (hbn : b ≤ n) (h : es_ph ar ki lk n b ph fl fk) (hx : n ≤ b ∨ 0 ≤ fl) : ∃ c, es_mdl ar ki lk n c E tn fl fk := by
  rcases h with ⟨-, h1, h2⟩ | ⟨-, h1, h2, h3, h4⟩
  · have hbn2 : b = n := by
      rcases hx with h3 | h3
      · omega
      · rw [h1] at h3; exact absurd h3 (by decide)
    have hc := es_end_cnt (hb.symm.trans hbn2) htok
    refine ⟨tn, hc, hE, ?_, Or.inr ⟨rfl, h1, h2⟩⟩
    unfold es_tn
    rw [if_neg]
    intro ⟨h3, h4⟩
    have := (htok (tn - 1) (by omega)).2
    omega
  · have hc := es_fail_cnt (hb ▸ h3) (hb ▸ h4) htok
    refine ⟨tn + 1, hc, hE, ?_, Or.inl ⟨rfl, by rw [h1, hb], by rw [h2, hb]⟩⟩
    unfold es_tn
    rw [if_pos ⟨Nat.succ_pos _, by rw [Nat.add_sub_cancel, ← hb]; exact h4⟩]
    rfl
theorem es_nar1 {m : Nat} (h : m ≤ 1) : narrow .boolean (.int (nI m)) = .int (nI m) := by
  rcases Nat.le_one_iff_eq_zero_or_eq_one.mp h with rfl | rfl <;> rfl
/-- the old tokens and the old failure, as the model keeps them over an edit -/
def es_old (ar ki lk : Nat → Int32) (n c : Nat) (ob : Nat → Int32) (tn : Nat) (fl : Int32) : Prop := es_cnt (es_Le ar ki lk) n c ∧ (∀ j, j < tn → ob j = nI (es_B (es_Le ar ki lk) j)) ∧ ((tn + 1 = c ∧ fl = nI (es_B (es_Le ar ki lk) tn)) ∨ (tn = c ∧ fl = -1))
theorem es_bg {ar ki lk lk' : Nat → Int32} {ob : Nat → Int32} {n n' c tn pl ou cn b : Nat} {fl : Int32} (h : es_chg lk lk' n n' pl ou cn) (hcn : cn ≤ 16) (ho : es_old ar ki lk n c ob tn fl) (hb : b < n') (hp : pl + cn ≤ b) : (nI (b - cn + ou) = fl ∨ nI (b - cn + ou) = nI n ∨ ∃ w : Nat, w < tn ∧ ob w = nI (b - cn + ou)) ↔ es_stop (es_B (es_Le ar ki lk)) c pl ou cn b = true := by
  obtain ⟨h1, h2, h3⟩ := ho
  obtain ⟨g1, g2, g3, g4, -⟩ := h
  have hc := es_cnt_n h1
  rw [es_stop_iff]
  constructor
  · rintro (h4 | h4 | ⟨w, hw, h4⟩)
    · rcases h3 with ⟨e, h5⟩ | ⟨e, h5⟩
      · rw [h5] at h4
        have h6 := h1.1 tn (by omega)
        have h7 := (nI_eq (by omega) (by omega)).mp h4
        exact ⟨hp, tn, by omega, by omega⟩
      · rw [h5] at h4; exact absurd h4 (es_nnm (by omega))
    · have h7 := (nI_eq (by omega) (by omega)).mp h4
      omega
    · rw [h2 w hw] at h4
      have hwc : w < c := by rcases h3 with ⟨e, -⟩ | ⟨e, -⟩ <;> omega
      have h6 := h1.1 w hwc
      have h7 := (nI_eq (by omega) (by omega)).mp h4
      exact ⟨hp, w, hwc, by omega⟩
  · rintro ⟨-, i, hi, hB⟩
    rcases Nat.lt_or_ge i tn with h5 | h5
    · refine Or.inr (Or.inr ⟨i, h5, ?_⟩)
      rw [h2 i h5]; congr 1; omega
    · rcases h3 with ⟨e, h6⟩ | ⟨e, h6⟩
      · have e2 : i = tn := by omega
        left
        rw [h6, ← e2]; congr 1; omega
      · omega
theorem es_shr15 {sy : Int64} {k : Nat} (hk : k ≤ 15) : (sy >>> ((nI (4 * k)).toInt64 &&& 63)) &&& 15 = lN (es_dg sy k) := by
  apply Int64.toBitVec.inj
  have e1 : ((nI (4 * k)).toInt64 &&& 63).toBitVec.smod 64 = BitVec.ofNat 64 (4 * k) := by
    have : ∀ q : Fin 64, ((nI q.val).toInt64 &&& 63).toBitVec.smod 64 = BitVec.ofNat 64 q.val := by decide +kernel
    exact this ⟨4 * k, by omega⟩
  show (sy.toBitVec.sshiftRight' (((nI (4 * k)).toInt64 &&& 63).toBitVec.smod 64)) &&& (15 : Int64).toBitVec = BitVec.ofNat 64 (es_dg sy k)
  rw [e1]
  apply BitVec.eq_of_toNat_eq
  have e2 : (15 : Int64).toBitVec.toNat = 2 ^ 4 - 1 := by decide
  rw [BitVec.toNat_and, e2, Nat.and_two_pow_sub_one_eq_mod, BitVec.toNat_ofNat]
  have h1 := es_dg_lt sy k
  rw [Nat.mod_eq_of_lt (show es_dg sy k < 2 ^ 64 by omega)]
  have e3 : (BitVec.ofNat 64 (4 * k)).toNat = 4 * k := by rw [BitVec.toNat_ofNat]; omega
  rw [BitVec.sshiftRight', e3]
  unfold es_dg
  -- the lowest four bits of an arithmetic shift are those of a logical one
  have key : ∀ i, i < 4 → (sy.toBitVec.sshiftRight (4 * k)).toNat.testBit i = (sy.toBitVec.toNat / 2 ^ (4 * k)).testBit i := by
    intro i hi
    rw [BitVec.testBit_toNat, BitVec.getLsbD_sshiftRight, ← Nat.shiftRight_eq_div_pow, Nat.testBit_shiftRight, BitVec.testBit_toNat]
    have h2 : ¬ 64 ≤ i := by omega
    have h3 : 4 * k + i < 64 := by omega
    simp [h2, h3]
  rw [show (16 : Nat) = 2 ^ 4 by decide]
  apply Nat.eq_of_testBit_eq
  intro i
  rw [Nat.testBit_mod_two_pow, Nat.testBit_mod_two_pow]
  by_cases hi : i < 4
  · rw [key i hi]
  · simp [hi]
/-- a row moved in place -/
def es_mvA (mx E : Nat → Int32) (lo k hi cn ou : Nat) : Prop := (∀ j, j < lo → E j = mx j) ∧ (∀ j, lo ≤ j → j < k → E j = mx j) ∧ ∀ j, k ≤ j → lo ≤ j → j < hi → E j = mx (j - cn + ou)
def es_mvB (mx E : Nat → Int32) (lo k hi cn ou : Nat) : Prop := (∀ j, j < lo → E j = mx j) ∧ (∀ j, lo ≤ j → j < k → E j = mx (j - cn + ou)) ∧ ∀ j, k ≤ j → E j = mx j
theorem es_mvA_s {mx E : Nat → Int32} {lo k hi cn ou : Nat} (h : es_mvA mx E lo (k + 1) hi cn ou) (hk : lo ≤ k) (ho : ou < cn) (hc : cn ≤ lo) : es_mvA mx (upd E k (E (k - cn + ou))) lo k hi cn ou := by
  have e : E (k - cn + ou) = mx (k - cn + ou) := by
    rcases Nat.lt_or_ge (k - cn + ou) lo with h1 | h1
    · exact h.1 _ h1
    · exact h.2.1 _ h1 (by omega)
  refine ⟨fun j hj => (pk_un (by omega)).trans (h.1 j hj), fun j h1 h2 => (pk_un (by omega)).trans (h.2.1 j h1 (by omega)), fun j h1 h2 h3 => ?_⟩
  by_cases e2 : j = k
  · rw [e2, pk_us, e]
  · exact (pk_un e2).trans (h.2.2 j (by omega) h2 h3)
theorem es_mvB_s {mx E : Nat → Int32} {lo k hi cn ou : Nat} (h : es_mvB mx E lo k hi cn ou) (hk : lo ≤ k) (ho : cn ≤ ou) (hc : cn ≤ lo) : es_mvB mx (upd E k (E (k - cn + ou))) lo (k + 1) hi cn ou := by
  have e : E (k - cn + ou) = mx (k - cn + ou) := h.2.2 _ (by omega)
  refine ⟨fun j hj => (pk_un (by omega)).trans (h.1 j hj), fun j h1 h2 => ?_, fun j h1 => (pk_un (by omega)).trans (h.2.2 j (by omega))⟩
  by_cases e2 : j = k
  · rw [e2, pk_us, e]
  · exact (pk_un e2).trans (h.2.1 j h1 (by omega))
def es_mvd2 (mx E : Nat → Int32) (lo hi pl cn ou : Nat) : Prop := (∀ j, j < pl → E j = mx j) ∧ ∀ j, lo ≤ j → j < hi → E j = mx (j - cn + ou)
theorem es_rep_of2 {mx cp E : Nat → Int32} {n pl ou : Nat} {sy : Int64} {cn : Nat} (h1 : pl + ou ≤ n) (hm : es_mvd2 mx cp (pl + cn) (n - ou + cn) pl cn ou) (h : es_rpi cp E pl sy cn cn) : es_rep mx E n pl ou sy cn := by
  refine ⟨fun j hj => ?_, h.2, fun j hj hj2 => ?_⟩
  · rw [h.1 j (Or.inl hj), hm.1 j hj]
  · rw [h.1 _ (Or.inr (by omega)), hm.2 _ (by omega) (by omega)]
    congr 1
    omega
theorem es_i_le {ar mx : Nat → Int32} {n b i q : Nat} (hn : n ≤ 400) (h : nI q = es_q ar (es_at (es_lk mx n) b) i) (hq : q < 20) : i + 1 ≤ 401 := by
  rcases Nat.lt_or_ge 400 i with h1 | h1
  · exact absurd (h.trans (es_q_big hn h1)) (es_nnm (by omega))
  · omega
theorem es_bgA {P : Prop} {i bg : Nat} {x o : Int32} {ob : Nat → Int32} (h : (bg = 1 ∧ (x = o ∨ P ∨ ∃ w : Nat, w < i ∧ ob w = x)) ∨ (bg = 0 ∧ ¬ (x = o ∨ P ∨ ∃ w : Nat, w < i ∧ ob w = x))) (h1 : ¬ bg = 0) : (1 = 1 ∧ (x = o ∨ P ∨ ∃ w : Nat, w < i + 1 ∧ ob w = x)) ∨ (1 = 0 ∧ ¬ (x = o ∨ P ∨ ∃ w : Nat, w < i + 1 ∧ ob w = x)) := by
  rcases h with ⟨-, h2⟩ | ⟨h2, -⟩
  · refine Or.inl ⟨rfl, ?_⟩
    rcases h2 with h2 | h2 | ⟨w, h2, h3⟩
    · exact Or.inl h2
    · exact Or.inr (Or.inl h2)
    · exact Or.inr (Or.inr ⟨w, by omega, h3⟩)
  · exact absurd h2 h1
theorem es_bgB {P : Prop} {i : Nat} {x o : Int32} {ob : Nat → Int32} (h : ob i = x) : (1 = 1 ∧ (x = o ∨ P ∨ ∃ w : Nat, w < i + 1 ∧ ob w = x)) ∨ (1 = 0 ∧ ¬ (x = o ∨ P ∨ ∃ w : Nat, w < i + 1 ∧ ob w = x)) := Or.inl ⟨rfl, Or.inr (Or.inr ⟨i, by omega, h⟩)⟩
theorem es_bgC {P : Prop} {i bg : Nat} {x o : Int32} {ob : Nat → Int32} (h : (bg = 1 ∧ (x = o ∨ P ∨ ∃ w : Nat, w < i ∧ ob w = x)) ∨ (bg = 0 ∧ ¬ (x = o ∨ P ∨ ∃ w : Nat, w < i ∧ ob w = x))) (h1 : bg = 0) (h2 : ¬ ob i = x) : (0 = 1 ∧ (x = o ∨ P ∨ ∃ w : Nat, w < i + 1 ∧ ob w = x)) ∨ (0 = 0 ∧ ¬ (x = o ∨ P ∨ ∃ w : Nat, w < i + 1 ∧ ob w = x)) := by
  rcases h with ⟨h3, -⟩ | ⟨-, h3⟩
  · omega
  · refine Or.inr ⟨rfl, ?_⟩
    rintro (h4 | h4 | ⟨w, h4, h5⟩)
    · exact h3 (Or.inl h4)
    · exact h3 (Or.inr (Or.inl h4))
    · by_cases e : w = i
      · rw [e] at h5; exact h2 h5
      · exact h3 (Or.inr (Or.inr ⟨w, by omega, h5⟩))
end
section
set_option maxHeartbeats 1000000 in
set_option maxRecDepth 100000 in
theorem lp_mScan {p : Program} {l : Launch} {e : Env} {R : Room} {s : State} {m : MethodId} {args : Array Value} {below : List Frame} {meth : Method} {c : Code} {Q : State → Prop} {A : Nat → Prop} {H0 : Heap} (D : va_G) (cI : ClassId) (mo : Nat) (ma : Nat) (mk : Nat) (mtx : Nat) (m0 : Nat) (m1 : Nat) (m2 : Nat) (m3 : Nat) (mb : Nat) (ar : Nat → Int32) (ki : Nat → Int32) (mx : Nat → Int32) (n : Nat) (tn : Nat) (fl : Int32) (fk : Int32) (ot : Int32) (of_ : Int32) (os_ : Int32) (rd : Nat) (sc : Nat) (ed : Nat) (b : Nat) (hx : p.tables.exec = Jvm.exec) (hb : c.code = cX4_scan) (hml : c.maxLocals = 4) (hown : s.vm.findClass RX4 = some m.cls) (hw : ∀ w ∈ es_T, w.before args s = true) (hK : es_K D cI s) (hRm : 0 ≤ R.frames ∧ 0 ≤ R.locals) (hA : ∀ q : Nat, H0.size ≤ q → A q) (hta : es_ta ar) (htk : es_tk2 ki) (htt : es_tt mx n) (hn : n ≤ 400) (hbn : b < n) (hex : ∀ (L : Nat) (le : Nat) (kd : Int32), (L = es_Lo ar (es_lk mx n) b) → (le = es_Le ar ki (es_lk mx n) b) → (kd = es_Kd ar ki (es_lk mx n) b) → ∀ (H : Heap) (locs : List Loc), va_P D vwCl [(mo, .inr (4, [.ref ma, .ref mk, .ref mtx, .int (nI n), .int (nI tn), .ref m0, .ref m1, .ref m2, .ref m3, .int fl, .int fk, .int ot, .ref mb, .int of_, .int os_, .int (nI rd), .int (nI sc), .int (nI ed), .int (nI le), .int kd, .int (nI L)])), (ma, .inl (cI, 200, .inl ar)), (mk, .inl (cI, 20, .inl ki)), (mtx, .inl (cI, 400, .inl mx))] H → va_D A [(mo, .inr (4, [.ref ma, .ref mk, .ref mtx, .int (nI n), .int (nI tn), .ref m0, .ref m1, .ref m2, .ref m3, .int fl, .int fk, .int ot, .ref mb, .int of_, .int os_, .int (nI rd), .int (nI sc), .int (nI ed), .int (nI le), .int kd, .int (nI L)])), (ma, .inl (cI, 200, .inl ar)), (mk, .inl (cI, 20, .inl ki)), (mtx, .inl (cI, 400, .inl mx))] → va_S A H0 H locs → ∀ (ls : Array Slot), lv_has ls 4 [(0, .ref mo)] →  W p l e R s m args below meth c H locs 0 0 Q (F0 m 98 ls [])) : ∀ (N : Nat) (i : Nat) (x : Int32) (le : Nat) (kd : Int32), (i ≤ 401) → (x = es_q ar (es_at (es_lk mx n) b) i) → (∀ j, j < i → es_q ar (es_at (es_lk mx n) b) j ≠ -1) → (le = es_bl ar ki (es_at (es_lk mx n) b) i) → (kd = es_bk ar ki (es_at (es_lk mx n) b) i) → (402 - i) < N → ∀ (H : Heap) (locs : List Loc), va_P D vwCl [(mo, .inr (4, [.ref ma, .ref mk, .ref mtx, .int (nI n), .int (nI tn), .ref m0, .ref m1, .ref m2, .ref m3, .int fl, .int fk, .int ot, .ref mb, .int of_, .int os_, .int (nI rd), .int (nI sc), .int (nI ed), .int (nI le), .int kd, .int (nI i)])), (ma, .inl (cI, 200, .inl ar)), (mk, .inl (cI, 20, .inl ki)), (mtx, .inl (cI, 400, .inl mx))] H → va_D A [(mo, .inr (4, [.ref ma, .ref mk, .ref mtx, .int (nI n), .int (nI tn), .ref m0, .ref m1, .ref m2, .ref m3, .int fl, .int fk, .int ot, .ref mb, .int of_, .int os_, .int (nI rd), .int (nI sc), .int (nI ed), .int (nI le), .int kd, .int (nI i)])), (ma, .inl (cI, 200, .inl ar)), (mk, .inl (cI, 20, .inl ki)), (mtx, .inl (cI, 400, .inl mx))] → va_S A H0 H locs → ∀ (ls : Array Slot), lv_has ls 4 [(0, .ref mo), (1, .int (nI b)), (2, .int x), (3, .int (nI (b + i)))] →  W p l e R s m args below meth c H locs 0 0 Q (F0 m 19 ls []) := by
  intro N
  induction N with
  | zero =>
    intro i x le kd hi hx_ hne hle hkd hN
    exact absurd hN (Nat.not_lt_zero _)
  | succ N ih =>
    intro i x le kd hi hx_ hne hle hkd hN H locs hP hD hS ls hl
    have hsy := es_tt_sy htt
    refine lv_iload_n hx hb dX4_scan_19 rfl (lv_at hl 2 rfl) ?_
    refine lv_if_lt (tgt := 98) hx hb dX4_scan_20 (by decide) (fun c_20 => ?_) (fun c_20 => ?_)
    ·
      exact hex i le kd (es_exit ⟨(es_q_neg hta hsy hx_ c_20), hne⟩ hle hkd).1 (es_exit ⟨(es_q_neg hta hsy hx_ c_20), hne⟩ hle hkd).2.1 (es_exit ⟨(es_q_neg hta hsy hx_ c_20), hne⟩ hle hkd).2.2  H locs (hP.sub [0, 1, 2, 3] rfl) (hD.sub [0, 1, 2, 3] (by decide) rfl) hS ls (lv_sub hl [0] rfl)
    ·
      obtain ⟨q0, hq0, rfl⟩ := es_q_st2 hta hsy hx_ c_20
      refine lv_aload_n hx hb dX4_scan_23 rfl (lv_at hl 0 rfl) ?_
      refine lv_dup hx hb dX4_scan_24 rfl ?_
      refine va_get (D := D) (ci := 4) (v := .int (nI i)) (C := RX4) (T := TX4) (N := 21) hx hb hw iwX4 hown hK.1 hP 0 rfl rfl 20 (by decide) (hw _ xw_302) (fun _ h9 => h9) rfl dX4_scan_25 ?_
      refine lv_iconst (v := nI 1) hx hb dX4_scan_28 (by decide) ?_
      refine lv_iadd hx hb dX4_scan_29 ?_
      refine es_top (y := nI (i + 1)) (nI_add _ _) ?_
      refine va_put (D := D) (ci := 4) (v := .int (nI (i + 1))) (ty := .int) (C := RX4) (T := TX4) (N := 21) hx hb hw iwX4 tyX4 tyX4_ok nmX4 hown hK.1 hP hD hS 0 rfl rfl 20 (by decide) (hw _ xw_302) (fun _ h9 => h9) rfl (by decide +kernel) rfl rfl (Nat.le_of_ble_eq_true rfl) dX4_scan_30 (fun H locs hP hD hS => ?_)
      have hP : va_P D vwCl [(mo, .inr (4, [.ref ma, .ref mk, .ref mtx, .int (nI n), .int (nI tn), .ref m0, .ref m1, .ref m2, .ref m3, .int fl, .int fk, .int ot, .ref mb, .int of_, .int os_, .int (nI rd), .int (nI sc), .int (nI ed), .int (nI le), .int kd, .int (nI (i + 1))])), (ma, .inl (cI, 200, .inl ar)), (mk, .inl (cI, 20, .inl ki)), (mtx, .inl (cI, 400, .inl mx))] H := hP
      have hD : va_D A [(mo, .inr (4, [.ref ma, .ref mk, .ref mtx, .int (nI n), .int (nI tn), .ref m0, .ref m1, .ref m2, .ref m3, .int fl, .int fk, .int ot, .ref mb, .int of_, .int os_, .int (nI rd), .int (nI sc), .int (nI ed), .int (nI le), .int kd, .int (nI (i + 1))])), (ma, .inl (cI, 200, .inl ar)), (mk, .inl (cI, 20, .inl ki)), (mtx, .inl (cI, 400, .inl mx))] := hD
      refine lv_iload_n hx hb dX4_scan_33 rfl (lv_at hl 3 rfl) ?_
      refine lv_aload_n hx hb dX4_scan_34 rfl (lv_at hl 0 rfl) ?_
      refine va_get (D := D) (ci := 4) (v := .int (nI n)) (C := RX4) (T := TX4) (N := 21) hx hb hw iwX4 hown hK.1 hP 0 rfl rfl 3 (by decide) (hw _ xw_260) (fun _ h9 => h9) rfl dX4_scan_35 ?_
      refine lv_icmp_ge (tgt := 60) hx hb dX4_scan_38 (by decide) (fun c_38 => ?_) (fun c_38 => ?_)
      ·
        have c_38 := (nI_leI (by omega) (by omega)).mp c_38
        refine lv_iconst (v := (-1)) hx hb dX4_scan_60 (by decide) ?_
        refine es_top (y := es_q ar (es_at (es_lk mx n) b) (i + 1)) (es_q_out (by omega)) ?_
        refine lv_istore_n (lv' := [(2, .int (es_q ar (es_at (es_lk mx n) b) (i + 1))), (0, .ref mo), (1, .int (nI b)), (3, .int (nI (b + i)))]) hx hb dX4_scan_61 rfl hl (by decide) rfl (fun ls hl => ?_)
        refine lv_iinc (v := nI ((b + i) + 1)) (lv' := [(3, .int (nI ((b + i) + 1))), (2, .int (es_q ar (es_at (es_lk mx n) b) (i + 1))), (0, .ref mo), (1, .int (nI b))]) hx hb dX4_scan_62 hl (k := 3) rfl (nI_1 _) (by decide) rfl (fun ls hl => ?_)
        refine lv_iload_n hx hb dX4_scan_65 rfl (lv_at hl 1 rfl) ?_
        refine lv_if_lt (tgt := 19) hx hb dX4_scan_66 (by decide) (fun c_66 => ?_) (fun c_66 => ?_)
        ·
          exact ih (i + 1) (es_q ar (es_at (es_lk mx n) b) (i + 1)) le kd (es_i_le hn hx_ hq0) rfl (lt_s hne (fun z => es_nnm (by omega) (hx_.trans z))) (hle.trans (es_bl_s0 (es_kd_neg hta hsy c_66)).1.symm) (hkd.trans (es_bl_s0 (es_kd_neg hta hsy c_66)).2.symm) (by have := es_i_le hn hx_ hq0; omega) H locs (hP.sub [0, 1, 2, 3] rfl) (hD.sub [0, 1, 2, 3] (by decide) rfl) hS ls (lv_sub hl [2, 3, 1, 0] rfl)
        ·
          obtain ⟨q1, hq1, eq1⟩ := es_q_st2 hta hsy rfl c_66
          refine lv_aload_n hx hb dX4_scan_69 rfl (lv_at hl 2 rfl) ?_
          refine va_get (D := D) (ci := 4) (v := .ref mk) (C := RX4) (T := TX4) (N := 21) hx hb hw iwX4 hown hK.1 hP 0 rfl rfl 1 (by decide) (hw _ xw_293) (fun _ h9 => h9) rfl dX4_scan_70 ?_
          refine lv_iload_n hx hb dX4_scan_73 rfl (lv_at hl 1 rfl) ?_
          refine va_iald hx hb hK.1 hP 2 0 rfl rfl (by rw [eq1]; exact vp_in_nI hq1 (by decide)) dX4_scan_74 ?_
          refine es_top (y := es_kd ki (es_q ar (es_at (es_lk mx n) b) (i + 1))) (es_kd_q eq1 hq1) ?_
          refine lv_if_lt (tgt := 19) hx hb dX4_scan_75 (by decide) (fun c_75 => ?_) (fun c_75 => ?_)
          ·
            exact ih (i + 1) (es_q ar (es_at (es_lk mx n) b) (i + 1)) le kd (es_i_le hn hx_ hq0) rfl (lt_s hne (fun z => es_nnm (by omega) (hx_.trans z))) (hle.trans (es_bl_s0 (es_kd_m1 htk eq1 hq1 c_75)).1.symm) (hkd.trans (es_bl_s0 (es_kd_m1 htk eq1 hq1 c_75)).2.symm) (by have := es_i_le hn hx_ hq0; omega) H locs (hP.sub [0, 1, 2, 3] rfl) (hD.sub [0, 1, 2, 3] (by decide) rfl) hS ls (lv_sub hl [2, 3, 1, 0] rfl)
          ·
            refine lv_aload_n hx hb dX4_scan_78 rfl (lv_at hl 2 rfl) ?_
            refine lv_iload_n hx hb dX4_scan_79 rfl (lv_at hl 0 rfl) ?_
            refine lv_iload_n hx hb dX4_scan_80 rfl (lv_at hl 3 rfl) ?_
            refine lv_isub hx hb dX4_scan_81 ?_
            refine es_top (y := nI (i + 1)) es_subb ?_
            refine va_put (D := D) (ci := 4) (v := .int (nI (i + 1))) (ty := .int) (C := RX4) (T := TX4) (N := 21) hx hb hw iwX4 tyX4 tyX4_ok nmX4 hown hK.1 hP hD hS 0 rfl rfl 18 (by decide) (hw _ xw_303) (fun _ h9 => h9) rfl (by decide +kernel) rfl rfl (Nat.le_of_ble_eq_true rfl) dX4_scan_82 (fun H locs hP hD hS => ?_)
            have hP : va_P D vwCl [(mo, .inr (4, [.ref ma, .ref mk, .ref mtx, .int (nI n), .int (nI tn), .ref m0, .ref m1, .ref m2, .ref m3, .int fl, .int fk, .int ot, .ref mb, .int of_, .int os_, .int (nI rd), .int (nI sc), .int (nI ed), .int (nI (i + 1)), .int kd, .int (nI (i + 1))])), (ma, .inl (cI, 200, .inl ar)), (mk, .inl (cI, 20, .inl ki)), (mtx, .inl (cI, 400, .inl mx))] H := hP
            have hD : va_D A [(mo, .inr (4, [.ref ma, .ref mk, .ref mtx, .int (nI n), .int (nI tn), .ref m0, .ref m1, .ref m2, .ref m3, .int fl, .int fk, .int ot, .ref mb, .int of_, .int os_, .int (nI rd), .int (nI sc), .int (nI ed), .int (nI (i + 1)), .int kd, .int (nI (i + 1))])), (ma, .inl (cI, 200, .inl ar)), (mk, .inl (cI, 20, .inl ki)), (mtx, .inl (cI, 400, .inl mx))] := hD
            refine lv_aload_n hx hb dX4_scan_85 rfl (lv_at hl 2 rfl) ?_
            refine lv_aload_n hx hb dX4_scan_86 rfl (lv_at hl 2 rfl) ?_
            refine va_get (D := D) (ci := 4) (v := .ref mk) (C := RX4) (T := TX4) (N := 21) hx hb hw iwX4 hown hK.1 hP 0 rfl rfl 1 (by decide) (hw _ xw_293) (fun _ h9 => h9) rfl dX4_scan_87 ?_
            refine lv_iload_n hx hb dX4_scan_90 rfl (lv_at hl 1 rfl) ?_
            refine va_iald hx hb hK.1 hP 2 0 rfl rfl (by rw [eq1]; exact vp_in_nI hq1 (by decide)) dX4_scan_91 ?_
            refine es_top (y := es_kd ki (es_q ar (es_at (es_lk mx n) b) (i + 1))) (es_kd_q eq1 hq1) ?_
            refine va_put (D := D) (ci := 4) (v := .int (es_kd ki (es_q ar (es_at (es_lk mx n) b) (i + 1)))) (ty := .int) (C := RX4) (T := TX4) (N := 21) hx hb hw iwX4 tyX4 tyX4_ok nmX4 hown hK.1 hP hD hS 0 rfl rfl 19 (by decide) (hw _ xw_307) (fun _ h9 => h9) rfl (by decide +kernel) rfl rfl (Nat.le_of_ble_eq_true rfl) dX4_scan_92 (fun H locs hP hD hS => ?_)
            have hP : va_P D vwCl [(mo, .inr (4, [.ref ma, .ref mk, .ref mtx, .int (nI n), .int (nI tn), .ref m0, .ref m1, .ref m2, .ref m3, .int fl, .int fk, .int ot, .ref mb, .int of_, .int os_, .int (nI rd), .int (nI sc), .int (nI ed), .int (nI (i + 1)), .int (es_kd ki (es_q ar (es_at (es_lk mx n) b) (i + 1))), .int (nI (i + 1))])), (ma, .inl (cI, 200, .inl ar)), (mk, .inl (cI, 20, .inl ki)), (mtx, .inl (cI, 400, .inl mx))] H := hP
            have hD : va_D A [(mo, .inr (4, [.ref ma, .ref mk, .ref mtx, .int (nI n), .int (nI tn), .ref m0, .ref m1, .ref m2, .ref m3, .int fl, .int fk, .int ot, .ref mb, .int of_, .int os_, .int (nI rd), .int (nI sc), .int (nI ed), .int (nI (i + 1)), .int (es_kd ki (es_q ar (es_at (es_lk mx n) b) (i + 1))), .int (nI (i + 1))])), (ma, .inl (cI, 200, .inl ar)), (mk, .inl (cI, 20, .inl ki)), (mtx, .inl (cI, 400, .inl mx))] := hD
            refine lv_goto (tgt := 19) hx hb dX4_scan_95 (by decide) ?_
            exact ih (i + 1) (es_q ar (es_at (es_lk mx n) b) (i + 1)) (i + 1) (es_kd ki (es_q ar (es_at (es_lk mx n) b) (i + 1))) (es_i_le hn hx_ hq0) rfl (lt_s hne (fun z => es_nnm (by omega) (hx_.trans z))) (es_bl_s1 (es_nlt_m1 c_75)).1.symm (es_bl_s1 (es_nlt_m1 c_75)).2.symm (by have := es_i_le hn hx_ hq0; omega) H locs (hP.sub [0, 1, 2, 3] rfl) (hD.sub [0, 1, 2, 3] (by decide) rfl) hS ls (lv_sub hl [2, 3, 1, 0] rfl)
      ·
        have c_38 := (mt (nI_leI (by omega) (by omega)).mpr c_38)
        obtain ⟨s0, hs0, hs1⟩ := htt (b + i) (by omega)
        refine lv_aload_n hx hb dX4_scan_41 rfl (lv_at hl 0 rfl) ?_
        refine va_get (D := D) (ci := 4) (v := .ref ma) (C := RX4) (T := TX4) (N := 21) hx hb hw iwX4 hown hK.1 hP 0 rfl rfl 0 (by decide) (hw _ xw_261) (fun _ h9 => h9) rfl dX4_scan_42 ?_
        refine lv_bipush (v := nI 10) hx hb dX4_scan_45 (by decide) ?_
        refine lv_iload_n hx hb dX4_scan_47 rfl (lv_at hl 2 rfl) ?_
        refine lv_imul hx hb dX4_scan_48 ?_
        refine es_top (y := nI (10 * q0)) (pk_mul _ _) ?_
        refine lv_aload_n hx hb dX4_scan_49 rfl (lv_at hl 0 rfl) ?_
        refine va_get (D := D) (ci := 4) (v := .ref mtx) (C := RX4) (T := TX4) (N := 21) hx hb hw iwX4 hown hK.1 hP 0 rfl rfl 2 (by decide) (hw _ xw_266) (fun _ h9 => h9) rfl dX4_scan_50 ?_
        refine lv_iload_n hx hb dX4_scan_53 rfl (lv_at hl 3 rfl) ?_
        refine es_iald hx hb hK.1 hP 3 0 rfl rfl (by omega) (Nat.le_of_ble_eq_true rfl) dX4_scan_54 ?_
        refine es_top (y := nI s0) hs1 ?_
        refine lv_iadd hx hb dX4_scan_55 ?_
        refine es_top (y := nI ((10 * q0) + s0)) (nI_add _ _) ?_
        refine es_iald hx hb hK.1 hP 1 0 rfl rfl (by omega) (Nat.le_of_ble_eq_true rfl) dX4_scan_56 ?_
        refine es_top (y := es_q ar (es_at (es_lk mx n) b) (i + 1)) (es_q_in hq0 hx_ (by omega) hs0 hs1) ?_
        refine lv_goto (tgt := 61) hx hb dX4_scan_57 (by decide) ?_
        refine lv_istore_n (lv' := [(2, .int (es_q ar (es_at (es_lk mx n) b) (i + 1))), (0, .ref mo), (1, .int (nI b)), (3, .int (nI (b + i)))]) hx hb dX4_scan_61 rfl hl (by decide) rfl (fun ls hl => ?_)
        refine lv_iinc (v := nI ((b + i) + 1)) (lv' := [(3, .int (nI ((b + i) + 1))), (2, .int (es_q ar (es_at (es_lk mx n) b) (i + 1))), (0, .ref mo), (1, .int (nI b))]) hx hb dX4_scan_62 hl (k := 3) rfl (nI_1 _) (by decide) rfl (fun ls hl => ?_)
        refine lv_iload_n hx hb dX4_scan_65 rfl (lv_at hl 1 rfl) ?_
        refine lv_if_lt (tgt := 19) hx hb dX4_scan_66 (by decide) (fun c_66 => ?_) (fun c_66 => ?_)
        ·
          exact ih (i + 1) (es_q ar (es_at (es_lk mx n) b) (i + 1)) le kd (es_i_le hn hx_ hq0) rfl (lt_s hne (fun z => es_nnm (by omega) (hx_.trans z))) (hle.trans (es_bl_s0 (es_kd_neg hta hsy c_66)).1.symm) (hkd.trans (es_bl_s0 (es_kd_neg hta hsy c_66)).2.symm) (by have := es_i_le hn hx_ hq0; omega) H locs (hP.sub [0, 1, 2, 3] rfl) (hD.sub [0, 1, 2, 3] (by decide) rfl) hS ls (lv_sub hl [2, 3, 1, 0] rfl)
        ·
          obtain ⟨q1, hq1, eq1⟩ := es_q_st2 hta hsy rfl c_66
          refine lv_aload_n hx hb dX4_scan_69 rfl (lv_at hl 2 rfl) ?_
          refine va_get (D := D) (ci := 4) (v := .ref mk) (C := RX4) (T := TX4) (N := 21) hx hb hw iwX4 hown hK.1 hP 0 rfl rfl 1 (by decide) (hw _ xw_293) (fun _ h9 => h9) rfl dX4_scan_70 ?_
          refine lv_iload_n hx hb dX4_scan_73 rfl (lv_at hl 1 rfl) ?_
          refine va_iald hx hb hK.1 hP 2 0 rfl rfl (by rw [eq1]; exact vp_in_nI hq1 (by decide)) dX4_scan_74 ?_
          refine es_top (y := es_kd ki (es_q ar (es_at (es_lk mx n) b) (i + 1))) (es_kd_q eq1 hq1) ?_
          refine lv_if_lt (tgt := 19) hx hb dX4_scan_75 (by decide) (fun c_75 => ?_) (fun c_75 => ?_)
          ·
            exact ih (i + 1) (es_q ar (es_at (es_lk mx n) b) (i + 1)) le kd (es_i_le hn hx_ hq0) rfl (lt_s hne (fun z => es_nnm (by omega) (hx_.trans z))) (hle.trans (es_bl_s0 (es_kd_m1 htk eq1 hq1 c_75)).1.symm) (hkd.trans (es_bl_s0 (es_kd_m1 htk eq1 hq1 c_75)).2.symm) (by have := es_i_le hn hx_ hq0; omega) H locs (hP.sub [0, 1, 2, 3] rfl) (hD.sub [0, 1, 2, 3] (by decide) rfl) hS ls (lv_sub hl [2, 3, 1, 0] rfl)
          ·
            refine lv_aload_n hx hb dX4_scan_78 rfl (lv_at hl 2 rfl) ?_
            refine lv_iload_n hx hb dX4_scan_79 rfl (lv_at hl 0 rfl) ?_
            refine lv_iload_n hx hb dX4_scan_80 rfl (lv_at hl 3 rfl) ?_
            refine lv_isub hx hb dX4_scan_81 ?_
            refine es_top (y := nI (i + 1)) es_subb ?_
            refine va_put (D := D) (ci := 4) (v := .int (nI (i + 1))) (ty := .int) (C := RX4) (T := TX4) (N := 21) hx hb hw iwX4 tyX4 tyX4_ok nmX4 hown hK.1 hP hD hS 0 rfl rfl 18 (by decide) (hw _ xw_303) (fun _ h9 => h9) rfl (by decide +kernel) rfl rfl (Nat.le_of_ble_eq_true rfl) dX4_scan_82 (fun H locs hP hD hS => ?_)
            have hP : va_P D vwCl [(mo, .inr (4, [.ref ma, .ref mk, .ref mtx, .int (nI n), .int (nI tn), .ref m0, .ref m1, .ref m2, .ref m3, .int fl, .int fk, .int ot, .ref mb, .int of_, .int os_, .int (nI rd), .int (nI sc), .int (nI ed), .int (nI (i + 1)), .int kd, .int (nI (i + 1))])), (ma, .inl (cI, 200, .inl ar)), (mk, .inl (cI, 20, .inl ki)), (mtx, .inl (cI, 400, .inl mx))] H := hP
            have hD : va_D A [(mo, .inr (4, [.ref ma, .ref mk, .ref mtx, .int (nI n), .int (nI tn), .ref m0, .ref m1, .ref m2, .ref m3, .int fl, .int fk, .int ot, .ref mb, .int of_, .int os_, .int (nI rd), .int (nI sc), .int (nI ed), .int (nI (i + 1)), .int kd, .int (nI (i + 1))])), (ma, .inl (cI, 200, .inl ar)), (mk, .inl (cI, 20, .inl ki)), (mtx, .inl (cI, 400, .inl mx))] := hD
            refine lv_aload_n hx hb dX4_scan_85 rfl (lv_at hl 2 rfl) ?_
            refine lv_aload_n hx hb dX4_scan_86 rfl (lv_at hl 2 rfl) ?_
            refine va_get (D := D) (ci := 4) (v := .ref mk) (C := RX4) (T := TX4) (N := 21) hx hb hw iwX4 hown hK.1 hP 0 rfl rfl 1 (by decide) (hw _ xw_293) (fun _ h9 => h9) rfl dX4_scan_87 ?_
            refine lv_iload_n hx hb dX4_scan_90 rfl (lv_at hl 1 rfl) ?_
            refine va_iald hx hb hK.1 hP 2 0 rfl rfl (by rw [eq1]; exact vp_in_nI hq1 (by decide)) dX4_scan_91 ?_
            refine es_top (y := es_kd ki (es_q ar (es_at (es_lk mx n) b) (i + 1))) (es_kd_q eq1 hq1) ?_
            refine va_put (D := D) (ci := 4) (v := .int (es_kd ki (es_q ar (es_at (es_lk mx n) b) (i + 1)))) (ty := .int) (C := RX4) (T := TX4) (N := 21) hx hb hw iwX4 tyX4 tyX4_ok nmX4 hown hK.1 hP hD hS 0 rfl rfl 19 (by decide) (hw _ xw_307) (fun _ h9 => h9) rfl (by decide +kernel) rfl rfl (Nat.le_of_ble_eq_true rfl) dX4_scan_92 (fun H locs hP hD hS => ?_)
            have hP : va_P D vwCl [(mo, .inr (4, [.ref ma, .ref mk, .ref mtx, .int (nI n), .int (nI tn), .ref m0, .ref m1, .ref m2, .ref m3, .int fl, .int fk, .int ot, .ref mb, .int of_, .int os_, .int (nI rd), .int (nI sc), .int (nI ed), .int (nI (i + 1)), .int (es_kd ki (es_q ar (es_at (es_lk mx n) b) (i + 1))), .int (nI (i + 1))])), (ma, .inl (cI, 200, .inl ar)), (mk, .inl (cI, 20, .inl ki)), (mtx, .inl (cI, 400, .inl mx))] H := hP
            have hD : va_D A [(mo, .inr (4, [.ref ma, .ref mk, .ref mtx, .int (nI n), .int (nI tn), .ref m0, .ref m1, .ref m2, .ref m3, .int fl, .int fk, .int ot, .ref mb, .int of_, .int os_, .int (nI rd), .int (nI sc), .int (nI ed), .int (nI (i + 1)), .int (es_kd ki (es_q ar (es_at (es_lk mx n) b) (i + 1))), .int (nI (i + 1))])), (ma, .inl (cI, 200, .inl ar)), (mk, .inl (cI, 20, .inl ki)), (mtx, .inl (cI, 400, .inl mx))] := hD
            refine lv_goto (tgt := 19) hx hb dX4_scan_95 (by decide) ?_
            exact ih (i + 1) (es_q ar (es_at (es_lk mx n) b) (i + 1)) (i + 1) (es_kd ki (es_q ar (es_at (es_lk mx n) b) (i + 1))) (es_i_le hn hx_ hq0) rfl (lt_s hne (fun z => es_nnm (by omega) (hx_.trans z))) (es_bl_s1 (es_nlt_m1 c_75)).1.symm (es_bl_s1 (es_nlt_m1 c_75)).2.symm (by have := es_i_le hn hx_ hq0; omega) H locs (hP.sub [0, 1, 2, 3] rfl) (hD.sub [0, 1, 2, 3] (by decide) rfl) hS ls (lv_sub hl [2, 3, 1, 0] rfl)
set_option maxHeartbeats 1000000 in
set_option maxRecDepth 100000 in
/-- X4.scan  -/
theorem c_X4_scan (l : Launch) (D : va_G) (cI : ClassId) (sz : Nat) (mo : Nat) (ma : Nat) (mk : Nat) (mtx : Nat) (m0 : Nat) (m1 : Nat) (m2 : Nat) (m3 : Nat) (mb : Nat) (ar : Nat → Int32) (ki : Nat → Int32) (mx : Nat → Int32) (n : Nat) (tn : Nat) (fl : Int32) (fk : Int32) (ot : Int32) (of_ : Int32) (os_ : Int32) (rd : Nat) (sc : Nat) (ed : Nat) (ts : Int32) (tkd : Int32) (tl : Int32) (b : Nat) (hta : es_ta ar) (htk : es_tk2 ki) (htt : es_tt mx n) (hn : n ≤ 400) (hbn : b < n) : Met l yX4_scan (Cond.code yX4_scan cX4_scan 4 (some .boolean) :: es_T) { frames := 0, cells := 0, slots := 0, locals := 0 } (va_Pc [.ref mo, .int (nI b)] (es_W D cI sz [(mo, .inr (4, [.ref ma, .ref mk, .ref mtx, .int (nI n), .int (nI tn), .ref m0, .ref m1, .ref m2, .ref m3, .int fl, .int fk, .int ot, .ref mb, .int of_, .int os_, .int (nI rd), .int (nI sc), .int (nI ed), .int ts, .int tkd, .int tl])), (ma, .inl (cI, 200, .inl ar)), (mk, .inl (cI, 20, .inl ki)), (mtx, .inl (cI, 400, .inl mx))])) (va_Qi (fun q _ => q = if 0 < es_Le ar ki (es_lk mx n) b then nI 1 else nI 0) (fun (u : Unit) zt => va_P D vwCl [(mo, .inr (4, [.ref ma, .ref mk, .ref mtx, .int (nI n), .int (nI tn), .ref m0, .ref m1, .ref m2, .ref m3, .int fl, .int fk, .int ot, .ref mb, .int of_, .int os_, .int (nI rd), .int (nI sc), .int (nI ed), .int (nI (es_Le ar ki (es_lk mx n) b)), .int (es_Kd ar ki (es_lk mx n) b), .int (nI (es_Lo ar (es_lk mx n) b))])), (ma, .inl (cI, 200, .inl ar)), (mk, .inl (cI, 20, .inl ki)), (mtx, .inl (cI, 400, .inl mx))] zt.heap ∧ va_D (va_A [(mo, .inr (4, [.ref ma, .ref mk, .ref mtx, .int (nI n), .int (nI tn), .ref m0, .ref m1, .ref m2, .ref m3, .int fl, .int fk, .int ot, .ref mb, .int of_, .int os_, .int (nI rd), .int (nI sc), .int (nI ed), .int ts, .int tkd, .int tl])), (ma, .inl (cI, 200, .inl ar)), (mk, .inl (cI, 20, .inl ki)), (mtx, .inl (cI, 400, .inl mx))] sz) [(mo, .inr (4, [.ref ma, .ref mk, .ref mtx, .int (nI n), .int (nI tn), .ref m0, .ref m1, .ref m2, .ref m3, .int fl, .int fk, .int ot, .ref mb, .int of_, .int os_, .int (nI rd), .int (nI sc), .int (nI ed), .int (nI (es_Le ar ki (es_lk mx n) b)), .int (es_Kd ar ki (es_lk mx n) b), .int (nI (es_Lo ar (es_lk mx n) b))])), (ma, .inl (cI, 200, .inl ar)), (mk, .inl (cI, 20, .inl ki)), (mtx, .inl (cI, 400, .inl mx))]) (va_A [(mo, .inr (4, [.ref ma, .ref mk, .ref mtx, .int (nI n), .int (nI tn), .ref m0, .ref m1, .ref m2, .ref m3, .int fl, .int fk, .int ot, .ref mb, .int of_, .int os_, .int (nI rd), .int (nI sc), .int (nI ed), .int ts, .int tkd, .int tl])), (ma, .inl (cI, 200, .inl ar)), (mk, .inl (cI, 20, .inl ki)), (mtx, .inl (cI, 400, .inl mx))] sz)) 0 0 (va_A [(mo, .inr (4, [.ref ma, .ref mk, .ref mtx, .int (nI n), .int (nI tn), .ref m0, .ref m1, .ref m2, .ref m3, .int fl, .int fk, .int ot, .ref mb, .int of_, .int os_, .int (nI rd), .int (nI sc), .int (nI ed), .int ts, .int tkd, .int tl])), (ma, .inl (cI, 200, .inl ar)), (mk, .inl (cI, 20, .inl ki)), (mtx, .inl (cI, 400, .inl mx))] sz) := by
  refine Met.ofW (cc := cX4_scan) (maxL := 4) (ret := (some .boolean)) (by decide) rfl ?_
  intro p e s m args below meth c s₁ B hml hv
  obtain ⟨rfl, hsz, hP, hK, hD0⟩ := hv
  have hx := B.exec
  have hb := B.bytes
  have hr := B.returns
  have hts := atoms_spec (ws := (Cond.code yX4_scan cX4_scan 4 (some .boolean) :: es_T)) B.pre
  have hw : ∀ w ∈ es_T, w.before _ s = true := fun w h => hts w (List.mem_cons_of_mem _ h)
  have hown : s.vm.findClass RX4 = some m.cls := findClass_of_methodNamed B.named
  have hlocks := B.notSynchronized
  have hRm : 0 ≤ (headSpec (Cond.code yX4_scan cX4_scan 4 (some .boolean) :: es_T) { frames := 0, cells := 0, slots := 0, locals := 0 }).room.frames ∧ 0 ≤ (headSpec (Cond.code yX4_scan cX4_scan 4 (some .boolean) :: es_T) { frames := 0, cells := 0, slots := 0, locals := 0 }).room.locals := ⟨Nat.le_refl _, Nat.le_refl _⟩
  have hRc : 0 ≤ (headSpec (Cond.code yX4_scan cX4_scan 4 (some .boolean) :: es_T) { frames := 0, cells := 0, slots := 0, locals := 0 }).room.cells ∧ 0 ≤ (headSpec (Cond.code yX4_scan cX4_scan 4 (some .boolean) :: es_T) { frames := 0, cells := 0, slots := 0, locals := 0 }).room.slots := ⟨Nat.le_refl _, Nat.le_refl _⟩
  subst hsz
  have hD := hD0.self (sz := s.heap.size)
  generalize hAe : va_A [(mo, .inr (4, [.ref ma, .ref mk, .ref mtx, .int (nI n), .int (nI tn), .ref m0, .ref m1, .ref m2, .ref m3, .int fl, .int fk, .int ot, .ref mb, .int of_, .int os_, .int (nI rd), .int (nI sc), .int (nI ed), .int ts, .int tkd, .int tl])), (ma, .inl (cI, 200, .inl ar)), (mk, .inl (cI, 20, .inl ki)), (mtx, .inl (cI, 400, .inl mx))] s.heap.size = A at hD ⊢
  have hA : ∀ q : Nat, s.heap.size ≤ q → A q := fun q h => by rw [← hAe]; exact Or.inr h
  have hS : va_S A s.heap s.heap [] := va_S.rf
  have hl := lv_entry ([.ref mo, .int (nI b)]) (n := 4) (Nat.le_of_ble_eq_true rfl)
  rw [lg_entry_eq]
  generalize (lg_sl ([.ref mo, .int (nI b)]) ++ List.replicate (4 - (lg_sl ([.ref mo, .int (nI b)])).length) Slot.unset).toArray = ls at hl ⊢
  have hl : lv_has ls 4 [(0, .ref mo), (1, .int (nI b))] := hl
  have hsy := es_tt_sy htt
  refine lv_aload_n hx hb dX4_scan_0 rfl (lv_at hl 0 rfl) ?_
  refine lv_iconst (v := nI 0) hx hb dX4_scan_1 (by decide) ?_
  refine va_put (D := D) (ci := 4) (v := .int (nI 0)) (ty := .int) (C := RX4) (T := TX4) (N := 21) hx hb hw iwX4 tyX4 tyX4_ok nmX4 hown hK.1 hP hD hS 0 rfl rfl 18 (by decide) (hw _ xw_303) (fun _ h9 => h9) rfl (by decide +kernel) rfl rfl (Nat.le_of_ble_eq_true rfl) dX4_scan_2 (fun H locs hP hD hS => ?_)
  have hP : va_P D vwCl [(mo, .inr (4, [.ref ma, .ref mk, .ref mtx, .int (nI n), .int (nI tn), .ref m0, .ref m1, .ref m2, .ref m3, .int fl, .int fk, .int ot, .ref mb, .int of_, .int os_, .int (nI rd), .int (nI sc), .int (nI ed), .int (nI 0), .int tkd, .int tl])), (ma, .inl (cI, 200, .inl ar)), (mk, .inl (cI, 20, .inl ki)), (mtx, .inl (cI, 400, .inl mx))] H := hP
  have hD : va_D A [(mo, .inr (4, [.ref ma, .ref mk, .ref mtx, .int (nI n), .int (nI tn), .ref m0, .ref m1, .ref m2, .ref m3, .int fl, .int fk, .int ot, .ref mb, .int of_, .int os_, .int (nI rd), .int (nI sc), .int (nI ed), .int (nI 0), .int tkd, .int tl])), (ma, .inl (cI, 200, .inl ar)), (mk, .inl (cI, 20, .inl ki)), (mtx, .inl (cI, 400, .inl mx))] := hD
  refine lv_aload_n hx hb dX4_scan_5 rfl (lv_at hl 0 rfl) ?_
  refine lv_iconst (v := (-1)) hx hb dX4_scan_6 (by decide) ?_
  refine va_put (D := D) (ci := 4) (v := .int (-1)) (ty := .int) (C := RX4) (T := TX4) (N := 21) hx hb hw iwX4 tyX4 tyX4_ok nmX4 hown hK.1 hP hD hS 0 rfl rfl 19 (by decide) (hw _ xw_307) (fun _ h9 => h9) rfl (by decide +kernel) rfl rfl (Nat.le_of_ble_eq_true rfl) dX4_scan_7 (fun H locs hP hD hS => ?_)
  have hP : va_P D vwCl [(mo, .inr (4, [.ref ma, .ref mk, .ref mtx, .int (nI n), .int (nI tn), .ref m0, .ref m1, .ref m2, .ref m3, .int fl, .int fk, .int ot, .ref mb, .int of_, .int os_, .int (nI rd), .int (nI sc), .int (nI ed), .int (nI 0), .int (-1), .int tl])), (ma, .inl (cI, 200, .inl ar)), (mk, .inl (cI, 20, .inl ki)), (mtx, .inl (cI, 400, .inl mx))] H := hP
  have hD : va_D A [(mo, .inr (4, [.ref ma, .ref mk, .ref mtx, .int (nI n), .int (nI tn), .ref m0, .ref m1, .ref m2, .ref m3, .int fl, .int fk, .int ot, .ref mb, .int of_, .int os_, .int (nI rd), .int (nI sc), .int (nI ed), .int (nI 0), .int (-1), .int tl])), (ma, .inl (cI, 200, .inl ar)), (mk, .inl (cI, 20, .inl ki)), (mtx, .inl (cI, 400, .inl mx))] := hD
  refine lv_aload_n hx hb dX4_scan_10 rfl (lv_at hl 0 rfl) ?_
  refine lv_iconst (v := nI 0) hx hb dX4_scan_11 (by decide) ?_
  refine va_put (D := D) (ci := 4) (v := .int (nI 0)) (ty := .int) (C := RX4) (T := TX4) (N := 21) hx hb hw iwX4 tyX4 tyX4_ok nmX4 hown hK.1 hP hD hS 0 rfl rfl 20 (by decide) (hw _ xw_302) (fun _ h9 => h9) rfl (by decide +kernel) rfl rfl (Nat.le_of_ble_eq_true rfl) dX4_scan_12 (fun H locs hP hD hS => ?_)
  have hP : va_P D vwCl [(mo, .inr (4, [.ref ma, .ref mk, .ref mtx, .int (nI n), .int (nI tn), .ref m0, .ref m1, .ref m2, .ref m3, .int fl, .int fk, .int ot, .ref mb, .int of_, .int os_, .int (nI rd), .int (nI sc), .int (nI ed), .int (nI 0), .int (-1), .int (nI 0)])), (ma, .inl (cI, 200, .inl ar)), (mk, .inl (cI, 20, .inl ki)), (mtx, .inl (cI, 400, .inl mx))] H := hP
  have hD : va_D A [(mo, .inr (4, [.ref ma, .ref mk, .ref mtx, .int (nI n), .int (nI tn), .ref m0, .ref m1, .ref m2, .ref m3, .int fl, .int fk, .int ot, .ref mb, .int of_, .int os_, .int (nI rd), .int (nI sc), .int (nI ed), .int (nI 0), .int (-1), .int (nI 0)])), (ma, .inl (cI, 200, .inl ar)), (mk, .inl (cI, 20, .inl ki)), (mtx, .inl (cI, 400, .inl mx))] := hD
  refine lv_iconst (v := nI 0) hx hb dX4_scan_15 (by decide) ?_
  refine lv_istore_n (lv' := [(2, .int (nI 0)), (0, .ref mo), (1, .int (nI b))]) hx hb dX4_scan_16 rfl hl (by decide) rfl (fun ls hl => ?_)
  refine lv_iload_n hx hb dX4_scan_17 rfl (lv_at hl 2 rfl) ?_
  refine lv_istore_n (lv' := [(3, .int (nI b)), (2, .int (nI 0)), (0, .ref mo), (1, .int (nI b))]) hx hb dX4_scan_18 rfl hl (by decide) rfl (fun ls hl => ?_)
  refine lp_mScan D cI mo ma mk mtx m0 m1 m2 m3 mb ar ki mx n tn fl fk ot of_ os_ rd sc ed b hx hb hml hown hw hK ⟨Nat.le_trans (Nat.le_of_ble_eq_true rfl) hRm.1, Nat.le_trans (Nat.le_of_ble_eq_true rfl) hRm.2⟩ hA (by first | assumption | omega) (by first | assumption | omega) (by first | assumption | omega) (by first | assumption | omega) (by first | assumption | omega) (fun L le kd hL hle hkd H locs hP hD hS ls hl => ?_) ((402 - 0) + 1) 0 (nI 0) 0 (-1) (Nat.zero_le _) rfl (fun j h => absurd h (Nat.not_lt_zero _)) rfl rfl (Nat.lt_succ_self _) H locs (hP.sub [0, 1, 2, 3] rfl) (hD.sub [0, 1, 2, 3] (by decide) rfl) hS ls (lv_sub hl [2, 3, 1, 0] rfl)
  subst hL
  subst hle
  subst hkd
  have hLe := es_Le_lt (ar := ar) (ki := ki) (lk := es_lk mx n) (b := b) (e := n - b) (es_lk_end (by omega)) (by omega)
  refine lv_aload_n hx hb dX4_scan_98 rfl (lv_at hl 0 rfl) ?_
  refine va_get (D := D) (ci := 4) (v := .int (nI (es_Le ar ki (es_lk mx n) b))) (C := RX4) (T := TX4) (N := 21) hx hb hw iwX4 hown hK.1 hP 0 rfl rfl 18 (by decide) (hw _ xw_303) (fun _ h9 => h9) rfl dX4_scan_99 ?_
  refine lv_if_le (tgt := 109) hx hb dX4_scan_102 (by decide) (fun c_102 => ?_) (fun c_102 => ?_)
  ·
    have c_102 := (nI_leI (a := (es_Le ar ki (es_lk mx n) b)) (b := 0) (by omega) (by omega)).mp c_102
    refine lv_iconst (v := nI 0) hx hb dX4_scan_109 (by decide) ?_
    exact W.zret (v := nI 0) hx hb hr rfl (fun zt ht hW => ⟨⟨_, (), rfl, (by show _ = _; first | (rw [if_pos (by omega)]; done) | (rw [if_neg (by omega)]; done)), ⟨by rw [ht]; exact hP.sub [0, 1, 2, 3] rfl, hD.sub [0, 1, 2, 3] (by decide) rfl⟩⟩, hS.F ht⟩) hS.2.2 dX4_scan_110
  ·
    have c_102 := (mt (nI_leI (a := (es_Le ar ki (es_lk mx n) b)) (b := 0) (by omega) (by omega)).mpr c_102)
    refine lv_iconst (v := nI 1) hx hb dX4_scan_105 (by decide) ?_
    refine lv_goto (tgt := 110) hx hb dX4_scan_106 (by decide) ?_
    exact W.zret (v := nI 1) hx hb hr rfl (fun zt ht hW => ⟨⟨_, (), rfl, (by show _ = _; first | (rw [if_pos (by omega)]; done) | (rw [if_neg (by omega)]; done)), ⟨by rw [ht]; exact hP.sub [0, 1, 2, 3] rfl, hD.sub [0, 1, 2, 3] (by decide) rfl⟩⟩, hS.F ht⟩) hS.2.2 dX4_scan_110
set_option maxHeartbeats 1000000 in
set_option maxRecDepth 100000 in
theorem lp_scanAll {p : Program} {l : Launch} {e : Env} {R : Room} {s : State} {m : MethodId} {args : Array Value} {below : List Frame} {meth : Method} {c : Code} {Q : State → Prop} {A : Nat → Prop} {H0 : Heap} (D : va_G) (cI : ClassId) (mo : Nat) (ma : Nat) (mk : Nat) (mtx : Nat) (m0 : Nat) (m1 : Nat) (m2 : Nat) (m3 : Nat) (mb : Nat) (ar : Nat → Int32) (ki : Nat → Int32) (mx : Nat → Int32) (n : Nat) (ot : Int32) (of_ : Int32) (os_ : Int32) (rd : Nat) (sc : Nat) (ed : Nat) (hx : p.tables.exec = Jvm.exec) (hb : c.code = cX4_scanAll) (hml : c.maxLocals = 2) (hown : s.vm.findClass RX4 = some m.cls) (hw : ∀ w ∈ es_T, w.before args s = true) (hK : es_K D cI s) (hRm : 1 ≤ R.frames ∧ 23 ≤ R.locals) (hA : ∀ q : Nat, H0.size ≤ q → A q) (hta : es_ta ar) (htk : es_tk2 ki) (htt : es_tt mx n) (hn : n ≤ 400) (hex : ∀ (E : Nat → Nat → Int32) (tn : Nat) (fl : Int32) (fk : Int32) (ts : Int32) (tkd : Int32) (tl : Int32), (∃ c, es_mdl ar ki (es_lk mx n) n c E tn fl fk) → ∀ (H : Heap) (locs : List Loc), va_P D vwCl [(mo, .inr (4, [.ref ma, .ref mk, .ref mtx, .int (nI n), .int (nI tn), .ref m0, .ref m1, .ref m2, .ref m3, .int fl, .int fk, .int ot, .ref mb, .int of_, .int os_, .int (nI rd), .int (nI sc), .int (nI ed), .int ts, .int tkd, .int tl])), (ma, .inl (cI, 200, .inl ar)), (mk, .inl (cI, 20, .inl ki)), (mtx, .inl (cI, 400, .inl mx)), (m0, .inl (cI, 400, .inl (E 0))), (m1, .inl (cI, 400, .inl (E 1))), (m2, .inl (cI, 400, .inl (E 2))), (m3, .inl (cI, 400, .inl (E 3)))] H → va_D A [(mo, .inr (4, [.ref ma, .ref mk, .ref mtx, .int (nI n), .int (nI tn), .ref m0, .ref m1, .ref m2, .ref m3, .int fl, .int fk, .int ot, .ref mb, .int of_, .int os_, .int (nI rd), .int (nI sc), .int (nI ed), .int ts, .int tkd, .int tl])), (ma, .inl (cI, 200, .inl ar)), (mk, .inl (cI, 20, .inl ki)), (mtx, .inl (cI, 400, .inl mx)), (m0, .inl (cI, 400, .inl (E 0))), (m1, .inl (cI, 400, .inl (E 1))), (m2, .inl (cI, 400, .inl (E 2))), (m3, .inl (cI, 400, .inl (E 3)))] → va_S A H0 H locs → ∀ (ls : Array Slot), lv_has ls 2 [(0, .ref mo)] →  W p l e R s m args below meth c H locs 0 0 Q (F0 m 125 ls [])) : ∀ (N : Nat) (E : Nat → Nat → Int32) (tn : Nat) (b : Nat) (fl : Int32) (fk : Int32) (ts : Int32) (tkd : Int32) (tl : Int32) (ph : Nat), (es_fnd ar ki (es_lk mx n) E tn) → (∀ i, i < tn → es_B (es_Le ar ki (es_lk mx n)) i < n ∧ 0 < es_Le ar ki (es_lk mx n) (es_B (es_Le ar ki (es_lk mx n)) i)) → (b = es_B (es_Le ar ki (es_lk mx n)) tn) → (b ≤ n) → (es_ph ar ki (es_lk mx n) n b ph fl fk) → (n - b + ph) < N → ∀ (H : Heap) (locs : List Loc), va_P D vwCl [(mo, .inr (4, [.ref ma, .ref mk, .ref mtx, .int (nI n), .int (nI tn), .ref m0, .ref m1, .ref m2, .ref m3, .int fl, .int fk, .int ot, .ref mb, .int of_, .int os_, .int (nI rd), .int (nI sc), .int (nI ed), .int ts, .int tkd, .int tl])), (ma, .inl (cI, 200, .inl ar)), (mk, .inl (cI, 20, .inl ki)), (mtx, .inl (cI, 400, .inl mx)), (m0, .inl (cI, 400, .inl (E 0))), (m1, .inl (cI, 400, .inl (E 1))), (m2, .inl (cI, 400, .inl (E 2))), (m3, .inl (cI, 400, .inl (E 3)))] H → va_D A [(mo, .inr (4, [.ref ma, .ref mk, .ref mtx, .int (nI n), .int (nI tn), .ref m0, .ref m1, .ref m2, .ref m3, .int fl, .int fk, .int ot, .ref mb, .int of_, .int os_, .int (nI rd), .int (nI sc), .int (nI ed), .int ts, .int tkd, .int tl])), (ma, .inl (cI, 200, .inl ar)), (mk, .inl (cI, 20, .inl ki)), (mtx, .inl (cI, 400, .inl mx)), (m0, .inl (cI, 400, .inl (E 0))), (m1, .inl (cI, 400, .inl (E 1))), (m2, .inl (cI, 400, .inl (E 2))), (m3, .inl (cI, 400, .inl (E 3)))] → va_S A H0 H locs → ∀ (ls : Array Slot), lv_has ls 2 [(0, .ref mo), (1, .int (nI b))] →  W p l e R s m args below meth c H locs 0 0 Q (F0 m 17 ls []) := by
  intro N
  induction N with
  | zero =>
    intro E tn b fl fk ts tkd tl ph hE htok hbm hbn hph hN
    exact absurd hN (Nat.not_lt_zero _)
  | succ N ih =>
    intro E tn b fl fk ts tkd tl ph hE htok hbm hbn hph hN H locs hP hD hS ls hl
    have hmb := es_B_ge (Le := es_Le ar ki (es_lk mx n)) tn (fun i hi => (htok i hi).2)
    rw [← hbm] at hmb
    refine lv_iload_n hx hb dX4_scanAll_17 rfl (lv_at hl 1 rfl) ?_
    refine lv_aload_n hx hb dX4_scanAll_18 rfl (lv_at hl 0 rfl) ?_
    refine va_get (D := D) (ci := 4) (v := .int (nI n)) (C := RX4) (T := TX4) (N := 21) hx hb hw iwX4 hown hK.1 hP 0 rfl rfl 3 (by decide) (hw _ xw_260) (fun _ h9 => h9) rfl dX4_scanAll_19 ?_
    refine lv_icmp_ge (tgt := 125) hx hb dX4_scanAll_22 (by decide) (fun c_22 => ?_) (fun c_22 => ?_)
    ·
      have c_22 := (nI_leI (by omega) (by omega)).mp c_22
      exact hex E tn fl fk ts tkd tl (es_sa_end hE htok hbm hbn hph (Or.inl c_22))  H locs (hP.sub [0, 1, 2, 3, 4, 5, 6, 7] rfl) (hD.sub [0, 1, 2, 3, 4, 5, 6, 7] (by decide) rfl) hS ls (lv_sub hl [0] rfl)
    ·
      have c_22 := (mt (nI_leI (by omega) (by omega)).mpr c_22)
      refine lv_aload_n hx hb dX4_scanAll_25 rfl (lv_at hl 0 rfl) ?_
      refine va_get (D := D) (ci := 4) (v := .int fl) (C := RX4) (T := TX4) (N := 21) hx hb hw iwX4 hown hK.1 hP 0 rfl rfl 9 (by decide) (hw _ xw_273) (fun _ h9 => h9) rfl dX4_scanAll_26 ?_
      refine lv_if_ge (tgt := 125) hx hb dX4_scanAll_29 (by decide) (fun c_29 => ?_) (fun c_29 => ?_)
      ·
        exact hex E tn fl fk ts tkd tl (es_sa_end hE htok hbm hbn hph (Or.inr c_29))  H locs (hP.sub [0, 1, 2, 3, 4, 5, 6, 7] rfl) (hD.sub [0, 1, 2, 3, 4, 5, 6, 7] (by decide) rfl) hS ls (lv_sub hl [0] rfl)
      ·
        obtain ⟨hp1, hp2, hp3⟩ := es_ph1 hn hph c_29
        have hLl := es_Le_lt (ar := ar) (ki := ki) (lk := es_lk mx n) (b := b) (e := n - b) (es_lk_end (by omega)) (by omega)
        refine lv_aload_n hx hb dX4_scanAll_32 rfl (lv_at hl 0 rfl) ?_
        refine lv_iload_n hx hb dX4_scanAll_33 rfl (lv_at hl 1 rfl) ?_
        refine es_ci (wr := [(m0, .inl (cI, 400, .inl (E 0))), (m1, .inl (cI, 400, .inl (E 1))), (m2, .inl (cI, 400, .inl (E 2))), (m3, .inl (cI, 400, .inl (E 3)))]) (va_runV (As := [.int (nI b)]) (rest := []) ⟨hx, hb, hml, hown, hw⟩ (c_X4_scan l D cI H.size mo ma mk mtx m0 m1 m2 m3 mb ar ki mx n tn fl fk ot of_ os_ rd sc ed ts tkd tl b (by first | assumption | omega) (by first | assumption | omega) (by first | assumption | omega) (by first | assumption | omega) (by first | assumption | omega)) (cwV 1 hw (es_v xw_298 xw_299 xw_300 xw_301 xw_8) rfl rfl rfl kv_X4_scan ⟨Nat.le_trans (Nat.le_of_ble_eq_true rfl) hRm.1, Nat.le_trans (Nat.le_of_ble_eq_true rfl) hRm.2⟩) (es_WV hK (hP.sub (ws' := [(mo, .inr (4, [.ref ma, .ref mk, .ref mtx, .int (nI n), .int (nI tn), .ref m0, .ref m1, .ref m2, .ref m3, .int fl, .int fk, .int ot, .ref mb, .int of_, .int os_, .int (nI rd), .int (nI sc), .int (nI ed), .int ts, .int tkd, .int tl])), (ma, .inl (cI, 200, .inl ar)), (mk, .inl (cI, 20, .inl ki)), (mtx, .inl (cI, 400, .inl mx))]) [0, 1, 2, 3] rfl) (hD.sub (ws' := [(mo, .inr (4, [.ref ma, .ref mk, .ref mtx, .int (nI n), .int (nI tn), .ref m0, .ref m1, .ref m2, .ref m3, .int fl, .int fk, .int ot, .ref mb, .int of_, .int os_, .int (nI rd), .int (nI sc), .int (nI ed), .int ts, .int tkd, .int tl])), (ma, .inl (cI, 200, .inl ar)), (mk, .inl (cI, 20, .inl ki)), (mtx, .inl (cI, 400, .inl mx))]) [0, 1, 2, 3] (by decide) rfl) rfl rfl) rfl rfl hl.1 rfl (lv_room (Nat.le_of_ble_eq_true rfl)) dX4_scanAll_34 ⟨(Nat.zero_le _), (Nat.zero_le _)⟩) hP hD hS hA [0, 1, 2, 3] [4, 5, 6, 7] rfl rfl (by decide) (by decide) (fun rq uq H locs huq hP hD hS => ?_)
        have hP : va_P D vwCl [(m0, .inl (cI, 400, .inl (E 0))), (m1, .inl (cI, 400, .inl (E 1))), (m2, .inl (cI, 400, .inl (E 2))), (m3, .inl (cI, 400, .inl (E 3))), (mo, .inr (4, [.ref ma, .ref mk, .ref mtx, .int (nI n), .int (nI tn), .ref m0, .ref m1, .ref m2, .ref m3, .int fl, .int fk, .int ot, .ref mb, .int of_, .int os_, .int (nI rd), .int (nI sc), .int (nI ed), .int (nI (es_Le ar ki (es_lk mx n) b)), .int (es_Kd ar ki (es_lk mx n) b), .int (nI (es_Lo ar (es_lk mx n) b))])), (ma, .inl (cI, 200, .inl ar)), (mk, .inl (cI, 20, .inl ki)), (mtx, .inl (cI, 400, .inl mx))] H := hP
        have hD : va_D A [(m0, .inl (cI, 400, .inl (E 0))), (m1, .inl (cI, 400, .inl (E 1))), (m2, .inl (cI, 400, .inl (E 2))), (m3, .inl (cI, 400, .inl (E 3))), (mo, .inr (4, [.ref ma, .ref mk, .ref mtx, .int (nI n), .int (nI tn), .ref m0, .ref m1, .ref m2, .ref m3, .int fl, .int fk, .int ot, .ref mb, .int of_, .int os_, .int (nI rd), .int (nI sc), .int (nI ed), .int (nI (es_Le ar ki (es_lk mx n) b)), .int (es_Kd ar ki (es_lk mx n) b), .int (nI (es_Lo ar (es_lk mx n) b))])), (ma, .inl (cI, 200, .inl ar)), (mk, .inl (cI, 20, .inl ki)), (mtx, .inl (cI, 400, .inl mx))] := hD
        obtain ⟨mr, hmr, rfl⟩ := es_rq huq
        refine lv_if_eq (tgt := 109) hx hb dX4_scanAll_37 (by decide) (fun c_37 => ?_) (fun c_37 => ?_)
        ·
          have c_37 := (nI_eq (a := mr) (b := 0) (by omega) (by omega)).mp c_37
          refine lv_aload_n hx hb dX4_scanAll_109 rfl (lv_at hl 0 rfl) ?_
          refine lv_iload_n hx hb dX4_scanAll_110 rfl (lv_at hl 1 rfl) ?_
          refine va_put (D := D) (ci := 4) (v := .int (nI b)) (ty := .int) (C := RX4) (T := TX4) (N := 21) hx hb hw iwX4 tyX4 tyX4_ok nmX4 hown hK.1 hP hD hS 4 rfl rfl 9 (by decide) (hw _ xw_273) (fun _ h9 => h9) rfl (by decide +kernel) rfl rfl (Nat.le_of_ble_eq_true rfl) dX4_scanAll_111 (fun H locs hP hD hS => ?_)
          have hP : va_P D vwCl [(m0, .inl (cI, 400, .inl (E 0))), (m1, .inl (cI, 400, .inl (E 1))), (m2, .inl (cI, 400, .inl (E 2))), (m3, .inl (cI, 400, .inl (E 3))), (mo, .inr (4, [.ref ma, .ref mk, .ref mtx, .int (nI n), .int (nI tn), .ref m0, .ref m1, .ref m2, .ref m3, .int (nI b), .int fk, .int ot, .ref mb, .int of_, .int os_, .int (nI rd), .int (nI sc), .int (nI ed), .int (nI (es_Le ar ki (es_lk mx n) b)), .int (es_Kd ar ki (es_lk mx n) b), .int (nI (es_Lo ar (es_lk mx n) b))])), (ma, .inl (cI, 200, .inl ar)), (mk, .inl (cI, 20, .inl ki)), (mtx, .inl (cI, 400, .inl mx))] H := hP
          have hD : va_D A [(m0, .inl (cI, 400, .inl (E 0))), (m1, .inl (cI, 400, .inl (E 1))), (m2, .inl (cI, 400, .inl (E 2))), (m3, .inl (cI, 400, .inl (E 3))), (mo, .inr (4, [.ref ma, .ref mk, .ref mtx, .int (nI n), .int (nI tn), .ref m0, .ref m1, .ref m2, .ref m3, .int (nI b), .int fk, .int ot, .ref mb, .int of_, .int os_, .int (nI rd), .int (nI sc), .int (nI ed), .int (nI (es_Le ar ki (es_lk mx n) b)), .int (es_Kd ar ki (es_lk mx n) b), .int (nI (es_Lo ar (es_lk mx n) b))])), (ma, .inl (cI, 200, .inl ar)), (mk, .inl (cI, 20, .inl ki)), (mtx, .inl (cI, 400, .inl mx))] := hD
          refine lv_aload_n hx hb dX4_scanAll_114 rfl (lv_at hl 0 rfl) ?_
          refine lv_aload_n hx hb dX4_scanAll_115 rfl (lv_at hl 0 rfl) ?_
          refine va_get (D := D) (ci := 4) (v := .int (nI (es_Lo ar (es_lk mx n) b))) (C := RX4) (T := TX4) (N := 21) hx hb hw iwX4 hown hK.1 hP 4 rfl rfl 20 (by decide) (hw _ xw_302) (fun _ h9 => h9) rfl dX4_scanAll_116 ?_
          refine va_put (D := D) (ci := 4) (v := .int (nI (es_Lo ar (es_lk mx n) b))) (ty := .int) (C := RX4) (T := TX4) (N := 21) hx hb hw iwX4 tyX4 tyX4_ok nmX4 hown hK.1 hP hD hS 4 rfl rfl 10 (by decide) (hw _ xw_274) (fun _ h9 => h9) rfl (by decide +kernel) rfl rfl (Nat.le_of_ble_eq_true rfl) dX4_scanAll_119 (fun H locs hP hD hS => ?_)
          have hP : va_P D vwCl [(m0, .inl (cI, 400, .inl (E 0))), (m1, .inl (cI, 400, .inl (E 1))), (m2, .inl (cI, 400, .inl (E 2))), (m3, .inl (cI, 400, .inl (E 3))), (mo, .inr (4, [.ref ma, .ref mk, .ref mtx, .int (nI n), .int (nI tn), .ref m0, .ref m1, .ref m2, .ref m3, .int (nI b), .int (nI (es_Lo ar (es_lk mx n) b)), .int ot, .ref mb, .int of_, .int os_, .int (nI rd), .int (nI sc), .int (nI ed), .int (nI (es_Le ar ki (es_lk mx n) b)), .int (es_Kd ar ki (es_lk mx n) b), .int (nI (es_Lo ar (es_lk mx n) b))])), (ma, .inl (cI, 200, .inl ar)), (mk, .inl (cI, 20, .inl ki)), (mtx, .inl (cI, 400, .inl mx))] H := hP
          have hD : va_D A [(m0, .inl (cI, 400, .inl (E 0))), (m1, .inl (cI, 400, .inl (E 1))), (m2, .inl (cI, 400, .inl (E 2))), (m3, .inl (cI, 400, .inl (E 3))), (mo, .inr (4, [.ref ma, .ref mk, .ref mtx, .int (nI n), .int (nI tn), .ref m0, .ref m1, .ref m2, .ref m3, .int (nI b), .int (nI (es_Lo ar (es_lk mx n) b)), .int ot, .ref mb, .int of_, .int os_, .int (nI rd), .int (nI sc), .int (nI ed), .int (nI (es_Le ar ki (es_lk mx n) b)), .int (es_Kd ar ki (es_lk mx n) b), .int (nI (es_Lo ar (es_lk mx n) b))])), (ma, .inl (cI, 200, .inl ar)), (mk, .inl (cI, 20, .inl ki)), (mtx, .inl (cI, 400, .inl mx))] := hD
          refine lv_goto (tgt := 17) hx hb dX4_scanAll_122 (by decide) ?_
          exact ih E tn b (nI b) (nI (es_Lo ar (es_lk mx n) b)) (nI (es_Le ar ki (es_lk mx n) b)) (es_Kd ar ki (es_lk mx n) b) (nI (es_Lo ar (es_lk mx n) b)) 0 hE htok hbm hbn (Or.inr ⟨rfl, rfl, rfl, by omega, by omega⟩) (by omega) H locs (hP.sub [4, 5, 6, 7, 0, 1, 2, 3] rfl) (hD.sub [4, 5, 6, 7, 0, 1, 2, 3] (by decide) rfl) hS ls (lv_sub hl [0, 1] rfl)
        ·
          have c_37 := (mt (nI_eq (a := mr) (b := 0) (by omega) (by omega)).mpr c_37)
          refine lv_aload_n hx hb dX4_scanAll_40 rfl (lv_at hl 0 rfl) ?_
          refine va_get (D := D) (ci := 4) (v := .ref m0) (C := RX4) (T := TX4) (N := 21) hx hb hw iwX4 hown hK.1 hP 4 rfl rfl 5 (by decide) (hw _ xw_279) (fun _ h9 => h9) rfl dX4_scanAll_41 ?_
          refine lv_aload_n hx hb dX4_scanAll_44 rfl (lv_at hl 0 rfl) ?_
          refine va_get (D := D) (ci := 4) (v := .int (nI tn)) (C := RX4) (T := TX4) (N := 21) hx hb hw iwX4 hown hK.1 hP 4 rfl rfl 4 (by decide) (hw _ xw_268) (fun _ h9 => h9) rfl dX4_scanAll_45 ?_
          refine lv_iload_n hx hb dX4_scanAll_48 rfl (lv_at hl 1 rfl) ?_
          refine es_iast hx hb hK.1 hP hD hS 0 0 rfl rfl (by omega) (Nat.le_of_ble_eq_true rfl) dX4_scanAll_49 (fun H locs hP hD hS => ?_)
          have hP : va_P D vwCl [(m0, .inl (cI, 400, .inl (upd (E 0) tn (nI b)))), (m1, .inl (cI, 400, .inl (E 1))), (m2, .inl (cI, 400, .inl (E 2))), (m3, .inl (cI, 400, .inl (E 3))), (mo, .inr (4, [.ref ma, .ref mk, .ref mtx, .int (nI n), .int (nI tn), .ref m0, .ref m1, .ref m2, .ref m3, .int fl, .int fk, .int ot, .ref mb, .int of_, .int os_, .int (nI rd), .int (nI sc), .int (nI ed), .int (nI (es_Le ar ki (es_lk mx n) b)), .int (es_Kd ar ki (es_lk mx n) b), .int (nI (es_Lo ar (es_lk mx n) b))])), (ma, .inl (cI, 200, .inl ar)), (mk, .inl (cI, 20, .inl ki)), (mtx, .inl (cI, 400, .inl mx))] H := hP
          have hD : va_D A [(m0, .inl (cI, 400, .inl (upd (E 0) tn (nI b)))), (m1, .inl (cI, 400, .inl (E 1))), (m2, .inl (cI, 400, .inl (E 2))), (m3, .inl (cI, 400, .inl (E 3))), (mo, .inr (4, [.ref ma, .ref mk, .ref mtx, .int (nI n), .int (nI tn), .ref m0, .ref m1, .ref m2, .ref m3, .int fl, .int fk, .int ot, .ref mb, .int of_, .int os_, .int (nI rd), .int (nI sc), .int (nI ed), .int (nI (es_Le ar ki (es_lk mx n) b)), .int (es_Kd ar ki (es_lk mx n) b), .int (nI (es_Lo ar (es_lk mx n) b))])), (ma, .inl (cI, 200, .inl ar)), (mk, .inl (cI, 20, .inl ki)), (mtx, .inl (cI, 400, .inl mx))] := hD
          refine lv_aload_n hx hb dX4_scanAll_50 rfl (lv_at hl 0 rfl) ?_
          refine va_get (D := D) (ci := 4) (v := .ref m1) (C := RX4) (T := TX4) (N := 21) hx hb hw iwX4 hown hK.1 hP 4 rfl rfl 6 (by decide) (hw _ xw_305) (fun _ h9 => h9) rfl dX4_scanAll_51 ?_
          refine lv_aload_n hx hb dX4_scanAll_54 rfl (lv_at hl 0 rfl) ?_
          refine va_get (D := D) (ci := 4) (v := .int (nI tn)) (C := RX4) (T := TX4) (N := 21) hx hb hw iwX4 hown hK.1 hP 4 rfl rfl 4 (by decide) (hw _ xw_268) (fun _ h9 => h9) rfl dX4_scanAll_55 ?_
          refine lv_aload_n hx hb dX4_scanAll_58 rfl (lv_at hl 0 rfl) ?_
          refine va_get (D := D) (ci := 4) (v := .int (nI (es_Le ar ki (es_lk mx n) b))) (C := RX4) (T := TX4) (N := 21) hx hb hw iwX4 hown hK.1 hP 4 rfl rfl 18 (by decide) (hw _ xw_303) (fun _ h9 => h9) rfl dX4_scanAll_59 ?_
          refine es_iast hx hb hK.1 hP hD hS 1 0 rfl rfl (by omega) (Nat.le_of_ble_eq_true rfl) dX4_scanAll_62 (fun H locs hP hD hS => ?_)
          have hP : va_P D vwCl [(m0, .inl (cI, 400, .inl (upd (E 0) tn (nI b)))), (m1, .inl (cI, 400, .inl (upd (E 1) tn (nI (es_Le ar ki (es_lk mx n) b))))), (m2, .inl (cI, 400, .inl (E 2))), (m3, .inl (cI, 400, .inl (E 3))), (mo, .inr (4, [.ref ma, .ref mk, .ref mtx, .int (nI n), .int (nI tn), .ref m0, .ref m1, .ref m2, .ref m3, .int fl, .int fk, .int ot, .ref mb, .int of_, .int os_, .int (nI rd), .int (nI sc), .int (nI ed), .int (nI (es_Le ar ki (es_lk mx n) b)), .int (es_Kd ar ki (es_lk mx n) b), .int (nI (es_Lo ar (es_lk mx n) b))])), (ma, .inl (cI, 200, .inl ar)), (mk, .inl (cI, 20, .inl ki)), (mtx, .inl (cI, 400, .inl mx))] H := hP
          have hD : va_D A [(m0, .inl (cI, 400, .inl (upd (E 0) tn (nI b)))), (m1, .inl (cI, 400, .inl (upd (E 1) tn (nI (es_Le ar ki (es_lk mx n) b))))), (m2, .inl (cI, 400, .inl (E 2))), (m3, .inl (cI, 400, .inl (E 3))), (mo, .inr (4, [.ref ma, .ref mk, .ref mtx, .int (nI n), .int (nI tn), .ref m0, .ref m1, .ref m2, .ref m3, .int fl, .int fk, .int ot, .ref mb, .int of_, .int os_, .int (nI rd), .int (nI sc), .int (nI ed), .int (nI (es_Le ar ki (es_lk mx n) b)), .int (es_Kd ar ki (es_lk mx n) b), .int (nI (es_Lo ar (es_lk mx n) b))])), (ma, .inl (cI, 200, .inl ar)), (mk, .inl (cI, 20, .inl ki)), (mtx, .inl (cI, 400, .inl mx))] := hD
          refine lv_aload_n hx hb dX4_scanAll_63 rfl (lv_at hl 0 rfl) ?_
          refine va_get (D := D) (ci := 4) (v := .ref m2) (C := RX4) (T := TX4) (N := 21) hx hb hw iwX4 hown hK.1 hP 4 rfl rfl 7 (by decide) (hw _ xw_306) (fun _ h9 => h9) rfl dX4_scanAll_64 ?_
          refine lv_aload_n hx hb dX4_scanAll_67 rfl (lv_at hl 0 rfl) ?_
          refine va_get (D := D) (ci := 4) (v := .int (nI tn)) (C := RX4) (T := TX4) (N := 21) hx hb hw iwX4 hown hK.1 hP 4 rfl rfl 4 (by decide) (hw _ xw_268) (fun _ h9 => h9) rfl dX4_scanAll_68 ?_
          refine lv_aload_n hx hb dX4_scanAll_71 rfl (lv_at hl 0 rfl) ?_
          refine va_get (D := D) (ci := 4) (v := .int (es_Kd ar ki (es_lk mx n) b)) (C := RX4) (T := TX4) (N := 21) hx hb hw iwX4 hown hK.1 hP 4 rfl rfl 19 (by decide) (hw _ xw_307) (fun _ h9 => h9) rfl dX4_scanAll_72 ?_
          refine es_iast hx hb hK.1 hP hD hS 2 0 rfl rfl (by omega) (Nat.le_of_ble_eq_true rfl) dX4_scanAll_75 (fun H locs hP hD hS => ?_)
          have hP : va_P D vwCl [(m0, .inl (cI, 400, .inl (upd (E 0) tn (nI b)))), (m1, .inl (cI, 400, .inl (upd (E 1) tn (nI (es_Le ar ki (es_lk mx n) b))))), (m2, .inl (cI, 400, .inl (upd (E 2) tn (es_Kd ar ki (es_lk mx n) b)))), (m3, .inl (cI, 400, .inl (E 3))), (mo, .inr (4, [.ref ma, .ref mk, .ref mtx, .int (nI n), .int (nI tn), .ref m0, .ref m1, .ref m2, .ref m3, .int fl, .int fk, .int ot, .ref mb, .int of_, .int os_, .int (nI rd), .int (nI sc), .int (nI ed), .int (nI (es_Le ar ki (es_lk mx n) b)), .int (es_Kd ar ki (es_lk mx n) b), .int (nI (es_Lo ar (es_lk mx n) b))])), (ma, .inl (cI, 200, .inl ar)), (mk, .inl (cI, 20, .inl ki)), (mtx, .inl (cI, 400, .inl mx))] H := hP
          have hD : va_D A [(m0, .inl (cI, 400, .inl (upd (E 0) tn (nI b)))), (m1, .inl (cI, 400, .inl (upd (E 1) tn (nI (es_Le ar ki (es_lk mx n) b))))), (m2, .inl (cI, 400, .inl (upd (E 2) tn (es_Kd ar ki (es_lk mx n) b)))), (m3, .inl (cI, 400, .inl (E 3))), (mo, .inr (4, [.ref ma, .ref mk, .ref mtx, .int (nI n), .int (nI tn), .ref m0, .ref m1, .ref m2, .ref m3, .int fl, .int fk, .int ot, .ref mb, .int of_, .int os_, .int (nI rd), .int (nI sc), .int (nI ed), .int (nI (es_Le ar ki (es_lk mx n) b)), .int (es_Kd ar ki (es_lk mx n) b), .int (nI (es_Lo ar (es_lk mx n) b))])), (ma, .inl (cI, 200, .inl ar)), (mk, .inl (cI, 20, .inl ki)), (mtx, .inl (cI, 400, .inl mx))] := hD
          refine lv_aload_n hx hb dX4_scanAll_76 rfl (lv_at hl 0 rfl) ?_
          refine va_get (D := D) (ci := 4) (v := .ref m3) (C := RX4) (T := TX4) (N := 21) hx hb hw iwX4 hown hK.1 hP 4 rfl rfl 8 (by decide) (hw _ xw_280) (fun _ h9 => h9) rfl dX4_scanAll_77 ?_
          refine lv_aload_n hx hb dX4_scanAll_80 rfl (lv_at hl 0 rfl) ?_
          refine va_get (D := D) (ci := 4) (v := .int (nI tn)) (C := RX4) (T := TX4) (N := 21) hx hb hw iwX4 hown hK.1 hP 4 rfl rfl 4 (by decide) (hw _ xw_268) (fun _ h9 => h9) rfl dX4_scanAll_81 ?_
          refine lv_aload_n hx hb dX4_scanAll_84 rfl (lv_at hl 0 rfl) ?_
          refine va_get (D := D) (ci := 4) (v := .int (nI (es_Lo ar (es_lk mx n) b))) (C := RX4) (T := TX4) (N := 21) hx hb hw iwX4 hown hK.1 hP 4 rfl rfl 20 (by decide) (hw _ xw_302) (fun _ h9 => h9) rfl dX4_scanAll_85 ?_
          refine es_iast hx hb hK.1 hP hD hS 3 0 rfl rfl (by omega) (Nat.le_of_ble_eq_true rfl) dX4_scanAll_88 (fun H locs hP hD hS => ?_)
          have hP : va_P D vwCl [(m0, .inl (cI, 400, .inl (upd (E 0) tn (nI b)))), (m1, .inl (cI, 400, .inl (upd (E 1) tn (nI (es_Le ar ki (es_lk mx n) b))))), (m2, .inl (cI, 400, .inl (upd (E 2) tn (es_Kd ar ki (es_lk mx n) b)))), (m3, .inl (cI, 400, .inl (upd (E 3) tn (nI (es_Lo ar (es_lk mx n) b))))), (mo, .inr (4, [.ref ma, .ref mk, .ref mtx, .int (nI n), .int (nI tn), .ref m0, .ref m1, .ref m2, .ref m3, .int fl, .int fk, .int ot, .ref mb, .int of_, .int os_, .int (nI rd), .int (nI sc), .int (nI ed), .int (nI (es_Le ar ki (es_lk mx n) b)), .int (es_Kd ar ki (es_lk mx n) b), .int (nI (es_Lo ar (es_lk mx n) b))])), (ma, .inl (cI, 200, .inl ar)), (mk, .inl (cI, 20, .inl ki)), (mtx, .inl (cI, 400, .inl mx))] H := hP
          have hD : va_D A [(m0, .inl (cI, 400, .inl (upd (E 0) tn (nI b)))), (m1, .inl (cI, 400, .inl (upd (E 1) tn (nI (es_Le ar ki (es_lk mx n) b))))), (m2, .inl (cI, 400, .inl (upd (E 2) tn (es_Kd ar ki (es_lk mx n) b)))), (m3, .inl (cI, 400, .inl (upd (E 3) tn (nI (es_Lo ar (es_lk mx n) b))))), (mo, .inr (4, [.ref ma, .ref mk, .ref mtx, .int (nI n), .int (nI tn), .ref m0, .ref m1, .ref m2, .ref m3, .int fl, .int fk, .int ot, .ref mb, .int of_, .int os_, .int (nI rd), .int (nI sc), .int (nI ed), .int (nI (es_Le ar ki (es_lk mx n) b)), .int (es_Kd ar ki (es_lk mx n) b), .int (nI (es_Lo ar (es_lk mx n) b))])), (ma, .inl (cI, 200, .inl ar)), (mk, .inl (cI, 20, .inl ki)), (mtx, .inl (cI, 400, .inl mx))] := hD
          refine lv_aload_n hx hb dX4_scanAll_89 rfl (lv_at hl 0 rfl) ?_
          refine lv_dup hx hb dX4_scanAll_90 rfl ?_
          refine va_get (D := D) (ci := 4) (v := .int (nI tn)) (C := RX4) (T := TX4) (N := 21) hx hb hw iwX4 hown hK.1 hP 4 rfl rfl 4 (by decide) (hw _ xw_268) (fun _ h9 => h9) rfl dX4_scanAll_91 ?_
          refine lv_iconst (v := nI 1) hx hb dX4_scanAll_94 (by decide) ?_
          refine lv_iadd hx hb dX4_scanAll_95 ?_
          refine es_top (y := nI (tn + 1)) (nI_add _ _) ?_
          refine va_put (D := D) (ci := 4) (v := .int (nI (tn + 1))) (ty := .int) (C := RX4) (T := TX4) (N := 21) hx hb hw iwX4 tyX4 tyX4_ok nmX4 hown hK.1 hP hD hS 4 rfl rfl 4 (by decide) (hw _ xw_268) (fun _ h9 => h9) rfl (by decide +kernel) rfl rfl (Nat.le_of_ble_eq_true rfl) dX4_scanAll_96 (fun H locs hP hD hS => ?_)
          have hP : va_P D vwCl [(m0, .inl (cI, 400, .inl (upd (E 0) tn (nI b)))), (m1, .inl (cI, 400, .inl (upd (E 1) tn (nI (es_Le ar ki (es_lk mx n) b))))), (m2, .inl (cI, 400, .inl (upd (E 2) tn (es_Kd ar ki (es_lk mx n) b)))), (m3, .inl (cI, 400, .inl (upd (E 3) tn (nI (es_Lo ar (es_lk mx n) b))))), (mo, .inr (4, [.ref ma, .ref mk, .ref mtx, .int (nI n), .int (nI (tn + 1)), .ref m0, .ref m1, .ref m2, .ref m3, .int fl, .int fk, .int ot, .ref mb, .int of_, .int os_, .int (nI rd), .int (nI sc), .int (nI ed), .int (nI (es_Le ar ki (es_lk mx n) b)), .int (es_Kd ar ki (es_lk mx n) b), .int (nI (es_Lo ar (es_lk mx n) b))])), (ma, .inl (cI, 200, .inl ar)), (mk, .inl (cI, 20, .inl ki)), (mtx, .inl (cI, 400, .inl mx))] H := hP
          have hD : va_D A [(m0, .inl (cI, 400, .inl (upd (E 0) tn (nI b)))), (m1, .inl (cI, 400, .inl (upd (E 1) tn (nI (es_Le ar ki (es_lk mx n) b))))), (m2, .inl (cI, 400, .inl (upd (E 2) tn (es_Kd ar ki (es_lk mx n) b)))), (m3, .inl (cI, 400, .inl (upd (E 3) tn (nI (es_Lo ar (es_lk mx n) b))))), (mo, .inr (4, [.ref ma, .ref mk, .ref mtx, .int (nI n), .int (nI (tn + 1)), .ref m0, .ref m1, .ref m2, .ref m3, .int fl, .int fk, .int ot, .ref mb, .int of_, .int os_, .int (nI rd), .int (nI sc), .int (nI ed), .int (nI (es_Le ar ki (es_lk mx n) b)), .int (es_Kd ar ki (es_lk mx n) b), .int (nI (es_Lo ar (es_lk mx n) b))])), (ma, .inl (cI, 200, .inl ar)), (mk, .inl (cI, 20, .inl ki)), (mtx, .inl (cI, 400, .inl mx))] := hD
          refine lv_iload_n hx hb dX4_scanAll_99 rfl (lv_at hl 1 rfl) ?_
          refine lv_aload_n hx hb dX4_scanAll_100 rfl (lv_at hl 0 rfl) ?_
          refine va_get (D := D) (ci := 4) (v := .int (nI (es_Le ar ki (es_lk mx n) b))) (C := RX4) (T := TX4) (N := 21) hx hb hw iwX4 hown hK.1 hP 4 rfl rfl 18 (by decide) (hw _ xw_303) (fun _ h9 => h9) rfl dX4_scanAll_101 ?_
          refine lv_iadd hx hb dX4_scanAll_104 ?_
          refine es_top (y := nI (b + (es_Le ar ki (es_lk mx n) b))) (nI_add _ _) ?_
          refine lv_istore_n (lv' := [(1, .int (nI (b + (es_Le ar ki (es_lk mx n) b)))), (0, .ref mo)]) hx hb dX4_scanAll_105 rfl hl (by decide) rfl (fun ls hl => ?_)
          refine lv_goto (tgt := 17) hx hb dX4_scanAll_106 (by decide) ?_
          exact ih (es_row4 (upd (E 0) tn (nI b)) (upd (E 1) tn (nI (es_Le ar ki (es_lk mx n) b))) (upd (E 2) tn (es_Kd ar ki (es_lk mx n) b)) (upd (E 3) tn (nI (es_Lo ar (es_lk mx n) b)))) (tn + 1) (b + (es_Le ar ki (es_lk mx n) b)) fl fk (nI (es_Le ar ki (es_lk mx n) b)) (es_Kd ar ki (es_lk mx n) b) (nI (es_Lo ar (es_lk mx n) b)) 1 (es_fnd_s hE hbm) (lt_s htok (by rw [← hbm]; exact ⟨by omega, by omega⟩)) (by rw [es_B, ← hbm]) (by omega) (Or.inl ⟨rfl, hp2, hp3⟩) (by omega) H locs (hP.sub [4, 5, 6, 7, 0, 1, 2, 3] rfl) (hD.sub [4, 5, 6, 7, 0, 1, 2, 3] (by decide) rfl) hS ls (lv_sub hl [1, 0] rfl)
set_option maxHeartbeats 1000000 in
set_option maxRecDepth 100000 in
/-- X4.scanAll  -/
theorem c_X4_scanAll (l : Launch) (D : va_G) (cI : ClassId) (sz : Nat) (mo : Nat) (ma : Nat) (mk : Nat) (mtx : Nat) (m0 : Nat) (m1 : Nat) (m2 : Nat) (m3 : Nat) (mb : Nat) (ar : Nat → Int32) (ki : Nat → Int32) (mx : Nat → Int32) (M : Nat → Nat → Int32) (n : Nat) (tn : Nat) (fl : Int32) (fk : Int32) (ot : Int32) (of_ : Int32) (os_ : Int32) (rd : Nat) (sc : Nat) (ed : Nat) (ts : Int32) (tkd : Int32) (tl : Int32) (hta : es_ta ar) (htk : es_tk2 ki) (htt : es_tt mx n) (hn : n ≤ 400) : Met l yX4_scanAll (Cond.code yX4_scanAll cX4_scanAll 2 none :: es_T) { frames := 1, cells := 0, slots := 0, locals := 23 } (va_Pc [.ref mo] (es_W D cI sz [(mo, .inr (4, [.ref ma, .ref mk, .ref mtx, .int (nI n), .int (nI tn), .ref m0, .ref m1, .ref m2, .ref m3, .int fl, .int fk, .int ot, .ref mb, .int of_, .int os_, .int (nI rd), .int (nI sc), .int (nI ed), .int ts, .int tkd, .int tl])), (ma, .inl (cI, 200, .inl ar)), (mk, .inl (cI, 20, .inl ki)), (mtx, .inl (cI, 400, .inl mx)), (m0, .inl (cI, 400, .inl (M 0))), (m1, .inl (cI, 400, .inl (M 1))), (m2, .inl (cI, 400, .inl (M 2))), (m3, .inl (cI, 400, .inl (M 3)))])) (va_Qv (fun u => ∃ c, es_mdl ar ki (es_lk mx n) n c u.1 u.2.1 u.2.2.1 u.2.2.2.1) (fun (u : (Nat → Nat → Int32) × Nat × Int32 × Int32 × Int32 × Int32 × Int32) zt => va_P D vwCl [(mo, .inr (4, [.ref ma, .ref mk, .ref mtx, .int (nI n), .int (nI u.2.1), .ref m0, .ref m1, .ref m2, .ref m3, .int u.2.2.1, .int u.2.2.2.1, .int ot, .ref mb, .int of_, .int os_, .int (nI rd), .int (nI sc), .int (nI ed), .int u.2.2.2.2.1, .int u.2.2.2.2.2.1, .int u.2.2.2.2.2.2])), (ma, .inl (cI, 200, .inl ar)), (mk, .inl (cI, 20, .inl ki)), (mtx, .inl (cI, 400, .inl mx)), (m0, .inl (cI, 400, .inl (u.1 0))), (m1, .inl (cI, 400, .inl (u.1 1))), (m2, .inl (cI, 400, .inl (u.1 2))), (m3, .inl (cI, 400, .inl (u.1 3)))] zt.heap ∧ va_D (va_A [(mo, .inr (4, [.ref ma, .ref mk, .ref mtx, .int (nI n), .int (nI tn), .ref m0, .ref m1, .ref m2, .ref m3, .int fl, .int fk, .int ot, .ref mb, .int of_, .int os_, .int (nI rd), .int (nI sc), .int (nI ed), .int ts, .int tkd, .int tl])), (ma, .inl (cI, 200, .inl ar)), (mk, .inl (cI, 20, .inl ki)), (mtx, .inl (cI, 400, .inl mx)), (m0, .inl (cI, 400, .inl (M 0))), (m1, .inl (cI, 400, .inl (M 1))), (m2, .inl (cI, 400, .inl (M 2))), (m3, .inl (cI, 400, .inl (M 3)))] sz) [(mo, .inr (4, [.ref ma, .ref mk, .ref mtx, .int (nI n), .int (nI u.2.1), .ref m0, .ref m1, .ref m2, .ref m3, .int u.2.2.1, .int u.2.2.2.1, .int ot, .ref mb, .int of_, .int os_, .int (nI rd), .int (nI sc), .int (nI ed), .int u.2.2.2.2.1, .int u.2.2.2.2.2.1, .int u.2.2.2.2.2.2])), (ma, .inl (cI, 200, .inl ar)), (mk, .inl (cI, 20, .inl ki)), (mtx, .inl (cI, 400, .inl mx)), (m0, .inl (cI, 400, .inl (u.1 0))), (m1, .inl (cI, 400, .inl (u.1 1))), (m2, .inl (cI, 400, .inl (u.1 2))), (m3, .inl (cI, 400, .inl (u.1 3)))]) (va_A [(mo, .inr (4, [.ref ma, .ref mk, .ref mtx, .int (nI n), .int (nI tn), .ref m0, .ref m1, .ref m2, .ref m3, .int fl, .int fk, .int ot, .ref mb, .int of_, .int os_, .int (nI rd), .int (nI sc), .int (nI ed), .int ts, .int tkd, .int tl])), (ma, .inl (cI, 200, .inl ar)), (mk, .inl (cI, 20, .inl ki)), (mtx, .inl (cI, 400, .inl mx)), (m0, .inl (cI, 400, .inl (M 0))), (m1, .inl (cI, 400, .inl (M 1))), (m2, .inl (cI, 400, .inl (M 2))), (m3, .inl (cI, 400, .inl (M 3)))] sz)) 0 0 (va_A [(mo, .inr (4, [.ref ma, .ref mk, .ref mtx, .int (nI n), .int (nI tn), .ref m0, .ref m1, .ref m2, .ref m3, .int fl, .int fk, .int ot, .ref mb, .int of_, .int os_, .int (nI rd), .int (nI sc), .int (nI ed), .int ts, .int tkd, .int tl])), (ma, .inl (cI, 200, .inl ar)), (mk, .inl (cI, 20, .inl ki)), (mtx, .inl (cI, 400, .inl mx)), (m0, .inl (cI, 400, .inl (M 0))), (m1, .inl (cI, 400, .inl (M 1))), (m2, .inl (cI, 400, .inl (M 2))), (m3, .inl (cI, 400, .inl (M 3)))] sz) := by
  refine Met.ofW (cc := cX4_scanAll) (maxL := 2) (ret := none) (by decide) rfl ?_
  intro p e s m args below meth c s₁ B hml hv
  obtain ⟨rfl, hsz, hP, hK, hD0⟩ := hv
  have hx := B.exec
  have hb := B.bytes
  have hr := B.returns
  have hts := atoms_spec (ws := (Cond.code yX4_scanAll cX4_scanAll 2 none :: es_T)) B.pre
  have hw : ∀ w ∈ es_T, w.before _ s = true := fun w h => hts w (List.mem_cons_of_mem _ h)
  have hown : s.vm.findClass RX4 = some m.cls := findClass_of_methodNamed B.named
  have hlocks := B.notSynchronized
  have hRm : 1 ≤ (headSpec (Cond.code yX4_scanAll cX4_scanAll 2 none :: es_T) { frames := 1, cells := 0, slots := 0, locals := 23 }).room.frames ∧ 23 ≤ (headSpec (Cond.code yX4_scanAll cX4_scanAll 2 none :: es_T) { frames := 1, cells := 0, slots := 0, locals := 23 }).room.locals := ⟨Nat.le_refl _, Nat.le_refl _⟩
  have hRc : 0 ≤ (headSpec (Cond.code yX4_scanAll cX4_scanAll 2 none :: es_T) { frames := 1, cells := 0, slots := 0, locals := 23 }).room.cells ∧ 0 ≤ (headSpec (Cond.code yX4_scanAll cX4_scanAll 2 none :: es_T) { frames := 1, cells := 0, slots := 0, locals := 23 }).room.slots := ⟨Nat.le_refl _, Nat.le_refl _⟩
  subst hsz
  have hD := hD0.self (sz := s.heap.size)
  generalize hAe : va_A [(mo, .inr (4, [.ref ma, .ref mk, .ref mtx, .int (nI n), .int (nI tn), .ref m0, .ref m1, .ref m2, .ref m3, .int fl, .int fk, .int ot, .ref mb, .int of_, .int os_, .int (nI rd), .int (nI sc), .int (nI ed), .int ts, .int tkd, .int tl])), (ma, .inl (cI, 200, .inl ar)), (mk, .inl (cI, 20, .inl ki)), (mtx, .inl (cI, 400, .inl mx)), (m0, .inl (cI, 400, .inl (M 0))), (m1, .inl (cI, 400, .inl (M 1))), (m2, .inl (cI, 400, .inl (M 2))), (m3, .inl (cI, 400, .inl (M 3)))] s.heap.size = A at hD ⊢
  have hA : ∀ q : Nat, s.heap.size ≤ q → A q := fun q h => by rw [← hAe]; exact Or.inr h
  have hS : va_S A s.heap s.heap [] := va_S.rf
  have hl := lv_entry ([.ref mo]) (n := 2) (Nat.le_of_ble_eq_true rfl)
  rw [lg_entry_eq]
  generalize (lg_sl ([.ref mo]) ++ List.replicate (2 - (lg_sl ([.ref mo])).length) Slot.unset).toArray = ls at hl ⊢
  have hl : lv_has ls 2 [(0, .ref mo)] := hl
  refine lv_aload_n hx hb dX4_scanAll_0 rfl (lv_at hl 0 rfl) ?_
  refine lv_iconst (v := nI 0) hx hb dX4_scanAll_1 (by decide) ?_
  refine va_put (D := D) (ci := 4) (v := .int (nI 0)) (ty := .int) (C := RX4) (T := TX4) (N := 21) hx hb hw iwX4 tyX4 tyX4_ok nmX4 hown hK.1 hP hD hS 0 rfl rfl 4 (by decide) (hw _ xw_268) (fun _ h9 => h9) rfl (by decide +kernel) rfl rfl (Nat.le_of_ble_eq_true rfl) dX4_scanAll_2 (fun H locs hP hD hS => ?_)
  have hP : va_P D vwCl [(mo, .inr (4, [.ref ma, .ref mk, .ref mtx, .int (nI n), .int (nI 0), .ref m0, .ref m1, .ref m2, .ref m3, .int fl, .int fk, .int ot, .ref mb, .int of_, .int os_, .int (nI rd), .int (nI sc), .int (nI ed), .int ts, .int tkd, .int tl])), (ma, .inl (cI, 200, .inl ar)), (mk, .inl (cI, 20, .inl ki)), (mtx, .inl (cI, 400, .inl mx)), (m0, .inl (cI, 400, .inl (M 0))), (m1, .inl (cI, 400, .inl (M 1))), (m2, .inl (cI, 400, .inl (M 2))), (m3, .inl (cI, 400, .inl (M 3)))] H := hP
  have hD : va_D A [(mo, .inr (4, [.ref ma, .ref mk, .ref mtx, .int (nI n), .int (nI 0), .ref m0, .ref m1, .ref m2, .ref m3, .int fl, .int fk, .int ot, .ref mb, .int of_, .int os_, .int (nI rd), .int (nI sc), .int (nI ed), .int ts, .int tkd, .int tl])), (ma, .inl (cI, 200, .inl ar)), (mk, .inl (cI, 20, .inl ki)), (mtx, .inl (cI, 400, .inl mx)), (m0, .inl (cI, 400, .inl (M 0))), (m1, .inl (cI, 400, .inl (M 1))), (m2, .inl (cI, 400, .inl (M 2))), (m3, .inl (cI, 400, .inl (M 3)))] := hD
  refine lv_aload_n hx hb dX4_scanAll_5 rfl (lv_at hl 0 rfl) ?_
  refine lv_iconst (v := (-1)) hx hb dX4_scanAll_6 (by decide) ?_
  refine va_put (D := D) (ci := 4) (v := .int (-1)) (ty := .int) (C := RX4) (T := TX4) (N := 21) hx hb hw iwX4 tyX4 tyX4_ok nmX4 hown hK.1 hP hD hS 0 rfl rfl 9 (by decide) (hw _ xw_273) (fun _ h9 => h9) rfl (by decide +kernel) rfl rfl (Nat.le_of_ble_eq_true rfl) dX4_scanAll_7 (fun H locs hP hD hS => ?_)
  have hP : va_P D vwCl [(mo, .inr (4, [.ref ma, .ref mk, .ref mtx, .int (nI n), .int (nI 0), .ref m0, .ref m1, .ref m2, .ref m3, .int (-1), .int fk, .int ot, .ref mb, .int of_, .int os_, .int (nI rd), .int (nI sc), .int (nI ed), .int ts, .int tkd, .int tl])), (ma, .inl (cI, 200, .inl ar)), (mk, .inl (cI, 20, .inl ki)), (mtx, .inl (cI, 400, .inl mx)), (m0, .inl (cI, 400, .inl (M 0))), (m1, .inl (cI, 400, .inl (M 1))), (m2, .inl (cI, 400, .inl (M 2))), (m3, .inl (cI, 400, .inl (M 3)))] H := hP
  have hD : va_D A [(mo, .inr (4, [.ref ma, .ref mk, .ref mtx, .int (nI n), .int (nI 0), .ref m0, .ref m1, .ref m2, .ref m3, .int (-1), .int fk, .int ot, .ref mb, .int of_, .int os_, .int (nI rd), .int (nI sc), .int (nI ed), .int ts, .int tkd, .int tl])), (ma, .inl (cI, 200, .inl ar)), (mk, .inl (cI, 20, .inl ki)), (mtx, .inl (cI, 400, .inl mx)), (m0, .inl (cI, 400, .inl (M 0))), (m1, .inl (cI, 400, .inl (M 1))), (m2, .inl (cI, 400, .inl (M 2))), (m3, .inl (cI, 400, .inl (M 3)))] := hD
  refine lv_aload_n hx hb dX4_scanAll_10 rfl (lv_at hl 0 rfl) ?_
  refine lv_iconst (v := nI 0) hx hb dX4_scanAll_11 (by decide) ?_
  refine va_put (D := D) (ci := 4) (v := .int (nI 0)) (ty := .int) (C := RX4) (T := TX4) (N := 21) hx hb hw iwX4 tyX4 tyX4_ok nmX4 hown hK.1 hP hD hS 0 rfl rfl 10 (by decide) (hw _ xw_274) (fun _ h9 => h9) rfl (by decide +kernel) rfl rfl (Nat.le_of_ble_eq_true rfl) dX4_scanAll_12 (fun H locs hP hD hS => ?_)
  have hP : va_P D vwCl [(mo, .inr (4, [.ref ma, .ref mk, .ref mtx, .int (nI n), .int (nI 0), .ref m0, .ref m1, .ref m2, .ref m3, .int (-1), .int (nI 0), .int ot, .ref mb, .int of_, .int os_, .int (nI rd), .int (nI sc), .int (nI ed), .int ts, .int tkd, .int tl])), (ma, .inl (cI, 200, .inl ar)), (mk, .inl (cI, 20, .inl ki)), (mtx, .inl (cI, 400, .inl mx)), (m0, .inl (cI, 400, .inl (M 0))), (m1, .inl (cI, 400, .inl (M 1))), (m2, .inl (cI, 400, .inl (M 2))), (m3, .inl (cI, 400, .inl (M 3)))] H := hP
  have hD : va_D A [(mo, .inr (4, [.ref ma, .ref mk, .ref mtx, .int (nI n), .int (nI 0), .ref m0, .ref m1, .ref m2, .ref m3, .int (-1), .int (nI 0), .int ot, .ref mb, .int of_, .int os_, .int (nI rd), .int (nI sc), .int (nI ed), .int ts, .int tkd, .int tl])), (ma, .inl (cI, 200, .inl ar)), (mk, .inl (cI, 20, .inl ki)), (mtx, .inl (cI, 400, .inl mx)), (m0, .inl (cI, 400, .inl (M 0))), (m1, .inl (cI, 400, .inl (M 1))), (m2, .inl (cI, 400, .inl (M 2))), (m3, .inl (cI, 400, .inl (M 3)))] := hD
  refine lv_iconst (v := nI 0) hx hb dX4_scanAll_15 (by decide) ?_
  refine lv_istore_n (lv' := [(1, .int (nI 0)), (0, .ref mo)]) hx hb dX4_scanAll_16 rfl hl (by decide) rfl (fun ls hl => ?_)
  refine lp_scanAll D cI mo ma mk mtx m0 m1 m2 m3 mb ar ki mx n ot of_ os_ rd sc ed hx hb hml hown hw hK ⟨Nat.le_trans (Nat.le_of_ble_eq_true rfl) hRm.1, Nat.le_trans (Nat.le_of_ble_eq_true rfl) hRm.2⟩ hA (by first | assumption | omega) (by first | assumption | omega) (by first | assumption | omega) (by first | assumption | omega) (fun E tn fl fk ts tkd tl hmd H locs hP hD hS ls hl => ?_) ((n - 0 + 1) + 1) M 0 0 (-1) (nI 0) ts tkd tl 1 (fun i h => absurd h (Nat.not_lt_zero _)) (fun i h => absurd h (Nat.not_lt_zero _)) rfl (Nat.zero_le _) (Or.inl ⟨rfl, rfl, rfl⟩) (Nat.lt_succ_self _) H locs (hP.sub [0, 1, 2, 3, 4, 5, 6, 7] rfl) (hD.sub [0, 1, 2, 3, 4, 5, 6, 7] (by decide) rfl) hS ls (lv_sub hl [1, 0] rfl)
  exact W.vret hx hb hr (fun zt ht hW => ⟨⟨(E, tn, fl, fk, ts, tkd, tl), rfl, hmd, ⟨by rw [ht]; exact hP.sub [0, 1, 2, 3, 4, 5, 6, 7] rfl, hD.sub [0, 1, 2, 3, 4, 5, 6, 7] (by decide) rfl⟩⟩, hS.F ht⟩) hS.2.2 dX4_scanAll_125
set_option maxHeartbeats 1000000 in
set_option maxRecDepth 100000 in
theorem lp_began {p : Program} {l : Launch} {e : Env} {R : Room} {s : State} {m : MethodId} {args : Array Value} {below : List Frame} {meth : Method} {c : Code} {Q : State → Prop} {H : Heap} {locs : List Loc} (D : va_G) (cI : ClassId) (mo : Nat) (ma : Nat) (mk : Nat) (mtx : Nat) (m0 : Nat) (m1 : Nat) (m2 : Nat) (m3 : Nat) (mb : Nat) (ob : Nat → Int32) (n : Nat) (tn : Nat) (fl : Int32) (fk : Int32) (of_ : Int32) (os_ : Int32) (rd : Nat) (sc : Nat) (ed : Nat) (ts : Int32) (tkd : Int32) (tl : Int32) (otn : Nat) (x : Int32) (hx : p.tables.exec = Jvm.exec) (hb : c.code = cX4_began) (hml : c.maxLocals = 4) (hown : s.vm.findClass RX4 = some m.cls) (hw : ∀ w ∈ es_T, w.before args s = true) (hK : es_K D cI s) (hRm : 0 ≤ R.frames ∧ 0 ≤ R.locals) (hP : va_P D vwCl [(mo, .inr (4, [.ref ma, .ref mk, .ref mtx, .int (nI n), .int (nI tn), .ref m0, .ref m1, .ref m2, .ref m3, .int fl, .int fk, .int (nI otn), .ref mb, .int of_, .int os_, .int (nI rd), .int (nI sc), .int (nI ed), .int ts, .int tkd, .int tl])), (mb, .inl (cI, 400, .inl ob))] H) (hot : otn ≤ 400) (hex : ∀ (bg : Nat), ((bg = 1 ∧ (x = of_ ∨ x = os_ ∨ ∃ w : Nat, w < otn ∧ ob w = x)) ∨ (bg = 0 ∧ ¬ (x = of_ ∨ x = os_ ∨ ∃ w : Nat, w < otn ∧ ob w = x))) → ∀ (ls : Array Slot), lv_has ls 4 [(2, .int (nI bg))] →  W p l e R s m args below meth c H locs 0 0 Q (F0 m 58 ls [])) : ∀ (N : Nat) (i : Nat) (bg : Nat), (i ≤ otn) → ((bg = 1 ∧ (x = of_ ∨ x = os_ ∨ ∃ w : Nat, w < i ∧ ob w = x)) ∨ (bg = 0 ∧ ¬ (x = of_ ∨ x = os_ ∨ ∃ w : Nat, w < i ∧ ob w = x))) → (otn - i) < N → ∀ (ls : Array Slot), lv_has ls 4 [(0, .ref mo), (1, .int x), (2, .int (nI bg)), (3, .int (nI i))] →  W p l e R s m args below meth c H locs 0 0 Q (F0 m 24 ls []) := by
  intro N
  induction N with
  | zero =>
    intro i bg hi hg hN
    exact absurd hN (Nat.not_lt_zero _)
  | succ N ih =>
    intro i bg hi hg hN ls hl
    refine lv_iload_n hx hb dX4_began_24 rfl (lv_at hl 3 rfl) ?_
    refine lv_aload_n hx hb dX4_began_25 rfl (lv_at hl 0 rfl) ?_
    refine va_get (D := D) (ci := 4) (v := .int (nI otn)) (C := RX4) (T := TX4) (N := 21) hx hb hw iwX4 hown hK.1 hP 0 rfl rfl 11 (by decide) (hw _ xw_264) (fun _ h9 => h9) rfl dX4_began_26 ?_
    refine lv_icmp_ge (tgt := 58) hx hb dX4_began_29 (by decide) (fun c_29 => ?_) (fun c_29 => ?_)
    ·
      have c_29 := (nI_leI (by omega) (by omega)).mp c_29
      exact hex bg (by rw [show otn = i by omega]; exact hg)  ls (lv_sub hl [2] rfl)
    ·
      have c_29 := (mt (nI_leI (by omega) (by omega)).mpr c_29)
      refine lv_iload_n hx hb dX4_began_32 rfl (lv_at hl 2 rfl) ?_
      refine lv_if_ne (tgt := 46) hx hb dX4_began_33 (by decide) (fun c_33 => ?_) (fun c_33 => ?_)
      ·
        have c_33 := (mt (nI_eq (a := bg) (b := 0) (by omega) (by omega)).mpr c_33)
        refine lv_iconst (v := nI 1) hx hb dX4_began_46 (by decide) ?_
        refine lv_goto (tgt := 51) hx hb dX4_began_47 (by decide) ?_
        refine lv_istore_n (lv' := [(2, .int (nI 1)), (0, .ref mo), (1, .int x), (3, .int (nI i))]) hx hb dX4_began_51 rfl hl (by decide) rfl (fun ls hl => ?_)
        refine lv_iinc (v := nI (i + 1)) (lv' := [(3, .int (nI (i + 1))), (2, .int (nI 1)), (0, .ref mo), (1, .int x)]) hx hb dX4_began_52 hl (k := 3) rfl (nI_1 _) (by decide) rfl (fun ls hl => ?_)
        refine lv_goto (tgt := 24) hx hb dX4_began_55 (by decide) ?_
        exact ih (i + 1) 1 (by first | assumption | omega) (by first | exact es_bgA hg c_33 | exact es_bgB c_43 | exact es_bgC hg c_33 c_43) (by omega) ls (lv_sub hl [2, 3, 1, 0] rfl)
      ·
        have c_33 := (nI_eq (a := bg) (b := 0) (by omega) (by omega)).mp c_33
        refine lv_aload_n hx hb dX4_began_36 rfl (lv_at hl 0 rfl) ?_
        refine va_get (D := D) (ci := 4) (v := .ref mb) (C := RX4) (T := TX4) (N := 21) hx hb hw iwX4 hown hK.1 hP 0 rfl rfl 12 (by decide) (hw _ xw_265) (fun _ h9 => h9) rfl dX4_began_37 ?_
        refine lv_iload_n hx hb dX4_began_40 rfl (lv_at hl 3 rfl) ?_
        refine es_iald hx hb hK.1 hP 1 0 rfl rfl (by omega) (Nat.le_of_ble_eq_true rfl) dX4_began_41 ?_
        refine lv_iload_n hx hb dX4_began_42 rfl (lv_at hl 1 rfl) ?_
        refine lv_icmp_ne (tgt := 50) hx hb dX4_began_43 (by decide) (fun c_43 => ?_) (fun c_43 => ?_)
        ·
          refine lv_iconst (v := nI 0) hx hb dX4_began_50 (by decide) ?_
          refine lv_istore_n (lv' := [(2, .int (nI 0)), (0, .ref mo), (1, .int x), (3, .int (nI i))]) hx hb dX4_began_51 rfl hl (by decide) rfl (fun ls hl => ?_)
          refine lv_iinc (v := nI (i + 1)) (lv' := [(3, .int (nI (i + 1))), (2, .int (nI 0)), (0, .ref mo), (1, .int x)]) hx hb dX4_began_52 hl (k := 3) rfl (nI_1 _) (by decide) rfl (fun ls hl => ?_)
          refine lv_goto (tgt := 24) hx hb dX4_began_55 (by decide) ?_
          exact ih (i + 1) 0 (by first | assumption | omega) (by first | exact es_bgA hg c_33 | exact es_bgB c_43 | exact es_bgC hg c_33 c_43) (by omega) ls (lv_sub hl [2, 3, 1, 0] rfl)
        ·
          refine lv_iconst (v := nI 1) hx hb dX4_began_46 (by decide) ?_
          refine lv_goto (tgt := 51) hx hb dX4_began_47 (by decide) ?_
          refine lv_istore_n (lv' := [(2, .int (nI 1)), (0, .ref mo), (1, .int x), (3, .int (nI i))]) hx hb dX4_began_51 rfl hl (by decide) rfl (fun ls hl => ?_)
          refine lv_iinc (v := nI (i + 1)) (lv' := [(3, .int (nI (i + 1))), (2, .int (nI 1)), (0, .ref mo), (1, .int x)]) hx hb dX4_began_52 hl (k := 3) rfl (nI_1 _) (by decide) rfl (fun ls hl => ?_)
          refine lv_goto (tgt := 24) hx hb dX4_began_55 (by decide) ?_
          exact ih (i + 1) 1 (by first | assumption | omega) (by first | exact es_bgA hg c_33 | exact es_bgB c_43 | exact es_bgC hg c_33 c_43) (by omega) ls (lv_sub hl [2, 3, 1, 0] rfl)
set_option maxHeartbeats 1000000 in
set_option maxRecDepth 100000 in
/-- X4.began  -/
theorem c_X4_began (l : Launch) (D : va_G) (cI : ClassId) (mo : Nat) (ma : Nat) (mk : Nat) (mtx : Nat) (m0 : Nat) (m1 : Nat) (m2 : Nat) (m3 : Nat) (mb : Nat) (ob : Nat → Int32) (n : Nat) (tn : Nat) (fl : Int32) (fk : Int32) (of_ : Int32) (os_ : Int32) (rd : Nat) (sc : Nat) (ed : Nat) (ts : Int32) (tkd : Int32) (tl : Int32) (otn : Nat) (x : Int32) (hot : otn ≤ 400) : Met l yX4_began (Cond.code yX4_began cX4_began 4 (some .boolean) :: es_T) { frames := 0, cells := 0, slots := 0, locals := 0 } (va_Pc [.ref mo, .int x] (es_R D cI [(mo, .inr (4, [.ref ma, .ref mk, .ref mtx, .int (nI n), .int (nI tn), .ref m0, .ref m1, .ref m2, .ref m3, .int fl, .int fk, .int (nI otn), .ref mb, .int of_, .int os_, .int (nI rd), .int (nI sc), .int (nI ed), .int ts, .int tkd, .int tl])), (mb, .inl (cI, 400, .inl ob))])) (vp_Si (fun q => (q = nI 1 ∧ (x = of_ ∨ x = os_ ∨ ∃ w : Nat, w < otn ∧ ob w = x)) ∨ (q = nI 0 ∧ ¬ (x = of_ ∨ x = os_ ∨ ∃ w : Nat, w < otn ∧ ob w = x)))) 0 0 (fun _ => False) := by
  refine Met.ofW (cc := cX4_began) (maxL := 4) (ret := (some .boolean)) (by decide) rfl ?_
  intro p e s m args below meth c s₁ B hml hv
  obtain ⟨rfl, hP, hK⟩ := hv
  have hx := B.exec
  have hb := B.bytes
  have hr := B.returns
  have hts := atoms_spec (ws := (Cond.code yX4_began cX4_began 4 (some .boolean) :: es_T)) B.pre
  have hw : ∀ w ∈ es_T, w.before _ s = true := fun w h => hts w (List.mem_cons_of_mem _ h)
  have hown : s.vm.findClass RX4 = some m.cls := findClass_of_methodNamed B.named
  have hlocks := B.notSynchronized
  have hRm : 0 ≤ (headSpec (Cond.code yX4_began cX4_began 4 (some .boolean) :: es_T) { frames := 0, cells := 0, slots := 0, locals := 0 }).room.frames ∧ 0 ≤ (headSpec (Cond.code yX4_began cX4_began 4 (some .boolean) :: es_T) { frames := 0, cells := 0, slots := 0, locals := 0 }).room.locals := ⟨Nat.le_refl _, Nat.le_refl _⟩
  have hRc : 0 ≤ (headSpec (Cond.code yX4_began cX4_began 4 (some .boolean) :: es_T) { frames := 0, cells := 0, slots := 0, locals := 0 }).room.cells ∧ 0 ≤ (headSpec (Cond.code yX4_began cX4_began 4 (some .boolean) :: es_T) { frames := 0, cells := 0, slots := 0, locals := 0 }).room.slots := ⟨Nat.le_refl _, Nat.le_refl _⟩
  have hl := lv_entry ([.ref mo, .int x]) (n := 4) (Nat.le_of_ble_eq_true rfl)
  rw [lg_entry_eq]
  generalize (lg_sl ([.ref mo, .int x]) ++ List.replicate (4 - (lg_sl ([.ref mo, .int x])).length) Slot.unset).toArray = ls at hl ⊢
  have hl : lv_has ls 4 [(0, .ref mo), (1, .int x)] := hl
  refine lv_iload_n hx hb dX4_began_0 rfl (lv_at hl 1 rfl) ?_
  refine lv_aload_n hx hb dX4_began_1 rfl (lv_at hl 0 rfl) ?_
  refine va_get (D := D) (ci := 4) (v := .int of_) (C := RX4) (T := TX4) (N := 21) hx hb hw iwX4 hown hK.1 hP 0 rfl rfl 13 (by decide) (hw _ xw_262) (fun _ h9 => h9) rfl dX4_began_2 ?_
  refine lv_icmp_eq (tgt := 16) hx hb dX4_began_5 (by decide) (fun c_5 => ?_) (fun c_5 => ?_)
  ·
    refine lv_iconst (v := nI 1) hx hb dX4_began_16 (by decide) ?_
    refine lv_goto (tgt := 21) hx hb dX4_began_17 (by decide) ?_
    refine lv_istore_n (lv' := [(2, .int (nI 1)), (0, .ref mo), (1, .int x)]) hx hb dX4_began_21 rfl hl (by decide) rfl (fun ls hl => ?_)
    refine lv_iconst (v := nI 0) hx hb dX4_began_22 (by decide) ?_
    refine lv_istore_n (lv' := [(3, .int (nI 0)), (2, .int (nI 1)), (0, .ref mo), (1, .int x)]) hx hb dX4_began_23 rfl hl (by decide) rfl (fun ls hl => ?_)
    refine lp_began D cI mo ma mk mtx m0 m1 m2 m3 mb ob n tn fl fk of_ os_ rd sc ed ts tkd tl otn x hx hb hml hown hw hK ⟨Nat.le_trans (Nat.le_of_ble_eq_true rfl) hRm.1, Nat.le_trans (Nat.le_of_ble_eq_true rfl) hRm.2⟩ hP (by first | assumption | omega) (fun bg hg ls hl => ?_) ((otn - 0) + 1) 0 1 (Nat.zero_le _) (by first | exact Or.inl ⟨rfl, Or.inl c_5⟩ | exact Or.inl ⟨rfl, Or.inr (Or.inl c_13)⟩ | exact Or.inr ⟨rfl, fun h => h.elim c_5 (fun h => h.elim c_13 (fun ⟨w, hw, _⟩ => absurd hw (Nat.not_lt_zero _)))⟩) (Nat.lt_succ_self _) ls (lv_sub hl [2, 3, 1, 0] rfl)
    refine lv_iload_n hx hb dX4_began_58 rfl (lv_at hl 0 rfl) ?_
    exact W.zret (v := nI bg) hx hb hr (es_nar1 (by omega)) (fun zt ht hW => ⟨_, rfl, (by rcases hg with ⟨rfl, h⟩ | ⟨rfl, h⟩; exact Or.inl ⟨rfl, h⟩; exact Or.inr ⟨rfl, h⟩), ht⟩) (fun _ h => by cases h) dX4_began_59
  ·
    refine lv_iload_n hx hb dX4_began_8 rfl (lv_at hl 1 rfl) ?_
    refine lv_aload_n hx hb dX4_began_9 rfl (lv_at hl 0 rfl) ?_
    refine va_get (D := D) (ci := 4) (v := .int os_) (C := RX4) (T := TX4) (N := 21) hx hb hw iwX4 hown hK.1 hP 0 rfl rfl 14 (by decide) (hw _ xw_263) (fun _ h9 => h9) rfl dX4_began_10 ?_
    refine lv_icmp_ne (tgt := 20) hx hb dX4_began_13 (by decide) (fun c_13 => ?_) (fun c_13 => ?_)
    ·
      refine lv_iconst (v := nI 0) hx hb dX4_began_20 (by decide) ?_
      refine lv_istore_n (lv' := [(2, .int (nI 0)), (0, .ref mo), (1, .int x)]) hx hb dX4_began_21 rfl hl (by decide) rfl (fun ls hl => ?_)
      refine lv_iconst (v := nI 0) hx hb dX4_began_22 (by decide) ?_
      refine lv_istore_n (lv' := [(3, .int (nI 0)), (2, .int (nI 0)), (0, .ref mo), (1, .int x)]) hx hb dX4_began_23 rfl hl (by decide) rfl (fun ls hl => ?_)
      refine lp_began D cI mo ma mk mtx m0 m1 m2 m3 mb ob n tn fl fk of_ os_ rd sc ed ts tkd tl otn x hx hb hml hown hw hK ⟨Nat.le_trans (Nat.le_of_ble_eq_true rfl) hRm.1, Nat.le_trans (Nat.le_of_ble_eq_true rfl) hRm.2⟩ hP (by first | assumption | omega) (fun bg hg ls hl => ?_) ((otn - 0) + 1) 0 0 (Nat.zero_le _) (by first | exact Or.inl ⟨rfl, Or.inl c_5⟩ | exact Or.inl ⟨rfl, Or.inr (Or.inl c_13)⟩ | exact Or.inr ⟨rfl, fun h => h.elim c_5 (fun h => h.elim c_13 (fun ⟨w, hw, _⟩ => absurd hw (Nat.not_lt_zero _)))⟩) (Nat.lt_succ_self _) ls (lv_sub hl [2, 3, 1, 0] rfl)
      refine lv_iload_n hx hb dX4_began_58 rfl (lv_at hl 0 rfl) ?_
      exact W.zret (v := nI bg) hx hb hr (es_nar1 (by omega)) (fun zt ht hW => ⟨_, rfl, (by rcases hg with ⟨rfl, h⟩ | ⟨rfl, h⟩; exact Or.inl ⟨rfl, h⟩; exact Or.inr ⟨rfl, h⟩), ht⟩) (fun _ h => by cases h) dX4_began_59
    ·
      refine lv_iconst (v := nI 1) hx hb dX4_began_16 (by decide) ?_
      refine lv_goto (tgt := 21) hx hb dX4_began_17 (by decide) ?_
      refine lv_istore_n (lv' := [(2, .int (nI 1)), (0, .ref mo), (1, .int x)]) hx hb dX4_began_21 rfl hl (by decide) rfl (fun ls hl => ?_)
      refine lv_iconst (v := nI 0) hx hb dX4_began_22 (by decide) ?_
      refine lv_istore_n (lv' := [(3, .int (nI 0)), (2, .int (nI 1)), (0, .ref mo), (1, .int x)]) hx hb dX4_began_23 rfl hl (by decide) rfl (fun ls hl => ?_)
      refine lp_began D cI mo ma mk mtx m0 m1 m2 m3 mb ob n tn fl fk of_ os_ rd sc ed ts tkd tl otn x hx hb hml hown hw hK ⟨Nat.le_trans (Nat.le_of_ble_eq_true rfl) hRm.1, Nat.le_trans (Nat.le_of_ble_eq_true rfl) hRm.2⟩ hP (by first | assumption | omega) (fun bg hg ls hl => ?_) ((otn - 0) + 1) 0 1 (Nat.zero_le _) (by first | exact Or.inl ⟨rfl, Or.inl c_5⟩ | exact Or.inl ⟨rfl, Or.inr (Or.inl c_13)⟩ | exact Or.inr ⟨rfl, fun h => h.elim c_5 (fun h => h.elim c_13 (fun ⟨w, hw, _⟩ => absurd hw (Nat.not_lt_zero _)))⟩) (Nat.lt_succ_self _) ls (lv_sub hl [2, 3, 1, 0] rfl)
      refine lv_iload_n hx hb dX4_began_58 rfl (lv_at hl 0 rfl) ?_
      exact W.zret (v := nI bg) hx hb hr (es_nar1 (by omega)) (fun zt ht hW => ⟨_, rfl, (by rcases hg with ⟨rfl, h⟩ | ⟨rfl, h⟩; exact Or.inl ⟨rfl, h⟩; exact Or.inr ⟨rfl, h⟩), ht⟩) (fun _ h => by cases h) dX4_began_59
end
