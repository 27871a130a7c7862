section
-- ===== PART A: goes FIRST, ahead of the names: the tables' words, and 'selects' of the private methods out of them =====
/-- a private method of a class that the tables say can be made, by its rows of tables_1 -/
def lw_okq (q : MethodName × Nat) : Prop := (q.1.cls ≠ "java/lang/invoke/MethodHandle" ∧ q.1.cls ≠ "java/lang/invoke/VarHandle") ∧ Cond.instantiable q.1.cls q.2 ∈ tables_1 ∧ Cond.privateMethod q.1 ∈ tables_1 ∧ Cond.instanceMethod q.1 ∈ tables_1
theorem lw_p0 : lw_okq (⟨"EditedScanner", "scanAnew", "(III)V"⟩, 7) := ⟨⟨by decide +kernel, by decide +kernel⟩, List.mem_of_getElem? (i := 10) (by decide +kernel), List.mem_of_getElem? (i := 153) (by decide +kernel), List.mem_of_getElem? (i := 154) (by decide +kernel)⟩
theorem lw_p1 : lw_okq (⟨"EditedScanner$Findings", "has", "(I)Z"⟩, 5) := ⟨⟨by decide +kernel, by decide +kernel⟩, List.mem_of_getElem? (i := 52) (by decide +kernel), List.mem_of_getElem? (i := 184) (by decide +kernel), List.mem_of_getElem? (i := 185) (by decide +kernel)⟩
theorem lw_p2 : lw_okq (⟨"EditedScanner", "scanOne", "(I)V"⟩, 7) := ⟨⟨by decide +kernel, by decide +kernel⟩, List.mem_of_getElem? (i := 10) (by decide +kernel), List.mem_of_getElem? (i := 192) (by decide +kernel), List.mem_of_getElem? (i := 193) (by decide +kernel)⟩
theorem lw_p3 : lw_okq (⟨"EditedScannerModel", "forget", "()V"⟩, 21) := ⟨⟨by decide +kernel, by decide +kernel⟩, List.mem_of_getElem? (i := 263) (by decide +kernel), List.mem_of_getElem? (i := 269) (by decide +kernel), List.mem_of_getElem? (i := 270) (by decide +kernel)⟩
theorem lw_p4 : lw_okq (⟨"EditedScannerModel", "change", "(IIJI)V"⟩, 21) := ⟨⟨by decide +kernel, by decide +kernel⟩, List.mem_of_getElem? (i := 263) (by decide +kernel), List.mem_of_getElem? (i := 351) (by decide +kernel), List.mem_of_getElem? (i := 352) (by decide +kernel)⟩
theorem lw_p5 : lw_okq (⟨"EditedScannerModel", "goOver", "(IIII)V"⟩, 21) := ⟨⟨by decide +kernel, by decide +kernel⟩, List.mem_of_getElem? (i := 263) (by decide +kernel), List.mem_of_getElem? (i := 355) (by decide +kernel), List.mem_of_getElem? (i := 356) (by decide +kernel)⟩
theorem lw_p6 : lw_okq (⟨"EditedScannerModel", "began", "(I)Z"⟩, 21) := ⟨⟨by decide +kernel, by decide +kernel⟩, List.mem_of_getElem? (i := 263) (by decide +kernel), List.mem_of_getElem? (i := 359) (by decide +kernel), List.mem_of_getElem? (i := 360) (by decide +kernel)⟩
theorem lw_p7 : lw_okq (⟨"EditedScannerModel", "scan", "(I)Z"⟩, 21) := ⟨⟨by decide +kernel, by decide +kernel⟩, List.mem_of_getElem? (i := 263) (by decide +kernel), List.mem_of_getElem? (i := 363) (by decide +kernel), List.mem_of_getElem? (i := 364) (by decide +kernel)⟩
theorem lw_p8 : lw_okq (⟨"EditedScannerModel", "scanAll", "()V"⟩, 21) := ⟨⟨by decide +kernel, by decide +kernel⟩, List.mem_of_getElem? (i := 263) (by decide +kernel), List.mem_of_getElem? (i := 367) (by decide +kernel), List.mem_of_getElem? (i := 368) (by decide +kernel)⟩
def lw_privs_1 : List (MethodName × Nat) := [(⟨"EditedScanner", "scanAnew", "(III)V"⟩, 7), (⟨"EditedScanner$Findings", "has", "(I)Z"⟩, 5), (⟨"EditedScanner", "scanOne", "(I)V"⟩, 7), (⟨"EditedScannerModel", "forget", "()V"⟩, 21), (⟨"EditedScannerModel", "change", "(IIJI)V"⟩, 21), (⟨"EditedScannerModel", "goOver", "(IIII)V"⟩, 21), (⟨"EditedScannerModel", "began", "(I)Z"⟩, 21), (⟨"EditedScannerModel", "scan", "(I)Z"⟩, 21), (⟨"EditedScannerModel", "scanAll", "()V"⟩, 21)]
theorem lw_r1 : ∀ q ∈ lw_privs_1, lw_okq q := List.forall_mem_cons.mpr ⟨lw_p0, List.forall_mem_cons.mpr ⟨lw_p1, List.forall_mem_cons.mpr ⟨lw_p2, List.forall_mem_cons.mpr ⟨lw_p3, List.forall_mem_cons.mpr ⟨lw_p4, List.forall_mem_cons.mpr ⟨lw_p5, List.forall_mem_cons.mpr ⟨lw_p6, List.forall_mem_cons.mpr ⟨lw_p7, List.forall_mem_cons.mpr ⟨lw_p8, fun _ h => absurd h List.not_mem_nil⟩⟩⟩⟩⟩⟩⟩⟩⟩
def lw_privs : List (MethodName × Nat) := lw_privs_1
def lw_tbl : List Cond := k2_sels lw_privs ++ tables_1
theorem lw_privs_ok : ∀ q ∈ lw_privs, lw_okq q := lw_r1
def RX0 : String := "EditedScanner$Findings"
def TX0 : u_T := fun k => match k with
  | 0 => ("EditedScanner$Findings", "begins", "[I", true)
  | 1 => ("EditedScanner$Findings", "lengths", "[I", true)
  | 2 => ("EditedScanner$Findings", "kinds", "[I", true)
  | 3 => ("EditedScanner$Findings", "looks", "[I", true)
  | _ => ("EditedScanner$Findings", "size", "I", false)
def tyX0 : Nat → FieldType := fun k => match k with
  | 0 => .array .int
  | 1 => .array .int
  | 2 => .array .int
  | 3 => .array .int
  | _ => .int
abbrev wsX00 : List Cond := u_ws RX0 TX0 5
theorem nmX0 : ∀ a, a < 5 → ∀ b, b < 5 → a ≠ b → (TX0 a).2.1 ≠ (TX0 b).2.1 := by decide +kernel
theorem tyX0_ok : ∀ k, k < 5 → parseFieldDescriptor (TX0 k).2.2.1 = some (tyX0 k) := by decide +kernel
abbrev cX0_init : ByteArray := prog_2_method_1_code
def yX0_init : MethodName := ⟨RX0, "<init>", "()V"⟩
abbrev cX0_forget : ByteArray := prog_2_method_2_code
def yX0_forget : MethodName := ⟨RX0, "forget", "()V"⟩
abbrev cX0_size : ByteArray := prog_2_method_3_code
def yX0_size : MethodName := ⟨RX0, "size", "()I"⟩
abbrev cX0_failed : ByteArray := prog_2_method_4_code
def yX0_failed : MethodName := ⟨RX0, "failed", "()Z"⟩
abbrev cX0_tokens : ByteArray := prog_2_method_5_code
def yX0_tokens : MethodName := ⟨RX0, "tokens", "()I"⟩
abbrev cX0_begin : ByteArray := prog_2_method_6_code
def yX0_begin : MethodName := ⟨RX0, "begin", "(I)I"⟩
abbrev cX0_length : ByteArray := prog_2_method_7_code
def yX0_length : MethodName := ⟨RX0, "length", "(I)I"⟩
abbrev cX0_kindFound : ByteArray := prog_2_method_8_code
def yX0_kindFound : MethodName := ⟨RX0, "kindFound", "(I)I"⟩
abbrev cX0_looked : ByteArray := prog_2_method_9_code
def yX0_looked : MethodName := ⟨RX0, "looked", "(I)I"⟩
abbrev cX0_nextBegin : ByteArray := prog_2_method_10_code
def yX0_nextBegin : MethodName := ⟨RX0, "nextBegin", "()I"⟩
abbrev cX0_tokenAround : ByteArray := prog_2_method_11_code
def yX0_tokenAround : MethodName := ⟨RX0, "tokenAround", "(I)I"⟩
abbrev cX0_firstThatLookedAt : ByteArray := prog_2_method_12_code
def yX0_firstThatLookedAt : MethodName := ⟨RX0, "firstThatLookedAt", "(I)I"⟩
abbrev cX0_firstFrom : ByteArray := prog_2_method_13_code
def yX0_firstFrom : MethodName := ⟨RX0, "firstFrom", "(II)I"⟩
abbrev cX0_add : ByteArray := prog_2_method_14_code
def yX0_add : MethodName := ⟨RX0, "add", "(IIII)V"⟩
abbrev cX0_takeUpTo : ByteArray := prog_2_method_15_code
def yX0_takeUpTo : MethodName := ⟨RX0, "takeUpTo", "(LEditedScanner$Findings;I)V"⟩
abbrev cX0_takeMoved : ByteArray := prog_2_method_16_code
def yX0_takeMoved : MethodName := ⟨RX0, "takeMoved", "(LEditedScanner$Findings;II)V"⟩
abbrev cX0_has : ByteArray := prog_2_method_17_code
def yX0_has : MethodName := ⟨RX0, "has", "(I)Z"⟩
def RX1 : String := "EditedScanner$Table"
def TX1 : u_T := fun k => match k with
  | 0 => ("EditedScanner$Table", "arrows", "[I", true)
  | _ => ("EditedScanner$Table", "kinds", "[I", true)
def tyX1 : Nat → FieldType := fun k => match k with
  | 0 => .array .int
  | _ => .array .int
abbrev wsX10 : List Cond := u_ws RX1 TX1 2
theorem nmX1 : ∀ a, a < 2 → ∀ b, b < 2 → a ≠ b → (TX1 a).2.1 ≠ (TX1 b).2.1 := by decide +kernel
theorem tyX1_ok : ∀ k, k < 2 → parseFieldDescriptor (TX1 k).2.2.1 = some (tyX1 k) := by decide +kernel
abbrev cX1_init : ByteArray := prog_3_method_1_code
def yX1_init : MethodName := ⟨RX1, "<init>", "()V"⟩
abbrev cX1_forget : ByteArray := prog_3_method_2_code
def yX1_forget : MethodName := ⟨RX1, "forget", "()V"⟩
abbrev cX1_setArrow : ByteArray := prog_3_method_3_code
def yX1_setArrow : MethodName := ⟨RX1, "setArrow", "(III)Z"⟩
abbrev cX1_setKind : ByteArray := prog_3_method_4_code
def yX1_setKind : MethodName := ⟨RX1, "setKind", "(II)Z"⟩
abbrev cX1_next : ByteArray := prog_3_method_5_code
def yX1_next : MethodName := ⟨RX1, "next", "(II)I"⟩
abbrev cX1_kindOf : ByteArray := prog_3_method_6_code
def yX1_kindOf : MethodName := ⟨RX1, "kindOf", "(I)I"⟩
abbrev cX1_isState : ByteArray := prog_3_method_7_code
def yX1_isState : MethodName := ⟨RX1, "isState", "(I)Z"⟩
abbrev cX1_isSymbol : ByteArray := prog_3_method_8_code
def yX1_isSymbol : MethodName := ⟨RX1, "isSymbol", "(I)Z"⟩
def RX2 : String := "EditedScanner$Text"
def TX2 : u_T := fun k => match k with
  | 0 => ("EditedScanner$Text", "row", "[I", true)
  | _ => ("EditedScanner$Text", "size", "I", false)
def tyX2 : Nat → FieldType := fun k => match k with
  | 0 => .array .int
  | _ => .int
abbrev wsX20 : List Cond := u_ws RX2 TX2 2
theorem nmX2 : ∀ a, a < 2 → ∀ b, b < 2 → a ≠ b → (TX2 a).2.1 ≠ (TX2 b).2.1 := by decide +kernel
theorem tyX2_ok : ∀ k, k < 2 → parseFieldDescriptor (TX2 k).2.2.1 = some (tyX2 k) := by decide +kernel
abbrev cX2_init : ByteArray := prog_4_method_1_code
def yX2_init : MethodName := ⟨RX2, "<init>", "()V"⟩
abbrev cX2_forget : ByteArray := prog_4_method_2_code
def yX2_forget : MethodName := ⟨RX2, "forget", "()V"⟩
abbrev cX2_size : ByteArray := prog_4_method_3_code
def yX2_size : MethodName := ⟨RX2, "size", "()I"⟩
abbrev cX2_isEmpty : ByteArray := prog_4_method_4_code
def yX2_isEmpty : MethodName := ⟨RX2, "isEmpty", "()Z"⟩
abbrev cX2_at : ByteArray := prog_4_method_5_code
def yX2_at : MethodName := ⟨RX2, "at", "(I)I"⟩
abbrev cX2_canReplace : ByteArray := prog_4_method_6_code
def yX2_canReplace : MethodName := ⟨RX2, "canReplace", "(III)Z"⟩
abbrev cX2_replace : ByteArray := prog_4_method_7_code
def yX2_replace : MethodName := ⟨RX2, "replace", "(IIJI)V"⟩
def RX3 : String := "EditedScanner"
def TX3 : u_T := fun k => match k with
  | 0 => ("EditedScanner", "table", "LEditedScanner$Table;", true)
  | 1 => ("EditedScanner", "text", "LEditedScanner$Text;", true)
  | 2 => ("EditedScanner", "found", "LEditedScanner$Findings;", false)
  | 3 => ("EditedScanner", "spare", "LEditedScanner$Findings;", false)
  | 4 => ("EditedScanner", "readByLast", "I", false)
  | 5 => ("EditedScanner", "scannedByLast", "I", false)
  | _ => ("EditedScanner", "edits", "I", false)
def tyX3 : Nat → FieldType := fun k => match k with
  | 0 => .object "EditedScanner$Table"
  | 1 => .object "EditedScanner$Text"
  | 2 => .object "EditedScanner$Findings"
  | 3 => .object "EditedScanner$Findings"
  | 4 => .int
  | 5 => .int
  | _ => .int
abbrev wsX30 : List Cond := u_ws RX3 TX3 7
theorem nmX3 : ∀ a, a < 7 → ∀ b, b < 7 → a ≠ b → (TX3 a).2.1 ≠ (TX3 b).2.1 := by decide +kernel
theorem tyX3_ok : ∀ k, k < 7 → parseFieldDescriptor (TX3 k).2.2.1 = some (tyX3 k) := by decide +kernel
abbrev cX3_init : ByteArray := prog_1_method_1_code
def yX3_init : MethodName := ⟨RX3, "<init>", "()V"⟩
abbrev cX3_arrow : ByteArray := prog_1_method_2_code
def yX3_arrow : MethodName := ⟨RX3, "arrow", "(III)Z"⟩
abbrev cX3_kind : ByteArray := prog_1_method_3_code
def yX3_kind : MethodName := ⟨RX3, "kind", "(II)Z"⟩
abbrev cX3_edit : ByteArray := prog_1_method_4_code
def yX3_edit : MethodName := ⟨RX3, "edit", "(IIJI)I"⟩
abbrev cX3_token : ByteArray := prog_1_method_5_code
def yX3_token : MethodName := ⟨RX3, "token", "(II)I"⟩
abbrev cX3_tokenAt : ByteArray := prog_1_method_6_code
def yX3_tokenAt : MethodName := ⟨RX3, "tokenAt", "(I)I"⟩
abbrev cX3_symbol : ByteArray := prog_1_method_7_code
def yX3_symbol : MethodName := ⟨RX3, "symbol", "(I)I"⟩
abbrev cX3_count : ByteArray := prog_1_method_8_code
def yX3_count : MethodName := ⟨RX3, "count", "(I)I"⟩
abbrev cX3_clear : ByteArray := prog_1_method_9_code
def yX3_clear : MethodName := ⟨RX3, "clear", "()I"⟩
abbrev cX3_areSymbols : ByteArray := prog_1_method_10_code
def yX3_areSymbols : MethodName := ⟨RX3, "areSymbols", "(JI)Z"⟩
abbrev cX3_unpack : ByteArray := prog_1_method_11_code
def yX3_unpack : MethodName := ⟨RX3, "unpack", "(JII)I"⟩
abbrev cX3_scanAnew : ByteArray := prog_1_method_12_code
def yX3_scanAnew : MethodName := ⟨RX3, "scanAnew", "(III)V"⟩
abbrev cX3_scanOne : ByteArray := prog_1_method_13_code
def yX3_scanOne : MethodName := ⟨RX3, "scanOne", "(I)V"⟩
def RX4 : String := "EditedScannerModel"
def TX4 : u_T := fun k => match k with
  | 0 => ("EditedScannerModel", "arrows", "[I", true)
  | 1 => ("EditedScannerModel", "kinds", "[I", true)
  | 2 => ("EditedScannerModel", "text", "[I", true)
  | 3 => ("EditedScannerModel", "size", "I", false)
  | 4 => ("EditedScannerModel", "tokens", "I", false)
  | 5 => ("EditedScannerModel", "begins", "[I", true)
  | 6 => ("EditedScannerModel", "sizes", "[I", true)
  | 7 => ("EditedScannerModel", "sorts", "[I", true)
  | 8 => ("EditedScannerModel", "looks", "[I", true)
  | 9 => ("EditedScannerModel", "failed", "I", false)
  | 10 => ("EditedScannerModel", "failedLook", "I", false)
  | 11 => ("EditedScannerModel", "oldTokens", "I", false)
  | 12 => ("EditedScannerModel", "oldBegins", "[I", true)
  | 13 => ("EditedScannerModel", "oldFailed", "I", false)
  | 14 => ("EditedScannerModel", "oldSize", "I", false)
  | 15 => ("EditedScannerModel", "read", "I", false)
  | 16 => ("EditedScannerModel", "scanned", "I", false)
  | 17 => ("EditedScannerModel", "edits", "I", false)
  | 18 => ("EditedScannerModel", "tokenSize", "I", false)
  | 19 => ("EditedScannerModel", "tokenKind", "I", false)
  | _ => ("EditedScannerModel", "tokenLook", "I", false)
def tyX4 : Nat → FieldType := fun k => match k with
  | 0 => .array .int
  | 1 => .array .int
  | 2 => .array .int
  | 3 => .int
  | 4 => .int
  | 5 => .array .int
  | 6 => .array .int
  | 7 => .array .int
  | 8 => .array .int
  | 9 => .int
  | 10 => .int
  | 11 => .int
  | 12 => .array .int
  | 13 => .int
  | 14 => .int
  | 15 => .int
  | 16 => .int
  | 17 => .int
  | 18 => .int
  | 19 => .int
  | _ => .int
abbrev wsX40 : List Cond := u_ws RX4 TX4 21
theorem nmX4 : ∀ a, a < 21 → ∀ b, b < 21 → a ≠ b → (TX4 a).2.1 ≠ (TX4 b).2.1 := by decide +kernel
theorem tyX4_ok : ∀ k, k < 21 → parseFieldDescriptor (TX4 k).2.2.1 = some (tyX4 k) := by decide +kernel
abbrev cX4_init : ByteArray := prog_6_method_1_code
def yX4_init : MethodName := ⟨RX4, "<init>", "()V"⟩
abbrev cX4_forget : ByteArray := prog_6_method_2_code
def yX4_forget : MethodName := ⟨RX4, "forget", "()V"⟩
abbrev cX4_arrow : ByteArray := prog_6_method_3_code
def yX4_arrow : MethodName := ⟨RX4, "arrow", "(III)Z"⟩
abbrev cX4_kind : ByteArray := prog_6_method_4_code
def yX4_kind : MethodName := ⟨RX4, "kind", "(II)Z"⟩
abbrev cX4_scan : ByteArray := prog_6_method_5_code
def yX4_scan : MethodName := ⟨RX4, "scan", "(I)Z"⟩
abbrev cX4_scanAll : ByteArray := prog_6_method_6_code
def yX4_scanAll : MethodName := ⟨RX4, "scanAll", "()V"⟩
abbrev cX4_began : ByteArray := prog_6_method_7_code
def yX4_began : MethodName := ⟨RX4, "began", "(I)Z"⟩
abbrev cX4_edit : ByteArray := prog_6_method_8_code
def yX4_edit : MethodName := ⟨RX4, "edit", "(IIJI)I"⟩
abbrev cX4_change : ByteArray := prog_6_method_9_code
def yX4_change : MethodName := ⟨RX4, "change", "(IIJI)V"⟩
abbrev cX4_goOver : ByteArray := prog_6_method_10_code
def yX4_goOver : MethodName := ⟨RX4, "goOver", "(IIII)V"⟩
abbrev cX4_token : ByteArray := prog_6_method_11_code
def yX4_token : MethodName := ⟨RX4, "token", "(II)I"⟩
abbrev cX4_tokenAt : ByteArray := prog_6_method_12_code
def yX4_tokenAt : MethodName := ⟨RX4, "tokenAt", "(I)I"⟩
abbrev cX4_symbol : ByteArray := prog_6_method_13_code
def yX4_symbol : MethodName := ⟨RX4, "symbol", "(I)I"⟩
abbrev cX4_count : ByteArray := prog_6_method_14_code
def yX4_count : MethodName := ⟨RX4, "count", "(I)I"⟩
abbrev cX4_clear : ByteArray := prog_6_method_15_code
def yX4_clear : MethodName := ⟨RX4, "clear", "()I"⟩
def RJ9 : String := "java/lang/Math"
def TJ9 : u_T := fun k => match k with
  | _ => ("", "", "", false)
def tyJ9 : Nat → FieldType := fun k => match k with
  | _ => .int
abbrev wsJ90 : List Cond := u_ws RJ9 TJ9 0
theorem nmJ9 : ∀ a, a < 0 → ∀ b, b < 0 → a ≠ b → (TJ9 a).2.1 ≠ (TJ9 b).2.1 := by decide +kernel
theorem tyJ9_ok : ∀ k, k < 0 → parseFieldDescriptor (TJ9 k).2.2.1 = some (tyJ9 k) := by decide +kernel
abbrev cJ9_max_7cf53 : ByteArray := prog_7_method_65_code
def yJ9_max_7cf53 : MethodName := ⟨RJ9, "max", "(II)I"⟩
def RJ10 : String := "java/lang/System"
def TJ10 : u_T := fun k => match k with
  | _ => ("", "", "", false)
def tyJ10 : Nat → FieldType := fun k => match k with
  | _ => .int
abbrev wsJ100 : List Cond := u_ws RJ10 TJ10 0
theorem nmJ10 : ∀ a, a < 0 → ∀ b, b < 0 → a ≠ b → (TJ10 a).2.1 ≠ (TJ10 b).2.1 := by decide +kernel
theorem tyJ10_ok : ∀ k, k < 0 → parseFieldDescriptor (TJ10 k).2.2.1 = some (tyJ10 k) := by decide +kernel
def RJ7 : String := "java/util/Arrays"
def TJ7 : u_T := fun k => match k with
  | _ => ("", "", "", false)
def tyJ7 : Nat → FieldType := fun k => match k with
  | _ => .int
abbrev wsJ70 : List Cond := u_ws RJ7 TJ7 0
theorem nmJ7 : ∀ a, a < 0 → ∀ b, b < 0 → a ≠ b → (TJ7 a).2.1 ≠ (TJ7 b).2.1 := by decide +kernel
theorem tyJ7_ok : ∀ k, k < 0 → parseFieldDescriptor (TJ7 k).2.2.1 = some (tyJ7 k) := by decide +kernel
abbrev cJ7_fill_53178 : ByteArray := prog_9_method_103_code
def yJ7_fill_53178 : MethodName := ⟨RJ7, "fill", "([II)V"⟩
def RL : String := "EditedScannerLaw"
abbrev cL_law : ByteArray := code
def yL_law : MethodName := ⟨RL, "law", "([I)Z"⟩
abbrev vwCl : List vw_C := [(RX0, TX0, 5), (RX1, TX1, 2), (RX2, TX2, 2), (RX3, TX3, 7), (RX4, TX4, 21)]
end
section
theorem dX0_init_0 : decode cX0_init 0 = .ok (.aload_n 0, 1) := by decide +kernel
theorem dX0_init_1 : decode cX0_init 1 = .ok (.invokespecial 3, 3) := by decide +kernel
theorem dX0_init_4 : decode cX0_init 4 = .ok (.aload_n 0, 1) := by decide +kernel
theorem dX0_init_5 : decode cX0_init 5 = .ok (.sipush 400, 3) := by decide +kernel
theorem dX0_init_8 : decode cX0_init 8 = .ok (.newarray .int, 2) := by decide +kernel
theorem dX0_init_10 : decode cX0_init 10 = .ok (.putfield 9, 3) := by decide +kernel
theorem dX0_init_13 : decode cX0_init 13 = .ok (.aload_n 0, 1) := by decide +kernel
theorem dX0_init_14 : decode cX0_init 14 = .ok (.sipush 400, 3) := by decide +kernel
theorem dX0_init_17 : decode cX0_init 17 = .ok (.newarray .int, 2) := by decide +kernel
theorem dX0_init_19 : decode cX0_init 19 = .ok (.putfield 15, 3) := by decide +kernel
theorem dX0_init_22 : decode cX0_init 22 = .ok (.aload_n 0, 1) := by decide +kernel
theorem dX0_init_23 : decode cX0_init 23 = .ok (.sipush 400, 3) := by decide +kernel
theorem dX0_init_26 : decode cX0_init 26 = .ok (.newarray .int, 2) := by decide +kernel
theorem dX0_init_28 : decode cX0_init 28 = .ok (.putfield 18, 3) := by decide +kernel
theorem dX0_init_31 : decode cX0_init 31 = .ok (.aload_n 0, 1) := by decide +kernel
theorem dX0_init_32 : decode cX0_init 32 = .ok (.sipush 400, 3) := by decide +kernel
theorem dX0_init_35 : decode cX0_init 35 = .ok (.newarray .int, 2) := by decide +kernel
theorem dX0_init_37 : decode cX0_init 37 = .ok (.putfield 21, 3) := by decide +kernel
theorem dX0_init_40 : decode cX0_init 40 = .ok (.return_, 1) := by decide +kernel
theorem dX0_forget_0 : decode cX0_forget 0 = .ok (.aload_n 0, 1) := by decide +kernel
theorem dX0_forget_1 : decode cX0_forget 1 = .ok (.iconst 0, 1) := by decide +kernel
theorem dX0_forget_2 : decode cX0_forget 2 = .ok (.putfield 24, 3) := by decide +kernel
theorem dX0_forget_5 : decode cX0_forget 5 = .ok (.return_, 1) := by decide +kernel
theorem dX0_size_0 : decode cX0_size 0 = .ok (.aload_n 0, 1) := by decide +kernel
theorem dX0_size_1 : decode cX0_size 1 = .ok (.getfield 24, 3) := by decide +kernel
theorem dX0_size_4 : decode cX0_size 4 = .ok (.ireturn, 1) := by decide +kernel
theorem dX0_failed_0 : decode cX0_failed 0 = .ok (.aload_n 0, 1) := by decide +kernel
theorem dX0_failed_1 : decode cX0_failed 1 = .ok (.getfield 24, 3) := by decide +kernel
theorem dX0_failed_4 : decode cX0_failed 4 = .ok (.ifCond .le 21, 3) := by decide +kernel
theorem dX0_failed_7 : decode cX0_failed 7 = .ok (.aload_n 0, 1) := by decide +kernel
theorem dX0_failed_8 : decode cX0_failed 8 = .ok (.getfield 15, 3) := by decide +kernel
theorem dX0_failed_11 : decode cX0_failed 11 = .ok (.aload_n 0, 1) := by decide +kernel
theorem dX0_failed_12 : decode cX0_failed 12 = .ok (.getfield 24, 3) := by decide +kernel
theorem dX0_failed_15 : decode cX0_failed 15 = .ok (.iconst 1, 1) := by decide +kernel
theorem dX0_failed_16 : decode cX0_failed 16 = .ok (.isub, 1) := by decide +kernel
theorem dX0_failed_17 : decode cX0_failed 17 = .ok (.iaload, 1) := by decide +kernel
theorem dX0_failed_18 : decode cX0_failed 18 = .ok (.ifCond .ne 7, 3) := by decide +kernel
theorem dX0_failed_21 : decode cX0_failed 21 = .ok (.iconst 1, 1) := by decide +kernel
theorem dX0_failed_22 : decode cX0_failed 22 = .ok (.goto 4, 3) := by decide +kernel
theorem dX0_failed_25 : decode cX0_failed 25 = .ok (.iconst 0, 1) := by decide +kernel
theorem dX0_failed_26 : decode cX0_failed 26 = .ok (.ireturn, 1) := by decide +kernel
theorem dX0_tokens_0 : decode cX0_tokens 0 = .ok (.aload_n 0, 1) := by decide +kernel
theorem dX0_tokens_1 : decode cX0_tokens 1 = .ok (.invokevirtual 28, 3) := by decide +kernel
theorem dX0_tokens_4 : decode cX0_tokens 4 = .ok (.ifCond .eq 12, 3) := by decide +kernel
theorem dX0_tokens_7 : decode cX0_tokens 7 = .ok (.aload_n 0, 1) := by decide +kernel
theorem dX0_tokens_8 : decode cX0_tokens 8 = .ok (.getfield 24, 3) := by decide +kernel
theorem dX0_tokens_11 : decode cX0_tokens 11 = .ok (.iconst 1, 1) := by decide +kernel
theorem dX0_tokens_12 : decode cX0_tokens 12 = .ok (.isub, 1) := by decide +kernel
theorem dX0_tokens_13 : decode cX0_tokens 13 = .ok (.goto 7, 3) := by decide +kernel
theorem dX0_tokens_16 : decode cX0_tokens 16 = .ok (.aload_n 0, 1) := by decide +kernel
theorem dX0_tokens_17 : decode cX0_tokens 17 = .ok (.getfield 24, 3) := by decide +kernel
theorem dX0_tokens_20 : decode cX0_tokens 20 = .ok (.ireturn, 1) := by decide +kernel
theorem dX0_begin_0 : decode cX0_begin 0 = .ok (.aload_n 0, 1) := by decide +kernel
theorem dX0_begin_1 : decode cX0_begin 1 = .ok (.iload_n 1, 1) := by decide +kernel
theorem dX0_begin_2 : decode cX0_begin 2 = .ok (.invokevirtual 32, 3) := by decide +kernel
theorem dX0_begin_5 : decode cX0_begin 5 = .ok (.ifCond .eq 12, 3) := by decide +kernel
theorem dX0_begin_8 : decode cX0_begin 8 = .ok (.aload_n 0, 1) := by decide +kernel
theorem dX0_begin_9 : decode cX0_begin 9 = .ok (.getfield 9, 3) := by decide +kernel
theorem dX0_begin_12 : decode cX0_begin 12 = .ok (.iload_n 1, 1) := by decide +kernel
theorem dX0_begin_13 : decode cX0_begin 13 = .ok (.iaload, 1) := by decide +kernel
theorem dX0_begin_14 : decode cX0_begin 14 = .ok (.goto 4, 3) := by decide +kernel
theorem dX0_begin_17 : decode cX0_begin 17 = .ok (.iconst (-1), 1) := by decide +kernel
theorem dX0_begin_18 : decode cX0_begin 18 = .ok (.ireturn, 1) := by decide +kernel
theorem dX0_length_0 : decode cX0_length 0 = .ok (.aload_n 0, 1) := by decide +kernel
theorem dX0_length_1 : decode cX0_length 1 = .ok (.iload_n 1, 1) := by decide +kernel
theorem dX0_length_2 : decode cX0_length 2 = .ok (.invokevirtual 32, 3) := by decide +kernel
theorem dX0_length_5 : decode cX0_length 5 = .ok (.ifCond .eq 12, 3) := by decide +kernel
theorem dX0_length_8 : decode cX0_length 8 = .ok (.aload_n 0, 1) := by decide +kernel
theorem dX0_length_9 : decode cX0_length 9 = .ok (.getfield 15, 3) := by decide +kernel
theorem dX0_length_12 : decode cX0_length 12 = .ok (.iload_n 1, 1) := by decide +kernel
theorem dX0_length_13 : decode cX0_length 13 = .ok (.iaload, 1) := by decide +kernel
theorem dX0_length_14 : decode cX0_length 14 = .ok (.goto 4, 3) := by decide +kernel
theorem dX0_length_17 : decode cX0_length 17 = .ok (.iconst (-1), 1) := by decide +kernel
theorem dX0_length_18 : decode cX0_length 18 = .ok (.ireturn, 1) := by decide +kernel
theorem dX0_kindFound_0 : decode cX0_kindFound 0 = .ok (.aload_n 0, 1) := by decide +kernel
theorem dX0_kindFound_1 : decode cX0_kindFound 1 = .ok (.iload_n 1, 1) := by decide +kernel
theorem dX0_kindFound_2 : decode cX0_kindFound 2 = .ok (.invokevirtual 32, 3) := by decide +kernel
theorem dX0_kindFound_5 : decode cX0_kindFound 5 = .ok (.ifCond .eq 12, 3) := by decide +kernel
theorem dX0_kindFound_8 : decode cX0_kindFound 8 = .ok (.aload_n 0, 1) := by decide +kernel
theorem dX0_kindFound_9 : decode cX0_kindFound 9 = .ok (.getfield 18, 3) := by decide +kernel
theorem dX0_kindFound_12 : decode cX0_kindFound 12 = .ok (.iload_n 1, 1) := by decide +kernel
theorem dX0_kindFound_13 : decode cX0_kindFound 13 = .ok (.iaload, 1) := by decide +kernel
theorem dX0_kindFound_14 : decode cX0_kindFound 14 = .ok (.goto 4, 3) := by decide +kernel
theorem dX0_kindFound_17 : decode cX0_kindFound 17 = .ok (.iconst (-1), 1) := by decide +kernel
theorem dX0_kindFound_18 : decode cX0_kindFound 18 = .ok (.ireturn, 1) := by decide +kernel
theorem dX0_looked_0 : decode cX0_looked 0 = .ok (.aload_n 0, 1) := by decide +kernel
theorem dX0_looked_1 : decode cX0_looked 1 = .ok (.iload_n 1, 1) := by decide +kernel
theorem dX0_looked_2 : decode cX0_looked 2 = .ok (.invokevirtual 32, 3) := by decide +kernel
theorem dX0_looked_5 : decode cX0_looked 5 = .ok (.ifCond .eq 12, 3) := by decide +kernel
theorem dX0_looked_8 : decode cX0_looked 8 = .ok (.aload_n 0, 1) := by decide +kernel
theorem dX0_looked_9 : decode cX0_looked 9 = .ok (.getfield 21, 3) := by decide +kernel
theorem dX0_looked_12 : decode cX0_looked 12 = .ok (.iload_n 1, 1) := by decide +kernel
theorem dX0_looked_13 : decode cX0_looked 13 = .ok (.iaload, 1) := by decide +kernel
theorem dX0_looked_14 : decode cX0_looked 14 = .ok (.goto 4, 3) := by decide +kernel
theorem dX0_looked_17 : decode cX0_looked 17 = .ok (.iconst (-1), 1) := by decide +kernel
theorem dX0_looked_18 : decode cX0_looked 18 = .ok (.ireturn, 1) := by decide +kernel
theorem dX0_nextBegin_0 : decode cX0_nextBegin 0 = .ok (.aload_n 0, 1) := by decide +kernel
theorem dX0_nextBegin_1 : decode cX0_nextBegin 1 = .ok (.getfield 24, 3) := by decide +kernel
theorem dX0_nextBegin_4 : decode cX0_nextBegin 4 = .ok (.ifCond .le 29, 3) := by decide +kernel
theorem dX0_nextBegin_7 : decode cX0_nextBegin 7 = .ok (.aload_n 0, 1) := by decide +kernel
theorem dX0_nextBegin_8 : decode cX0_nextBegin 8 = .ok (.getfield 9, 3) := by decide +kernel
theorem dX0_nextBegin_11 : decode cX0_nextBegin 11 = .ok (.aload_n 0, 1) := by decide +kernel
theorem dX0_nextBegin_12 : decode cX0_nextBegin 12 = .ok (.getfield 24, 3) := by decide +kernel
theorem dX0_nextBegin_15 : decode cX0_nextBegin 15 = .ok (.iconst 1, 1) := by decide +kernel
theorem dX0_nextBegin_16 : decode cX0_nextBegin 16 = .ok (.isub, 1) := by decide +kernel
theorem dX0_nextBegin_17 : decode cX0_nextBegin 17 = .ok (.iaload, 1) := by decide +kernel
theorem dX0_nextBegin_18 : decode cX0_nextBegin 18 = .ok (.aload_n 0, 1) := by decide +kernel
theorem dX0_nextBegin_19 : decode cX0_nextBegin 19 = .ok (.getfield 15, 3) := by decide +kernel
theorem dX0_nextBegin_22 : decode cX0_nextBegin 22 = .ok (.aload_n 0, 1) := by decide +kernel
theorem dX0_nextBegin_23 : decode cX0_nextBegin 23 = .ok (.getfield 24, 3) := by decide +kernel
theorem dX0_nextBegin_26 : decode cX0_nextBegin 26 = .ok (.iconst 1, 1) := by decide +kernel
theorem dX0_nextBegin_27 : decode cX0_nextBegin 27 = .ok (.isub, 1) := by decide +kernel
theorem dX0_nextBegin_28 : decode cX0_nextBegin 28 = .ok (.iaload, 1) := by decide +kernel
theorem dX0_nextBegin_29 : decode cX0_nextBegin 29 = .ok (.iadd, 1) := by decide +kernel
theorem dX0_nextBegin_30 : decode cX0_nextBegin 30 = .ok (.goto 4, 3) := by decide +kernel
theorem dX0_nextBegin_33 : decode cX0_nextBegin 33 = .ok (.iconst 0, 1) := by decide +kernel
theorem dX0_nextBegin_34 : decode cX0_nextBegin 34 = .ok (.ireturn, 1) := by decide +kernel
theorem dX0_tokenAround_0 : decode cX0_tokenAround 0 = .ok (.iconst 0, 1) := by decide +kernel
theorem dX0_tokenAround_1 : decode cX0_tokenAround 1 = .ok (.istore_n 2, 1) := by decide +kernel
theorem dX0_tokenAround_2 : decode cX0_tokenAround 2 = .ok (.iload_n 2, 1) := by decide +kernel
theorem dX0_tokenAround_3 : decode cX0_tokenAround 3 = .ok (.aload_n 0, 1) := by decide +kernel
theorem dX0_tokenAround_4 : decode cX0_tokenAround 4 = .ok (.getfield 24, 3) := by decide +kernel
theorem dX0_tokenAround_7 : decode cX0_tokenAround 7 = .ok (.if_icmp .ge 38, 3) := by decide +kernel
theorem dX0_tokenAround_10 : decode cX0_tokenAround 10 = .ok (.iload_n 1, 1) := by decide +kernel
theorem dX0_tokenAround_11 : decode cX0_tokenAround 11 = .ok (.aload_n 0, 1) := by decide +kernel
theorem dX0_tokenAround_12 : decode cX0_tokenAround 12 = .ok (.getfield 9, 3) := by decide +kernel
theorem dX0_tokenAround_15 : decode cX0_tokenAround 15 = .ok (.iload_n 2, 1) := by decide +kernel
theorem dX0_tokenAround_16 : decode cX0_tokenAround 16 = .ok (.iaload, 1) := by decide +kernel
theorem dX0_tokenAround_17 : decode cX0_tokenAround 17 = .ok (.if_icmp .lt 22, 3) := by decide +kernel
theorem dX0_tokenAround_20 : decode cX0_tokenAround 20 = .ok (.iload_n 1, 1) := by decide +kernel
theorem dX0_tokenAround_21 : decode cX0_tokenAround 21 = .ok (.aload_n 0, 1) := by decide +kernel
theorem dX0_tokenAround_22 : decode cX0_tokenAround 22 = .ok (.getfield 9, 3) := by decide +kernel
theorem dX0_tokenAround_25 : decode cX0_tokenAround 25 = .ok (.iload_n 2, 1) := by decide +kernel
theorem dX0_tokenAround_26 : decode cX0_tokenAround 26 = .ok (.iaload, 1) := by decide +kernel
theorem dX0_tokenAround_27 : decode cX0_tokenAround 27 = .ok (.aload_n 0, 1) := by decide +kernel
theorem dX0_tokenAround_28 : decode cX0_tokenAround 28 = .ok (.getfield 15, 3) := by decide +kernel
theorem dX0_tokenAround_31 : decode cX0_tokenAround 31 = .ok (.iload_n 2, 1) := by decide +kernel
theorem dX0_tokenAround_32 : decode cX0_tokenAround 32 = .ok (.iaload, 1) := by decide +kernel
theorem dX0_tokenAround_33 : decode cX0_tokenAround 33 = .ok (.iadd, 1) := by decide +kernel
theorem dX0_tokenAround_34 : decode cX0_tokenAround 34 = .ok (.if_icmp .ge 5, 3) := by decide +kernel
theorem dX0_tokenAround_37 : decode cX0_tokenAround 37 = .ok (.iload_n 2, 1) := by decide +kernel
theorem dX0_tokenAround_38 : decode cX0_tokenAround 38 = .ok (.ireturn, 1) := by decide +kernel
theorem dX0_tokenAround_39 : decode cX0_tokenAround 39 = .ok (.iinc 2 1, 3) := by decide +kernel
theorem dX0_tokenAround_42 : decode cX0_tokenAround 42 = .ok (.goto (-40), 3) := by decide +kernel
theorem dX0_tokenAround_45 : decode cX0_tokenAround 45 = .ok (.iconst (-1), 1) := by decide +kernel
theorem dX0_tokenAround_46 : decode cX0_tokenAround 46 = .ok (.ireturn, 1) := by decide +kernel
theorem dX0_firstThatLookedAt_0 : decode cX0_firstThatLookedAt 0 = .ok (.iconst 0, 1) := by decide +kernel
theorem dX0_firstThatLookedAt_1 : decode cX0_firstThatLookedAt 1 = .ok (.istore_n 2, 1) := by decide +kernel
theorem dX0_firstThatLookedAt_2 : decode cX0_firstThatLookedAt 2 = .ok (.iload_n 2, 1) := by decide +kernel
theorem dX0_firstThatLookedAt_3 : decode cX0_firstThatLookedAt 3 = .ok (.aload_n 0, 1) := by decide +kernel
theorem dX0_firstThatLookedAt_4 : decode cX0_firstThatLookedAt 4 = .ok (.getfield 24, 3) := by decide +kernel
theorem dX0_firstThatLookedAt_7 : decode cX0_firstThatLookedAt 7 = .ok (.if_icmp .ge 28, 3) := by decide +kernel
theorem dX0_firstThatLookedAt_10 : decode cX0_firstThatLookedAt 10 = .ok (.aload_n 0, 1) := by decide +kernel
theorem dX0_firstThatLookedAt_11 : decode cX0_firstThatLookedAt 11 = .ok (.getfield 9, 3) := by decide +kernel
theorem dX0_firstThatLookedAt_14 : decode cX0_firstThatLookedAt 14 = .ok (.iload_n 2, 1) := by decide +kernel
theorem dX0_firstThatLookedAt_15 : decode cX0_firstThatLookedAt 15 = .ok (.iaload, 1) := by decide +kernel
theorem dX0_firstThatLookedAt_16 : decode cX0_firstThatLookedAt 16 = .ok (.aload_n 0, 1) := by decide +kernel
theorem dX0_firstThatLookedAt_17 : decode cX0_firstThatLookedAt 17 = .ok (.getfield 21, 3) := by decide +kernel
theorem dX0_firstThatLookedAt_20 : decode cX0_firstThatLookedAt 20 = .ok (.iload_n 2, 1) := by decide +kernel
theorem dX0_firstThatLookedAt_21 : decode cX0_firstThatLookedAt 21 = .ok (.iaload, 1) := by decide +kernel
theorem dX0_firstThatLookedAt_22 : decode cX0_firstThatLookedAt 22 = .ok (.iadd, 1) := by decide +kernel
theorem dX0_firstThatLookedAt_23 : decode cX0_firstThatLookedAt 23 = .ok (.iload_n 1, 1) := by decide +kernel
theorem dX0_firstThatLookedAt_24 : decode cX0_firstThatLookedAt 24 = .ok (.if_icmp .le 5, 3) := by decide +kernel
theorem dX0_firstThatLookedAt_27 : decode cX0_firstThatLookedAt 27 = .ok (.iload_n 2, 1) := by decide +kernel
theorem dX0_firstThatLookedAt_28 : decode cX0_firstThatLookedAt 28 = .ok (.ireturn, 1) := by decide +kernel
theorem dX0_firstThatLookedAt_29 : decode cX0_firstThatLookedAt 29 = .ok (.iinc 2 1, 3) := by decide +kernel
theorem dX0_firstThatLookedAt_32 : decode cX0_firstThatLookedAt 32 = .ok (.goto (-30), 3) := by decide +kernel
theorem dX0_firstThatLookedAt_35 : decode cX0_firstThatLookedAt 35 = .ok (.aload_n 0, 1) := by decide +kernel
theorem dX0_firstThatLookedAt_36 : decode cX0_firstThatLookedAt 36 = .ok (.getfield 24, 3) := by decide +kernel
theorem dX0_firstThatLookedAt_39 : decode cX0_firstThatLookedAt 39 = .ok (.ireturn, 1) := by decide +kernel
theorem dX0_firstFrom_0 : decode cX0_firstFrom 0 = .ok (.iload_n 1, 1) := by decide +kernel
theorem dX0_firstFrom_1 : decode cX0_firstFrom 1 = .ok (.iconst 0, 1) := by decide +kernel
theorem dX0_firstFrom_2 : decode cX0_firstFrom 2 = .ok (.invokestatic 36, 3) := by decide +kernel
theorem dX0_firstFrom_5 : decode cX0_firstFrom 5 = .ok (.istore_n 3, 1) := by decide +kernel
theorem dX0_firstFrom_6 : decode cX0_firstFrom 6 = .ok (.iload_n 3, 1) := by decide +kernel
theorem dX0_firstFrom_7 : decode cX0_firstFrom 7 = .ok (.aload_n 0, 1) := by decide +kernel
theorem dX0_firstFrom_8 : decode cX0_firstFrom 8 = .ok (.getfield 24, 3) := by decide +kernel
theorem dX0_firstFrom_11 : decode cX0_firstFrom 11 = .ok (.if_icmp .ge 21, 3) := by decide +kernel
theorem dX0_firstFrom_14 : decode cX0_firstFrom 14 = .ok (.aload_n 0, 1) := by decide +kernel
theorem dX0_firstFrom_15 : decode cX0_firstFrom 15 = .ok (.getfield 9, 3) := by decide +kernel
theorem dX0_firstFrom_18 : decode cX0_firstFrom 18 = .ok (.iload_n 3, 1) := by decide +kernel
theorem dX0_firstFrom_19 : decode cX0_firstFrom 19 = .ok (.iaload, 1) := by decide +kernel
theorem dX0_firstFrom_20 : decode cX0_firstFrom 20 = .ok (.iload_n 2, 1) := by decide +kernel
theorem dX0_firstFrom_21 : decode cX0_firstFrom 21 = .ok (.if_icmp .lt 5, 3) := by decide +kernel
theorem dX0_firstFrom_24 : decode cX0_firstFrom 24 = .ok (.iload_n 3, 1) := by decide +kernel
theorem dX0_firstFrom_25 : decode cX0_firstFrom 25 = .ok (.ireturn, 1) := by decide +kernel
theorem dX0_firstFrom_26 : decode cX0_firstFrom 26 = .ok (.iinc 3 1, 3) := by decide +kernel
theorem dX0_firstFrom_29 : decode cX0_firstFrom 29 = .ok (.goto (-23), 3) := by decide +kernel
theorem dX0_firstFrom_32 : decode cX0_firstFrom 32 = .ok (.aload_n 0, 1) := by decide +kernel
theorem dX0_firstFrom_33 : decode cX0_firstFrom 33 = .ok (.getfield 24, 3) := by decide +kernel
theorem dX0_firstFrom_36 : decode cX0_firstFrom 36 = .ok (.ireturn, 1) := by decide +kernel
theorem dX0_add_0 : decode cX0_add 0 = .ok (.aload_n 0, 1) := by decide +kernel
theorem dX0_add_1 : decode cX0_add 1 = .ok (.getfield 24, 3) := by decide +kernel
theorem dX0_add_4 : decode cX0_add 4 = .ok (.sipush 400, 3) := by decide +kernel
theorem dX0_add_7 : decode cX0_add 7 = .ok (.if_icmp .lt 4, 3) := by decide +kernel
theorem dX0_add_10 : decode cX0_add 10 = .ok (.return_, 1) := by decide +kernel
theorem dX0_add_11 : decode cX0_add 11 = .ok (.aload_n 0, 1) := by decide +kernel
theorem dX0_add_12 : decode cX0_add 12 = .ok (.getfield 9, 3) := by decide +kernel
theorem dX0_add_15 : decode cX0_add 15 = .ok (.aload_n 0, 1) := by decide +kernel
theorem dX0_add_16 : decode cX0_add 16 = .ok (.getfield 24, 3) := by decide +kernel
theorem dX0_add_19 : decode cX0_add 19 = .ok (.iload_n 1, 1) := by decide +kernel
theorem dX0_add_20 : decode cX0_add 20 = .ok (.iastore, 1) := by decide +kernel
theorem dX0_add_21 : decode cX0_add 21 = .ok (.aload_n 0, 1) := by decide +kernel
theorem dX0_add_22 : decode cX0_add 22 = .ok (.getfield 15, 3) := by decide +kernel
theorem dX0_add_25 : decode cX0_add 25 = .ok (.aload_n 0, 1) := by decide +kernel
theorem dX0_add_26 : decode cX0_add 26 = .ok (.getfield 24, 3) := by decide +kernel
theorem dX0_add_29 : decode cX0_add 29 = .ok (.iload_n 2, 1) := by decide +kernel
theorem dX0_add_30 : decode cX0_add 30 = .ok (.iastore, 1) := by decide +kernel
theorem dX0_add_31 : decode cX0_add 31 = .ok (.aload_n 0, 1) := by decide +kernel
theorem dX0_add_32 : decode cX0_add 32 = .ok (.getfield 18, 3) := by decide +kernel
theorem dX0_add_35 : decode cX0_add 35 = .ok (.aload_n 0, 1) := by decide +kernel
theorem dX0_add_36 : decode cX0_add 36 = .ok (.getfield 24, 3) := by decide +kernel
theorem dX0_add_39 : decode cX0_add 39 = .ok (.iload_n 3, 1) := by decide +kernel
theorem dX0_add_40 : decode cX0_add 40 = .ok (.iastore, 1) := by decide +kernel
theorem dX0_add_41 : decode cX0_add 41 = .ok (.aload_n 0, 1) := by decide +kernel
theorem dX0_add_42 : decode cX0_add 42 = .ok (.getfield 21, 3) := by decide +kernel
theorem dX0_add_45 : decode cX0_add 45 = .ok (.aload_n 0, 1) := by decide +kernel
theorem dX0_add_46 : decode cX0_add 46 = .ok (.getfield 24, 3) := by decide +kernel
theorem dX0_add_49 : decode cX0_add 49 = .ok (.iload 4, 2) := by decide +kernel
theorem dX0_add_51 : decode cX0_add 51 = .ok (.iastore, 1) := by decide +kernel
theorem dX0_add_52 : decode cX0_add 52 = .ok (.aload_n 0, 1) := by decide +kernel
theorem dX0_add_53 : decode cX0_add 53 = .ok (.dup, 1) := by decide +kernel
theorem dX0_add_54 : decode cX0_add 54 = .ok (.getfield 24, 3) := by decide +kernel
theorem dX0_add_57 : decode cX0_add 57 = .ok (.iconst 1, 1) := by decide +kernel
theorem dX0_add_58 : decode cX0_add 58 = .ok (.iadd, 1) := by decide +kernel
theorem dX0_add_59 : decode cX0_add 59 = .ok (.putfield 24, 3) := by decide +kernel
theorem dX0_add_62 : decode cX0_add 62 = .ok (.return_, 1) := by decide +kernel
theorem dX0_takeUpTo_0 : decode cX0_takeUpTo 0 = .ok (.aload_n 0, 1) := by decide +kernel
theorem dX0_takeUpTo_1 : decode cX0_takeUpTo 1 = .ok (.iconst 0, 1) := by decide +kernel
theorem dX0_takeUpTo_2 : decode cX0_takeUpTo 2 = .ok (.putfield 24, 3) := by decide +kernel
theorem dX0_takeUpTo_5 : decode cX0_takeUpTo 5 = .ok (.iconst 0, 1) := by decide +kernel
theorem dX0_takeUpTo_6 : decode cX0_takeUpTo 6 = .ok (.istore_n 3, 1) := by decide +kernel
theorem dX0_takeUpTo_7 : decode cX0_takeUpTo 7 = .ok (.iload_n 3, 1) := by decide +kernel
theorem dX0_takeUpTo_8 : decode cX0_takeUpTo 8 = .ok (.iload_n 2, 1) := by decide +kernel
theorem dX0_takeUpTo_9 : decode cX0_takeUpTo 9 = .ok (.if_icmp .ge 45, 3) := by decide +kernel
theorem dX0_takeUpTo_12 : decode cX0_takeUpTo 12 = .ok (.iload_n 3, 1) := by decide +kernel
theorem dX0_takeUpTo_13 : decode cX0_takeUpTo 13 = .ok (.aload_n 1, 1) := by decide +kernel
theorem dX0_takeUpTo_14 : decode cX0_takeUpTo 14 = .ok (.getfield 24, 3) := by decide +kernel
theorem dX0_takeUpTo_17 : decode cX0_takeUpTo 17 = .ok (.if_icmp .ge 37, 3) := by decide +kernel
theorem dX0_takeUpTo_20 : decode cX0_takeUpTo 20 = .ok (.aload_n 0, 1) := by decide +kernel
theorem dX0_takeUpTo_21 : decode cX0_takeUpTo 21 = .ok (.aload_n 1, 1) := by decide +kernel
theorem dX0_takeUpTo_22 : decode cX0_takeUpTo 22 = .ok (.getfield 9, 3) := by decide +kernel
theorem dX0_takeUpTo_25 : decode cX0_takeUpTo 25 = .ok (.iload_n 3, 1) := by decide +kernel
theorem dX0_takeUpTo_26 : decode cX0_takeUpTo 26 = .ok (.iaload, 1) := by decide +kernel
theorem dX0_takeUpTo_27 : decode cX0_takeUpTo 27 = .ok (.aload_n 1, 1) := by decide +kernel
theorem dX0_takeUpTo_28 : decode cX0_takeUpTo 28 = .ok (.getfield 15, 3) := by decide +kernel
theorem dX0_takeUpTo_31 : decode cX0_takeUpTo 31 = .ok (.iload_n 3, 1) := by decide +kernel
theorem dX0_takeUpTo_32 : decode cX0_takeUpTo 32 = .ok (.iaload, 1) := by decide +kernel
theorem dX0_takeUpTo_33 : decode cX0_takeUpTo 33 = .ok (.aload_n 1, 1) := by decide +kernel
theorem dX0_takeUpTo_34 : decode cX0_takeUpTo 34 = .ok (.getfield 18, 3) := by decide +kernel
theorem dX0_takeUpTo_37 : decode cX0_takeUpTo 37 = .ok (.iload_n 3, 1) := by decide +kernel
theorem dX0_takeUpTo_38 : decode cX0_takeUpTo 38 = .ok (.iaload, 1) := by decide +kernel
theorem dX0_takeUpTo_39 : decode cX0_takeUpTo 39 = .ok (.aload_n 1, 1) := by decide +kernel
theorem dX0_takeUpTo_40 : decode cX0_takeUpTo 40 = .ok (.getfield 21, 3) := by decide +kernel
theorem dX0_takeUpTo_43 : decode cX0_takeUpTo 43 = .ok (.iload_n 3, 1) := by decide +kernel
theorem dX0_takeUpTo_44 : decode cX0_takeUpTo 44 = .ok (.iaload, 1) := by decide +kernel
theorem dX0_takeUpTo_45 : decode cX0_takeUpTo 45 = .ok (.invokevirtual 42, 3) := by decide +kernel
theorem dX0_takeUpTo_48 : decode cX0_takeUpTo 48 = .ok (.iinc 3 1, 3) := by decide +kernel
theorem dX0_takeUpTo_51 : decode cX0_takeUpTo 51 = .ok (.goto (-44), 3) := by decide +kernel
theorem dX0_takeUpTo_54 : decode cX0_takeUpTo 54 = .ok (.return_, 1) := by decide +kernel
theorem dX0_takeMoved_0 : decode cX0_takeMoved 0 = .ok (.iload_n 2, 1) := by decide +kernel
theorem dX0_takeMoved_1 : decode cX0_takeMoved 1 = .ok (.iconst 0, 1) := by decide +kernel
theorem dX0_takeMoved_2 : decode cX0_takeMoved 2 = .ok (.invokestatic 36, 3) := by decide +kernel
theorem dX0_takeMoved_5 : decode cX0_takeMoved 5 = .ok (.istore 4, 2) := by decide +kernel
theorem dX0_takeMoved_7 : decode cX0_takeMoved 7 = .ok (.iload 4, 2) := by decide +kernel
theorem dX0_takeMoved_9 : decode cX0_takeMoved 9 = .ok (.aload_n 1, 1) := by decide +kernel
theorem dX0_takeMoved_10 : decode cX0_takeMoved 10 = .ok (.getfield 24, 3) := by decide +kernel
theorem dX0_takeMoved_13 : decode cX0_takeMoved 13 = .ok (.if_icmp .ge 43, 3) := by decide +kernel
theorem dX0_takeMoved_16 : decode cX0_takeMoved 16 = .ok (.aload_n 0, 1) := by decide +kernel
theorem dX0_takeMoved_17 : decode cX0_takeMoved 17 = .ok (.aload_n 1, 1) := by decide +kernel
theorem dX0_takeMoved_18 : decode cX0_takeMoved 18 = .ok (.getfield 9, 3) := by decide +kernel
theorem dX0_takeMoved_21 : decode cX0_takeMoved 21 = .ok (.iload 4, 2) := by decide +kernel
theorem dX0_takeMoved_23 : decode cX0_takeMoved 23 = .ok (.iaload, 1) := by decide +kernel
theorem dX0_takeMoved_24 : decode cX0_takeMoved 24 = .ok (.iload_n 3, 1) := by decide +kernel
theorem dX0_takeMoved_25 : decode cX0_takeMoved 25 = .ok (.iadd, 1) := by decide +kernel
theorem dX0_takeMoved_26 : decode cX0_takeMoved 26 = .ok (.aload_n 1, 1) := by decide +kernel
theorem dX0_takeMoved_27 : decode cX0_takeMoved 27 = .ok (.getfield 15, 3) := by decide +kernel
theorem dX0_takeMoved_30 : decode cX0_takeMoved 30 = .ok (.iload 4, 2) := by decide +kernel
theorem dX0_takeMoved_32 : decode cX0_takeMoved 32 = .ok (.iaload, 1) := by decide +kernel
theorem dX0_takeMoved_33 : decode cX0_takeMoved 33 = .ok (.aload_n 1, 1) := by decide +kernel
theorem dX0_takeMoved_34 : decode cX0_takeMoved 34 = .ok (.getfield 18, 3) := by decide +kernel
theorem dX0_takeMoved_37 : decode cX0_takeMoved 37 = .ok (.iload 4, 2) := by decide +kernel
theorem dX0_takeMoved_39 : decode cX0_takeMoved 39 = .ok (.iaload, 1) := by decide +kernel
theorem dX0_takeMoved_40 : decode cX0_takeMoved 40 = .ok (.aload_n 1, 1) := by decide +kernel
theorem dX0_takeMoved_41 : decode cX0_takeMoved 41 = .ok (.getfield 21, 3) := by decide +kernel
theorem dX0_takeMoved_44 : decode cX0_takeMoved 44 = .ok (.iload 4, 2) := by decide +kernel
theorem dX0_takeMoved_46 : decode cX0_takeMoved 46 = .ok (.iaload, 1) := by decide +kernel
theorem dX0_takeMoved_47 : decode cX0_takeMoved 47 = .ok (.invokevirtual 42, 3) := by decide +kernel
theorem dX0_takeMoved_50 : decode cX0_takeMoved 50 = .ok (.iinc 4 1, 3) := by decide +kernel
theorem dX0_takeMoved_53 : decode cX0_takeMoved 53 = .ok (.goto (-46), 3) := by decide +kernel
theorem dX0_takeMoved_56 : decode cX0_takeMoved 56 = .ok (.return_, 1) := by decide +kernel
theorem dX0_has_0 : decode cX0_has 0 = .ok (.iload_n 1, 1) := by decide +kernel
theorem dX0_has_1 : decode cX0_has 1 = .ok (.ifCond .lt 15, 3) := by decide +kernel
theorem dX0_has_4 : decode cX0_has 4 = .ok (.iload_n 1, 1) := by decide +kernel
theorem dX0_has_5 : decode cX0_has 5 = .ok (.aload_n 0, 1) := by decide +kernel
theorem dX0_has_6 : decode cX0_has 6 = .ok (.getfield 24, 3) := by decide +kernel
theorem dX0_has_9 : decode cX0_has 9 = .ok (.if_icmp .ge 7, 3) := by decide +kernel
theorem dX0_has_12 : decode cX0_has 12 = .ok (.iconst 1, 1) := by decide +kernel
theorem dX0_has_13 : decode cX0_has 13 = .ok (.goto 4, 3) := by decide +kernel
theorem dX0_has_16 : decode cX0_has 16 = .ok (.iconst 0, 1) := by decide +kernel
theorem dX0_has_17 : decode cX0_has 17 = .ok (.ireturn, 1) := by decide +kernel
theorem dX1_init_0 : decode cX1_init 0 = .ok (.aload_n 0, 1) := by decide +kernel
theorem dX1_init_1 : decode cX1_init 1 = .ok (.invokespecial 3, 3) := by decide +kernel
theorem dX1_init_4 : decode cX1_init 4 = .ok (.aload_n 0, 1) := by decide +kernel
theorem dX1_init_5 : decode cX1_init 5 = .ok (.sipush 200, 3) := by decide +kernel
theorem dX1_init_8 : decode cX1_init 8 = .ok (.newarray .int, 2) := by decide +kernel
theorem dX1_init_10 : decode cX1_init 10 = .ok (.putfield 9, 3) := by decide +kernel
theorem dX1_init_13 : decode cX1_init 13 = .ok (.aload_n 0, 1) := by decide +kernel
theorem dX1_init_14 : decode cX1_init 14 = .ok (.bipush 20, 2) := by decide +kernel
theorem dX1_init_16 : decode cX1_init 16 = .ok (.newarray .int, 2) := by decide +kernel
theorem dX1_init_18 : decode cX1_init 18 = .ok (.putfield 15, 3) := by decide +kernel
theorem dX1_init_21 : decode cX1_init 21 = .ok (.aload_n 0, 1) := by decide +kernel
theorem dX1_init_22 : decode cX1_init 22 = .ok (.invokevirtual 18, 3) := by decide +kernel
theorem dX1_init_25 : decode cX1_init 25 = .ok (.return_, 1) := by decide +kernel
theorem dX1_forget_0 : decode cX1_forget 0 = .ok (.aload_n 0, 1) := by decide +kernel
theorem dX1_forget_1 : decode cX1_forget 1 = .ok (.getfield 9, 3) := by decide +kernel
theorem dX1_forget_4 : decode cX1_forget 4 = .ok (.iconst (-1), 1) := by decide +kernel
theorem dX1_forget_5 : decode cX1_forget 5 = .ok (.invokestatic 21, 3) := by decide +kernel
theorem dX1_forget_8 : decode cX1_forget 8 = .ok (.aload_n 0, 1) := by decide +kernel
theorem dX1_forget_9 : decode cX1_forget 9 = .ok (.getfield 15, 3) := by decide +kernel
theorem dX1_forget_12 : decode cX1_forget 12 = .ok (.iconst (-1), 1) := by decide +kernel
theorem dX1_forget_13 : decode cX1_forget 13 = .ok (.invokestatic 21, 3) := by decide +kernel
theorem dX1_forget_16 : decode cX1_forget 16 = .ok (.return_, 1) := by decide +kernel
theorem dX1_setArrow_0 : decode cX1_setArrow 0 = .ok (.iload_n 1, 1) := by decide +kernel
theorem dX1_setArrow_1 : decode cX1_setArrow 1 = .ok (.invokestatic 27, 3) := by decide +kernel
theorem dX1_setArrow_4 : decode cX1_setArrow 4 = .ok (.ifCond .eq 22, 3) := by decide +kernel
theorem dX1_setArrow_7 : decode cX1_setArrow 7 = .ok (.iload_n 2, 1) := by decide +kernel
theorem dX1_setArrow_8 : decode cX1_setArrow 8 = .ok (.invokestatic 31, 3) := by decide +kernel
theorem dX1_setArrow_11 : decode cX1_setArrow 11 = .ok (.ifCond .eq 15, 3) := by decide +kernel
theorem dX1_setArrow_14 : decode cX1_setArrow 14 = .ok (.iload_n 3, 1) := by decide +kernel
theorem dX1_setArrow_15 : decode cX1_setArrow 15 = .ok (.iconst (-1), 1) := by decide +kernel
theorem dX1_setArrow_16 : decode cX1_setArrow 16 = .ok (.if_icmp .eq 12, 3) := by decide +kernel
theorem dX1_setArrow_19 : decode cX1_setArrow 19 = .ok (.iload_n 3, 1) := by decide +kernel
theorem dX1_setArrow_20 : decode cX1_setArrow 20 = .ok (.invokestatic 27, 3) := by decide +kernel
theorem dX1_setArrow_23 : decode cX1_setArrow 23 = .ok (.ifCond .ne 5, 3) := by decide +kernel
theorem dX1_setArrow_26 : decode cX1_setArrow 26 = .ok (.iconst 0, 1) := by decide +kernel
theorem dX1_setArrow_27 : decode cX1_setArrow 27 = .ok (.ireturn, 1) := by decide +kernel
theorem dX1_setArrow_28 : decode cX1_setArrow 28 = .ok (.aload_n 0, 1) := by decide +kernel
theorem dX1_setArrow_29 : decode cX1_setArrow 29 = .ok (.getfield 9, 3) := by decide +kernel
theorem dX1_setArrow_32 : decode cX1_setArrow 32 = .ok (.iload_n 1, 1) := by decide +kernel
theorem dX1_setArrow_33 : decode cX1_setArrow 33 = .ok (.bipush 10, 2) := by decide +kernel
theorem dX1_setArrow_35 : decode cX1_setArrow 35 = .ok (.imul, 1) := by decide +kernel
theorem dX1_setArrow_36 : decode cX1_setArrow 36 = .ok (.iload_n 2, 1) := by decide +kernel
theorem dX1_setArrow_37 : decode cX1_setArrow 37 = .ok (.iadd, 1) := by decide +kernel
theorem dX1_setArrow_38 : decode cX1_setArrow 38 = .ok (.iload_n 3, 1) := by decide +kernel
theorem dX1_setArrow_39 : decode cX1_setArrow 39 = .ok (.iastore, 1) := by decide +kernel
theorem dX1_setArrow_40 : decode cX1_setArrow 40 = .ok (.iconst 1, 1) := by decide +kernel
theorem dX1_setArrow_41 : decode cX1_setArrow 41 = .ok (.ireturn, 1) := by decide +kernel
theorem dX1_setKind_0 : decode cX1_setKind 0 = .ok (.iload_n 1, 1) := by decide +kernel
theorem dX1_setKind_1 : decode cX1_setKind 1 = .ok (.invokestatic 27, 3) := by decide +kernel
theorem dX1_setKind_4 : decode cX1_setKind 4 = .ok (.ifCond .eq 14, 3) := by decide +kernel
theorem dX1_setKind_7 : decode cX1_setKind 7 = .ok (.iload_n 2, 1) := by decide +kernel
theorem dX1_setKind_8 : decode cX1_setKind 8 = .ok (.iconst (-1), 1) := by decide +kernel
theorem dX1_setKind_9 : decode cX1_setKind 9 = .ok (.if_icmp .lt 9, 3) := by decide +kernel
theorem dX1_setKind_12 : decode cX1_setKind 12 = .ok (.iload_n 2, 1) := by decide +kernel
theorem dX1_setKind_13 : decode cX1_setKind 13 = .ok (.bipush 100, 2) := by decide +kernel
theorem dX1_setKind_15 : decode cX1_setKind 15 = .ok (.if_icmp .lt 5, 3) := by decide +kernel
theorem dX1_setKind_18 : decode cX1_setKind 18 = .ok (.iconst 0, 1) := by decide +kernel
theorem dX1_setKind_19 : decode cX1_setKind 19 = .ok (.ireturn, 1) := by decide +kernel
theorem dX1_setKind_20 : decode cX1_setKind 20 = .ok (.aload_n 0, 1) := by decide +kernel
theorem dX1_setKind_21 : decode cX1_setKind 21 = .ok (.getfield 15, 3) := by decide +kernel
theorem dX1_setKind_24 : decode cX1_setKind 24 = .ok (.iload_n 1, 1) := by decide +kernel
theorem dX1_setKind_25 : decode cX1_setKind 25 = .ok (.iload_n 2, 1) := by decide +kernel
theorem dX1_setKind_26 : decode cX1_setKind 26 = .ok (.iastore, 1) := by decide +kernel
theorem dX1_setKind_27 : decode cX1_setKind 27 = .ok (.iconst 1, 1) := by decide +kernel
theorem dX1_setKind_28 : decode cX1_setKind 28 = .ok (.ireturn, 1) := by decide +kernel
theorem dX1_next_0 : decode cX1_next 0 = .ok (.iload_n 1, 1) := by decide +kernel
theorem dX1_next_1 : decode cX1_next 1 = .ok (.invokestatic 27, 3) := by decide +kernel
theorem dX1_next_4 : decode cX1_next 4 = .ok (.ifCond .eq 24, 3) := by decide +kernel
theorem dX1_next_7 : decode cX1_next 7 = .ok (.iload_n 2, 1) := by decide +kernel
theorem dX1_next_8 : decode cX1_next 8 = .ok (.invokestatic 31, 3) := by decide +kernel
theorem dX1_next_11 : decode cX1_next 11 = .ok (.ifCond .eq 17, 3) := by decide +kernel
theorem dX1_next_14 : decode cX1_next 14 = .ok (.aload_n 0, 1) := by decide +kernel
theorem dX1_next_15 : decode cX1_next 15 = .ok (.getfield 9, 3) := by decide +kernel
theorem dX1_next_18 : decode cX1_next 18 = .ok (.iload_n 1, 1) := by decide +kernel
theorem dX1_next_19 : decode cX1_next 19 = .ok (.bipush 10, 2) := by decide +kernel
theorem dX1_next_21 : decode cX1_next 21 = .ok (.imul, 1) := by decide +kernel
theorem dX1_next_22 : decode cX1_next 22 = .ok (.iload_n 2, 1) := by decide +kernel
theorem dX1_next_23 : decode cX1_next 23 = .ok (.iadd, 1) := by decide +kernel
theorem dX1_next_24 : decode cX1_next 24 = .ok (.iaload, 1) := by decide +kernel
theorem dX1_next_25 : decode cX1_next 25 = .ok (.goto 4, 3) := by decide +kernel
theorem dX1_next_28 : decode cX1_next 28 = .ok (.iconst (-1), 1) := by decide +kernel
theorem dX1_next_29 : decode cX1_next 29 = .ok (.ireturn, 1) := by decide +kernel
theorem dX1_kindOf_0 : decode cX1_kindOf 0 = .ok (.iload_n 1, 1) := by decide +kernel
theorem dX1_kindOf_1 : decode cX1_kindOf 1 = .ok (.invokestatic 27, 3) := by decide +kernel
theorem dX1_kindOf_4 : decode cX1_kindOf 4 = .ok (.ifCond .eq 12, 3) := by decide +kernel
theorem dX1_kindOf_7 : decode cX1_kindOf 7 = .ok (.aload_n 0, 1) := by decide +kernel
theorem dX1_kindOf_8 : decode cX1_kindOf 8 = .ok (.getfield 15, 3) := by decide +kernel
theorem dX1_kindOf_11 : decode cX1_kindOf 11 = .ok (.iload_n 1, 1) := by decide +kernel
theorem dX1_kindOf_12 : decode cX1_kindOf 12 = .ok (.iaload, 1) := by decide +kernel
theorem dX1_kindOf_13 : decode cX1_kindOf 13 = .ok (.goto 4, 3) := by decide +kernel
theorem dX1_kindOf_16 : decode cX1_kindOf 16 = .ok (.iconst (-1), 1) := by decide +kernel
theorem dX1_kindOf_17 : decode cX1_kindOf 17 = .ok (.ireturn, 1) := by decide +kernel
theorem dX1_isState_0 : decode cX1_isState 0 = .ok (.iload_n 0, 1) := by decide +kernel
theorem dX1_isState_1 : decode cX1_isState 1 = .ok (.ifCond .lt 13, 3) := by decide +kernel
theorem dX1_isState_4 : decode cX1_isState 4 = .ok (.iload_n 0, 1) := by decide +kernel
theorem dX1_isState_5 : decode cX1_isState 5 = .ok (.bipush 20, 2) := by decide +kernel
theorem dX1_isState_7 : decode cX1_isState 7 = .ok (.if_icmp .ge 7, 3) := by decide +kernel
theorem dX1_isState_10 : decode cX1_isState 10 = .ok (.iconst 1, 1) := by decide +kernel
theorem dX1_isState_11 : decode cX1_isState 11 = .ok (.goto 4, 3) := by decide +kernel
theorem dX1_isState_14 : decode cX1_isState 14 = .ok (.iconst 0, 1) := by decide +kernel
theorem dX1_isState_15 : decode cX1_isState 15 = .ok (.ireturn, 1) := by decide +kernel
theorem dX1_isSymbol_0 : decode cX1_isSymbol 0 = .ok (.iload_n 0, 1) := by decide +kernel
theorem dX1_isSymbol_1 : decode cX1_isSymbol 1 = .ok (.ifCond .lt 13, 3) := by decide +kernel
theorem dX1_isSymbol_4 : decode cX1_isSymbol 4 = .ok (.iload_n 0, 1) := by decide +kernel
theorem dX1_isSymbol_5 : decode cX1_isSymbol 5 = .ok (.bipush 10, 2) := by decide +kernel
theorem dX1_isSymbol_7 : decode cX1_isSymbol 7 = .ok (.if_icmp .ge 7, 3) := by decide +kernel
theorem dX1_isSymbol_10 : decode cX1_isSymbol 10 = .ok (.iconst 1, 1) := by decide +kernel
theorem dX1_isSymbol_11 : decode cX1_isSymbol 11 = .ok (.goto 4, 3) := by decide +kernel
theorem dX1_isSymbol_14 : decode cX1_isSymbol 14 = .ok (.iconst 0, 1) := by decide +kernel
theorem dX1_isSymbol_15 : decode cX1_isSymbol 15 = .ok (.ireturn, 1) := by decide +kernel
theorem dX2_init_0 : decode cX2_init 0 = .ok (.aload_n 0, 1) := by decide +kernel
theorem dX2_init_1 : decode cX2_init 1 = .ok (.invokespecial 3, 3) := by decide +kernel
theorem dX2_init_4 : decode cX2_init 4 = .ok (.aload_n 0, 1) := by decide +kernel
theorem dX2_init_5 : decode cX2_init 5 = .ok (.sipush 400, 3) := by decide +kernel
theorem dX2_init_8 : decode cX2_init 8 = .ok (.newarray .int, 2) := by decide +kernel
theorem dX2_init_10 : decode cX2_init 10 = .ok (.putfield 9, 3) := by decide +kernel
theorem dX2_init_13 : decode cX2_init 13 = .ok (.return_, 1) := by decide +kernel
theorem dX2_forget_0 : decode cX2_forget 0 = .ok (.aload_n 0, 1) := by decide +kernel
theorem dX2_forget_1 : decode cX2_forget 1 = .ok (.iconst 0, 1) := by decide +kernel
theorem dX2_forget_2 : decode cX2_forget 2 = .ok (.putfield 15, 3) := by decide +kernel
theorem dX2_forget_5 : decode cX2_forget 5 = .ok (.return_, 1) := by decide +kernel
theorem dX2_size_0 : decode cX2_size 0 = .ok (.aload_n 0, 1) := by decide +kernel
theorem dX2_size_1 : decode cX2_size 1 = .ok (.getfield 15, 3) := by decide +kernel
theorem dX2_size_4 : decode cX2_size 4 = .ok (.ireturn, 1) := by decide +kernel
theorem dX2_isEmpty_0 : decode cX2_isEmpty 0 = .ok (.aload_n 0, 1) := by decide +kernel
theorem dX2_isEmpty_1 : decode cX2_isEmpty 1 = .ok (.getfield 15, 3) := by decide +kernel
theorem dX2_isEmpty_4 : decode cX2_isEmpty 4 = .ok (.ifCond .ne 7, 3) := by decide +kernel
theorem dX2_isEmpty_7 : decode cX2_isEmpty 7 = .ok (.iconst 1, 1) := by decide +kernel
theorem dX2_isEmpty_8 : decode cX2_isEmpty 8 = .ok (.goto 4, 3) := by decide +kernel
theorem dX2_isEmpty_11 : decode cX2_isEmpty 11 = .ok (.iconst 0, 1) := by decide +kernel
theorem dX2_isEmpty_12 : decode cX2_isEmpty 12 = .ok (.ireturn, 1) := by decide +kernel
theorem dX2_at_0 : decode cX2_at 0 = .ok (.iload_n 1, 1) := by decide +kernel
theorem dX2_at_1 : decode cX2_at 1 = .ok (.ifCond .lt 20, 3) := by decide +kernel
theorem dX2_at_4 : decode cX2_at 4 = .ok (.iload_n 1, 1) := by decide +kernel
theorem dX2_at_5 : decode cX2_at 5 = .ok (.aload_n 0, 1) := by decide +kernel
theorem dX2_at_6 : decode cX2_at 6 = .ok (.getfield 15, 3) := by decide +kernel
theorem dX2_at_9 : decode cX2_at 9 = .ok (.if_icmp .ge 12, 3) := by decide +kernel
theorem dX2_at_12 : decode cX2_at 12 = .ok (.aload_n 0, 1) := by decide +kernel
theorem dX2_at_13 : decode cX2_at 13 = .ok (.getfield 9, 3) := by decide +kernel
theorem dX2_at_16 : decode cX2_at 16 = .ok (.iload_n 1, 1) := by decide +kernel
theorem dX2_at_17 : decode cX2_at 17 = .ok (.iaload, 1) := by decide +kernel
theorem dX2_at_18 : decode cX2_at 18 = .ok (.goto 4, 3) := by decide +kernel
theorem dX2_at_21 : decode cX2_at 21 = .ok (.iconst (-1), 1) := by decide +kernel
theorem dX2_at_22 : decode cX2_at 22 = .ok (.ireturn, 1) := by decide +kernel
theorem dX2_canReplace_0 : decode cX2_canReplace 0 = .ok (.iload_n 3, 1) := by decide +kernel
theorem dX2_canReplace_1 : decode cX2_canReplace 1 = .ok (.ifCond .lt 53, 3) := by decide +kernel
theorem dX2_canReplace_4 : decode cX2_canReplace 4 = .ok (.iload_n 3, 1) := by decide +kernel
theorem dX2_canReplace_5 : decode cX2_canReplace 5 = .ok (.bipush 16, 2) := by decide +kernel
theorem dX2_canReplace_7 : decode cX2_canReplace 7 = .ok (.if_icmp .gt 47, 3) := by decide +kernel
theorem dX2_canReplace_10 : decode cX2_canReplace 10 = .ok (.iload_n 1, 1) := by decide +kernel
theorem dX2_canReplace_11 : decode cX2_canReplace 11 = .ok (.ifCond .lt 43, 3) := by decide +kernel
theorem dX2_canReplace_14 : decode cX2_canReplace 14 = .ok (.iload_n 1, 1) := by decide +kernel
theorem dX2_canReplace_15 : decode cX2_canReplace 15 = .ok (.aload_n 0, 1) := by decide +kernel
theorem dX2_canReplace_16 : decode cX2_canReplace 16 = .ok (.getfield 15, 3) := by decide +kernel
theorem dX2_canReplace_19 : decode cX2_canReplace 19 = .ok (.if_icmp .gt 35, 3) := by decide +kernel
theorem dX2_canReplace_22 : decode cX2_canReplace 22 = .ok (.iload_n 2, 1) := by decide +kernel
theorem dX2_canReplace_23 : decode cX2_canReplace 23 = .ok (.ifCond .lt 31, 3) := by decide +kernel
theorem dX2_canReplace_26 : decode cX2_canReplace 26 = .ok (.iload_n 2, 1) := by decide +kernel
theorem dX2_canReplace_27 : decode cX2_canReplace 27 = .ok (.aload_n 0, 1) := by decide +kernel
theorem dX2_canReplace_28 : decode cX2_canReplace 28 = .ok (.getfield 15, 3) := by decide +kernel
theorem dX2_canReplace_31 : decode cX2_canReplace 31 = .ok (.iload_n 1, 1) := by decide +kernel
theorem dX2_canReplace_32 : decode cX2_canReplace 32 = .ok (.isub, 1) := by decide +kernel
theorem dX2_canReplace_33 : decode cX2_canReplace 33 = .ok (.if_icmp .gt 21, 3) := by decide +kernel
theorem dX2_canReplace_36 : decode cX2_canReplace 36 = .ok (.aload_n 0, 1) := by decide +kernel
theorem dX2_canReplace_37 : decode cX2_canReplace 37 = .ok (.getfield 15, 3) := by decide +kernel
theorem dX2_canReplace_40 : decode cX2_canReplace 40 = .ok (.iload_n 2, 1) := by decide +kernel
theorem dX2_canReplace_41 : decode cX2_canReplace 41 = .ok (.isub, 1) := by decide +kernel
theorem dX2_canReplace_42 : decode cX2_canReplace 42 = .ok (.iload_n 3, 1) := by decide +kernel
theorem dX2_canReplace_43 : decode cX2_canReplace 43 = .ok (.iadd, 1) := by decide +kernel
theorem dX2_canReplace_44 : decode cX2_canReplace 44 = .ok (.sipush 400, 3) := by decide +kernel
theorem dX2_canReplace_47 : decode cX2_canReplace 47 = .ok (.if_icmp .gt 7, 3) := by decide +kernel
theorem dX2_canReplace_50 : decode cX2_canReplace 50 = .ok (.iconst 1, 1) := by decide +kernel
theorem dX2_canReplace_51 : decode cX2_canReplace 51 = .ok (.goto 4, 3) := by decide +kernel
theorem dX2_canReplace_54 : decode cX2_canReplace 54 = .ok (.iconst 0, 1) := by decide +kernel
theorem dX2_canReplace_55 : decode cX2_canReplace 55 = .ok (.ireturn, 1) := by decide +kernel
theorem dX2_replace_0 : decode cX2_replace 0 = .ok (.aload_n 0, 1) := by decide +kernel
theorem dX2_replace_1 : decode cX2_replace 1 = .ok (.iload_n 1, 1) := by decide +kernel
theorem dX2_replace_2 : decode cX2_replace 2 = .ok (.iload_n 2, 1) := by decide +kernel
theorem dX2_replace_3 : decode cX2_replace 3 = .ok (.iload 5, 2) := by decide +kernel
theorem dX2_replace_5 : decode cX2_replace 5 = .ok (.invokevirtual 19, 3) := by decide +kernel
theorem dX2_replace_8 : decode cX2_replace 8 = .ok (.ifCond .ne 4, 3) := by decide +kernel
theorem dX2_replace_11 : decode cX2_replace 11 = .ok (.return_, 1) := by decide +kernel
theorem dX2_replace_12 : decode cX2_replace 12 = .ok (.aload_n 0, 1) := by decide +kernel
theorem dX2_replace_13 : decode cX2_replace 13 = .ok (.getfield 9, 3) := by decide +kernel
theorem dX2_replace_16 : decode cX2_replace 16 = .ok (.iload_n 1, 1) := by decide +kernel
theorem dX2_replace_17 : decode cX2_replace 17 = .ok (.iload_n 2, 1) := by decide +kernel
theorem dX2_replace_18 : decode cX2_replace 18 = .ok (.iadd, 1) := by decide +kernel
theorem dX2_replace_19 : decode cX2_replace 19 = .ok (.aload_n 0, 1) := by decide +kernel
theorem dX2_replace_20 : decode cX2_replace 20 = .ok (.getfield 9, 3) := by decide +kernel
theorem dX2_replace_23 : decode cX2_replace 23 = .ok (.iload_n 1, 1) := by decide +kernel
theorem dX2_replace_24 : decode cX2_replace 24 = .ok (.iload 5, 2) := by decide +kernel
theorem dX2_replace_26 : decode cX2_replace 26 = .ok (.iadd, 1) := by decide +kernel
theorem dX2_replace_27 : decode cX2_replace 27 = .ok (.aload_n 0, 1) := by decide +kernel
theorem dX2_replace_28 : decode cX2_replace 28 = .ok (.getfield 15, 3) := by decide +kernel
theorem dX2_replace_31 : decode cX2_replace 31 = .ok (.iload_n 1, 1) := by decide +kernel
theorem dX2_replace_32 : decode cX2_replace 32 = .ok (.isub, 1) := by decide +kernel
theorem dX2_replace_33 : decode cX2_replace 33 = .ok (.iload_n 2, 1) := by decide +kernel
theorem dX2_replace_34 : decode cX2_replace 34 = .ok (.isub, 1) := by decide +kernel
theorem dX2_replace_35 : decode cX2_replace 35 = .ok (.invokestatic 23, 3) := by decide +kernel
theorem dX2_replace_38 : decode cX2_replace 38 = .ok (.iconst 0, 1) := by decide +kernel
theorem dX2_replace_39 : decode cX2_replace 39 = .ok (.istore 6, 2) := by decide +kernel
theorem dX2_replace_41 : decode cX2_replace 41 = .ok (.iload 6, 2) := by decide +kernel
theorem dX2_replace_43 : decode cX2_replace 43 = .ok (.iload 5, 2) := by decide +kernel
theorem dX2_replace_45 : decode cX2_replace 45 = .ok (.if_icmp .ge 26, 3) := by decide +kernel
theorem dX2_replace_48 : decode cX2_replace 48 = .ok (.aload_n 0, 1) := by decide +kernel
theorem dX2_replace_49 : decode cX2_replace 49 = .ok (.getfield 9, 3) := by decide +kernel
theorem dX2_replace_52 : decode cX2_replace 52 = .ok (.iload_n 1, 1) := by decide +kernel
theorem dX2_replace_53 : decode cX2_replace 53 = .ok (.iload 6, 2) := by decide +kernel
theorem dX2_replace_55 : decode cX2_replace 55 = .ok (.iadd, 1) := by decide +kernel
theorem dX2_replace_56 : decode cX2_replace 56 = .ok (.lload_n 3, 1) := by decide +kernel
theorem dX2_replace_57 : decode cX2_replace 57 = .ok (.iload 5, 2) := by decide +kernel
theorem dX2_replace_59 : decode cX2_replace 59 = .ok (.iload 6, 2) := by decide +kernel
theorem dX2_replace_61 : decode cX2_replace 61 = .ok (.invokestatic 29, 3) := by decide +kernel
theorem dX2_replace_64 : decode cX2_replace 64 = .ok (.iastore, 1) := by decide +kernel
theorem dX2_replace_65 : decode cX2_replace 65 = .ok (.iinc 6 1, 3) := by decide +kernel
theorem dX2_replace_68 : decode cX2_replace 68 = .ok (.goto (-27), 3) := by decide +kernel
theorem dX2_replace_71 : decode cX2_replace 71 = .ok (.aload_n 0, 1) := by decide +kernel
theorem dX2_replace_72 : decode cX2_replace 72 = .ok (.dup, 1) := by decide +kernel
theorem dX2_replace_73 : decode cX2_replace 73 = .ok (.getfield 15, 3) := by decide +kernel
theorem dX2_replace_76 : decode cX2_replace 76 = .ok (.iload 5, 2) := by decide +kernel
theorem dX2_replace_78 : decode cX2_replace 78 = .ok (.iload_n 2, 1) := by decide +kernel
theorem dX2_replace_79 : decode cX2_replace 79 = .ok (.isub, 1) := by decide +kernel
theorem dX2_replace_80 : decode cX2_replace 80 = .ok (.iadd, 1) := by decide +kernel
theorem dX2_replace_81 : decode cX2_replace 81 = .ok (.putfield 15, 3) := by decide +kernel
theorem dX2_replace_84 : decode cX2_replace 84 = .ok (.return_, 1) := by decide +kernel
theorem dJ7_fill_53178_0 : decode cJ7_fill_53178 0 = .ok (.iconst 0, 1) := by decide +kernel
theorem dJ7_fill_53178_1 : decode cJ7_fill_53178 1 = .ok (.istore_n 2, 1) := by decide +kernel
theorem dJ7_fill_53178_2 : decode cJ7_fill_53178 2 = .ok (.aload_n 0, 1) := by decide +kernel
theorem dJ7_fill_53178_3 : decode cJ7_fill_53178 3 = .ok (.arraylength, 1) := by decide +kernel
theorem dJ7_fill_53178_4 : decode cJ7_fill_53178 4 = .ok (.istore_n 3, 1) := by decide +kernel
theorem dJ7_fill_53178_5 : decode cJ7_fill_53178 5 = .ok (.iload_n 2, 1) := by decide +kernel
theorem dJ7_fill_53178_6 : decode cJ7_fill_53178 6 = .ok (.iload_n 3, 1) := by decide +kernel
theorem dJ7_fill_53178_7 : decode cJ7_fill_53178 7 = .ok (.if_icmp .ge 13, 3) := by decide +kernel
theorem dJ7_fill_53178_10 : decode cJ7_fill_53178 10 = .ok (.aload_n 0, 1) := by decide +kernel
theorem dJ7_fill_53178_11 : decode cJ7_fill_53178 11 = .ok (.iload_n 2, 1) := by decide +kernel
theorem dJ7_fill_53178_12 : decode cJ7_fill_53178 12 = .ok (.iload_n 1, 1) := by decide +kernel
theorem dJ7_fill_53178_13 : decode cJ7_fill_53178 13 = .ok (.iastore, 1) := by decide +kernel
theorem dJ7_fill_53178_14 : decode cJ7_fill_53178 14 = .ok (.iinc 2 1, 3) := by decide +kernel
theorem dJ7_fill_53178_17 : decode cJ7_fill_53178 17 = .ok (.goto (-12), 3) := by decide +kernel
theorem dJ7_fill_53178_20 : decode cJ7_fill_53178 20 = .ok (.return_, 1) := by decide +kernel
end
section
theorem dX3_init_0 : decode cX3_init 0 = .ok (.aload_n 0, 1) := by decide +kernel
theorem dX3_init_1 : decode cX3_init 1 = .ok (.invokespecial 1, 3) := by decide +kernel
theorem dX3_init_4 : decode cX3_init 4 = .ok (.aload_n 0, 1) := by decide +kernel
theorem dX3_init_5 : decode cX3_init 5 = .ok (.new 7, 3) := by decide +kernel
theorem dX3_init_8 : decode cX3_init 8 = .ok (.dup, 1) := by decide +kernel
theorem dX3_init_9 : decode cX3_init 9 = .ok (.invokespecial 9, 3) := by decide +kernel
theorem dX3_init_12 : decode cX3_init 12 = .ok (.putfield 10, 3) := by decide +kernel
theorem dX3_init_15 : decode cX3_init 15 = .ok (.aload_n 0, 1) := by decide +kernel
theorem dX3_init_16 : decode cX3_init 16 = .ok (.new 16, 3) := by decide +kernel
theorem dX3_init_19 : decode cX3_init 19 = .ok (.dup, 1) := by decide +kernel
theorem dX3_init_20 : decode cX3_init 20 = .ok (.invokespecial 18, 3) := by decide +kernel
theorem dX3_init_23 : decode cX3_init 23 = .ok (.putfield 19, 3) := by decide +kernel
theorem dX3_init_26 : decode cX3_init 26 = .ok (.aload_n 0, 1) := by decide +kernel
theorem dX3_init_27 : decode cX3_init 27 = .ok (.new 23, 3) := by decide +kernel
theorem dX3_init_30 : decode cX3_init 30 = .ok (.dup, 1) := by decide +kernel
theorem dX3_init_31 : decode cX3_init 31 = .ok (.invokespecial 25, 3) := by decide +kernel
theorem dX3_init_34 : decode cX3_init 34 = .ok (.putfield 26, 3) := by decide +kernel
theorem dX3_init_37 : decode cX3_init 37 = .ok (.aload_n 0, 1) := by decide +kernel
theorem dX3_init_38 : decode cX3_init 38 = .ok (.new 23, 3) := by decide +kernel
theorem dX3_init_41 : decode cX3_init 41 = .ok (.dup, 1) := by decide +kernel
theorem dX3_init_42 : decode cX3_init 42 = .ok (.invokespecial 25, 3) := by decide +kernel
theorem dX3_init_45 : decode cX3_init 45 = .ok (.putfield 30, 3) := by decide +kernel
theorem dX3_init_48 : decode cX3_init 48 = .ok (.return_, 1) := by decide +kernel
theorem dX3_arrow_0 : decode cX3_arrow 0 = .ok (.aload_n 0, 1) := by decide +kernel
theorem dX3_arrow_1 : decode cX3_arrow 1 = .ok (.getfield 19, 3) := by decide +kernel
theorem dX3_arrow_4 : decode cX3_arrow 4 = .ok (.invokevirtual 33, 3) := by decide +kernel
theorem dX3_arrow_7 : decode cX3_arrow 7 = .ok (.ifCond .eq 20, 3) := by decide +kernel
theorem dX3_arrow_10 : decode cX3_arrow 10 = .ok (.aload_n 0, 1) := by decide +kernel
theorem dX3_arrow_11 : decode cX3_arrow 11 = .ok (.getfield 10, 3) := by decide +kernel
theorem dX3_arrow_14 : decode cX3_arrow 14 = .ok (.iload_n 1, 1) := by decide +kernel
theorem dX3_arrow_15 : decode cX3_arrow 15 = .ok (.iload_n 2, 1) := by decide +kernel
theorem dX3_arrow_16 : decode cX3_arrow 16 = .ok (.iload_n 3, 1) := by decide +kernel
theorem dX3_arrow_17 : decode cX3_arrow 17 = .ok (.invokevirtual 37, 3) := by decide +kernel
theorem dX3_arrow_20 : decode cX3_arrow 20 = .ok (.ifCond .eq 7, 3) := by decide +kernel
theorem dX3_arrow_23 : decode cX3_arrow 23 = .ok (.iconst 1, 1) := by decide +kernel
theorem dX3_arrow_24 : decode cX3_arrow 24 = .ok (.goto 4, 3) := by decide +kernel
theorem dX3_arrow_27 : decode cX3_arrow 27 = .ok (.iconst 0, 1) := by decide +kernel
theorem dX3_arrow_28 : decode cX3_arrow 28 = .ok (.ireturn, 1) := by decide +kernel
theorem dX3_kind_0 : decode cX3_kind 0 = .ok (.aload_n 0, 1) := by decide +kernel
theorem dX3_kind_1 : decode cX3_kind 1 = .ok (.getfield 19, 3) := by decide +kernel
theorem dX3_kind_4 : decode cX3_kind 4 = .ok (.invokevirtual 33, 3) := by decide +kernel
theorem dX3_kind_7 : decode cX3_kind 7 = .ok (.ifCond .eq 19, 3) := by decide +kernel
theorem dX3_kind_10 : decode cX3_kind 10 = .ok (.aload_n 0, 1) := by decide +kernel
theorem dX3_kind_11 : decode cX3_kind 11 = .ok (.getfield 10, 3) := by decide +kernel
theorem dX3_kind_14 : decode cX3_kind 14 = .ok (.iload_n 1, 1) := by decide +kernel
theorem dX3_kind_15 : decode cX3_kind 15 = .ok (.iload_n 2, 1) := by decide +kernel
theorem dX3_kind_16 : decode cX3_kind 16 = .ok (.invokevirtual 41, 3) := by decide +kernel
theorem dX3_kind_19 : decode cX3_kind 19 = .ok (.ifCond .eq 7, 3) := by decide +kernel
theorem dX3_kind_22 : decode cX3_kind 22 = .ok (.iconst 1, 1) := by decide +kernel
theorem dX3_kind_23 : decode cX3_kind 23 = .ok (.goto 4, 3) := by decide +kernel
theorem dX3_kind_26 : decode cX3_kind 26 = .ok (.iconst 0, 1) := by decide +kernel
theorem dX3_kind_27 : decode cX3_kind 27 = .ok (.ireturn, 1) := by decide +kernel
theorem dX3_edit_0 : decode cX3_edit 0 = .ok (.aload_n 0, 1) := by decide +kernel
theorem dX3_edit_1 : decode cX3_edit 1 = .ok (.getfield 19, 3) := by decide +kernel
theorem dX3_edit_4 : decode cX3_edit 4 = .ok (.iload_n 1, 1) := by decide +kernel
theorem dX3_edit_5 : decode cX3_edit 5 = .ok (.iload_n 2, 1) := by decide +kernel
theorem dX3_edit_6 : decode cX3_edit 6 = .ok (.iload 5, 2) := by decide +kernel
theorem dX3_edit_8 : decode cX3_edit 8 = .ok (.invokevirtual 45, 3) := by decide +kernel
theorem dX3_edit_11 : decode cX3_edit 11 = .ok (.ifCond .eq 12, 3) := by decide +kernel
theorem dX3_edit_14 : decode cX3_edit 14 = .ok (.lload_n 3, 1) := by decide +kernel
theorem dX3_edit_15 : decode cX3_edit 15 = .ok (.iload 5, 2) := by decide +kernel
theorem dX3_edit_17 : decode cX3_edit 17 = .ok (.invokestatic 48, 3) := by decide +kernel
theorem dX3_edit_20 : decode cX3_edit 20 = .ok (.ifCond .ne 5, 3) := by decide +kernel
theorem dX3_edit_23 : decode cX3_edit 23 = .ok (.iconst (-1), 1) := by decide +kernel
theorem dX3_edit_24 : decode cX3_edit 24 = .ok (.ireturn, 1) := by decide +kernel
theorem dX3_edit_25 : decode cX3_edit 25 = .ok (.aload_n 0, 1) := by decide +kernel
theorem dX3_edit_26 : decode cX3_edit 26 = .ok (.getfield 26, 3) := by decide +kernel
theorem dX3_edit_29 : decode cX3_edit 29 = .ok (.iload_n 1, 1) := by decide +kernel
theorem dX3_edit_30 : decode cX3_edit 30 = .ok (.invokevirtual 52, 3) := by decide +kernel
theorem dX3_edit_33 : decode cX3_edit 33 = .ok (.istore 6, 2) := by decide +kernel
theorem dX3_edit_35 : decode cX3_edit 35 = .ok (.aload_n 0, 1) := by decide +kernel
theorem dX3_edit_36 : decode cX3_edit 36 = .ok (.getfield 19, 3) := by decide +kernel
theorem dX3_edit_39 : decode cX3_edit 39 = .ok (.invokevirtual 33, 3) := by decide +kernel
theorem dX3_edit_42 : decode cX3_edit 42 = .ok (.ifCond .ne 15, 3) := by decide +kernel
theorem dX3_edit_45 : decode cX3_edit 45 = .ok (.iload 6, 2) := by decide +kernel
theorem dX3_edit_47 : decode cX3_edit 47 = .ok (.aload_n 0, 1) := by decide +kernel
theorem dX3_edit_48 : decode cX3_edit 48 = .ok (.getfield 26, 3) := by decide +kernel
theorem dX3_edit_51 : decode cX3_edit 51 = .ok (.invokevirtual 56, 3) := by decide +kernel
theorem dX3_edit_54 : decode cX3_edit 54 = .ok (.if_icmp .ge 7, 3) := by decide +kernel
theorem dX3_edit_57 : decode cX3_edit 57 = .ok (.iconst 1, 1) := by decide +kernel
theorem dX3_edit_58 : decode cX3_edit 58 = .ok (.goto 4, 3) := by decide +kernel
theorem dX3_edit_61 : decode cX3_edit 61 = .ok (.iconst 0, 1) := by decide +kernel
theorem dX3_edit_62 : decode cX3_edit 62 = .ok (.istore 7, 2) := by decide +kernel
theorem dX3_edit_64 : decode cX3_edit 64 = .ok (.aload_n 0, 1) := by decide +kernel
theorem dX3_edit_65 : decode cX3_edit 65 = .ok (.getfield 19, 3) := by decide +kernel
theorem dX3_edit_68 : decode cX3_edit 68 = .ok (.iload_n 1, 1) := by decide +kernel
theorem dX3_edit_69 : decode cX3_edit 69 = .ok (.iload_n 2, 1) := by decide +kernel
theorem dX3_edit_70 : decode cX3_edit 70 = .ok (.lload_n 3, 1) := by decide +kernel
theorem dX3_edit_71 : decode cX3_edit 71 = .ok (.iload 5, 2) := by decide +kernel
theorem dX3_edit_73 : decode cX3_edit 73 = .ok (.invokevirtual 60, 3) := by decide +kernel
theorem dX3_edit_76 : decode cX3_edit 76 = .ok (.aload_n 0, 1) := by decide +kernel
theorem dX3_edit_77 : decode cX3_edit 77 = .ok (.iconst 0, 1) := by decide +kernel
theorem dX3_edit_78 : decode cX3_edit 78 = .ok (.putfield 64, 3) := by decide +kernel
theorem dX3_edit_81 : decode cX3_edit 81 = .ok (.aload_n 0, 1) := by decide +kernel
theorem dX3_edit_82 : decode cX3_edit 82 = .ok (.iconst 0, 1) := by decide +kernel
theorem dX3_edit_83 : decode cX3_edit 83 = .ok (.putfield 68, 3) := by decide +kernel
theorem dX3_edit_86 : decode cX3_edit 86 = .ok (.aload_n 0, 1) := by decide +kernel
theorem dX3_edit_87 : decode cX3_edit 87 = .ok (.dup, 1) := by decide +kernel
theorem dX3_edit_88 : decode cX3_edit 88 = .ok (.getfield 71, 3) := by decide +kernel
theorem dX3_edit_91 : decode cX3_edit 91 = .ok (.iconst 1, 1) := by decide +kernel
theorem dX3_edit_92 : decode cX3_edit 92 = .ok (.iadd, 1) := by decide +kernel
theorem dX3_edit_93 : decode cX3_edit 93 = .ok (.putfield 71, 3) := by decide +kernel
theorem dX3_edit_96 : decode cX3_edit 96 = .ok (.iload 7, 2) := by decide +kernel
theorem dX3_edit_98 : decode cX3_edit 98 = .ok (.ifCond .eq 17, 3) := by decide +kernel
theorem dX3_edit_101 : decode cX3_edit 101 = .ok (.aload_n 0, 1) := by decide +kernel
theorem dX3_edit_102 : decode cX3_edit 102 = .ok (.iload 6, 2) := by decide +kernel
theorem dX3_edit_104 : decode cX3_edit 104 = .ok (.iload_n 1, 1) := by decide +kernel
theorem dX3_edit_105 : decode cX3_edit 105 = .ok (.iload 5, 2) := by decide +kernel
theorem dX3_edit_107 : decode cX3_edit 107 = .ok (.iadd, 1) := by decide +kernel
theorem dX3_edit_108 : decode cX3_edit 108 = .ok (.iload 5, 2) := by decide +kernel
theorem dX3_edit_110 : decode cX3_edit 110 = .ok (.iload_n 2, 1) := by decide +kernel
theorem dX3_edit_111 : decode cX3_edit 111 = .ok (.isub, 1) := by decide +kernel
theorem dX3_edit_112 : decode cX3_edit 112 = .ok (.invokevirtual 74, 3) := by decide +kernel
theorem dX3_edit_115 : decode cX3_edit 115 = .ok (.aload_n 0, 1) := by decide +kernel
theorem dX3_edit_116 : decode cX3_edit 116 = .ok (.getfield 64, 3) := by decide +kernel
theorem dX3_edit_119 : decode cX3_edit 119 = .ok (.ireturn, 1) := by decide +kernel
theorem dX3_token_0 : decode cX3_token 0 = .ok (.iload_n 1, 1) := by decide +kernel
theorem dX3_token_1 : decode cX3_token 1 = .ok (.ifCond .lt 14, 3) := by decide +kernel
theorem dX3_token_4 : decode cX3_token 4 = .ok (.iload_n 1, 1) := by decide +kernel
theorem dX3_token_5 : decode cX3_token 5 = .ok (.aload_n 0, 1) := by decide +kernel
theorem dX3_token_6 : decode cX3_token 6 = .ok (.getfield 26, 3) := by decide +kernel
theorem dX3_token_9 : decode cX3_token 9 = .ok (.invokevirtual 78, 3) := by decide +kernel
theorem dX3_token_12 : decode cX3_token 12 = .ok (.if_icmp .lt 5, 3) := by decide +kernel
theorem dX3_token_15 : decode cX3_token 15 = .ok (.iconst (-1), 1) := by decide +kernel
theorem dX3_token_16 : decode cX3_token 16 = .ok (.ireturn, 1) := by decide +kernel
theorem dX3_token_17 : decode cX3_token 17 = .ok (.iload_n 2, 1) := by decide +kernel
theorem dX3_token_18 : decode cX3_token 18 = .ok (.tableswitch 66 0 3 #[30, 39, 48, 57], 30) := by decide +kernel
theorem dX3_token_48 : decode cX3_token 48 = .ok (.aload_n 0, 1) := by decide +kernel
theorem dX3_token_49 : decode cX3_token 49 = .ok (.getfield 26, 3) := by decide +kernel
theorem dX3_token_52 : decode cX3_token 52 = .ok (.iload_n 1, 1) := by decide +kernel
theorem dX3_token_53 : decode cX3_token 53 = .ok (.invokevirtual 81, 3) := by decide +kernel
theorem dX3_token_56 : decode cX3_token 56 = .ok (.ireturn, 1) := by decide +kernel
theorem dX3_token_57 : decode cX3_token 57 = .ok (.aload_n 0, 1) := by decide +kernel
theorem dX3_token_58 : decode cX3_token 58 = .ok (.getfield 26, 3) := by decide +kernel
theorem dX3_token_61 : decode cX3_token 61 = .ok (.iload_n 1, 1) := by decide +kernel
theorem dX3_token_62 : decode cX3_token 62 = .ok (.invokevirtual 84, 3) := by decide +kernel
theorem dX3_token_65 : decode cX3_token 65 = .ok (.ireturn, 1) := by decide +kernel
theorem dX3_token_66 : decode cX3_token 66 = .ok (.aload_n 0, 1) := by decide +kernel
theorem dX3_token_67 : decode cX3_token 67 = .ok (.getfield 26, 3) := by decide +kernel
theorem dX3_token_70 : decode cX3_token 70 = .ok (.iload_n 1, 1) := by decide +kernel
theorem dX3_token_71 : decode cX3_token 71 = .ok (.invokevirtual 87, 3) := by decide +kernel
theorem dX3_token_74 : decode cX3_token 74 = .ok (.ireturn, 1) := by decide +kernel
theorem dX3_token_75 : decode cX3_token 75 = .ok (.aload_n 0, 1) := by decide +kernel
theorem dX3_token_76 : decode cX3_token 76 = .ok (.getfield 26, 3) := by decide +kernel
theorem dX3_token_79 : decode cX3_token 79 = .ok (.iload_n 1, 1) := by decide +kernel
theorem dX3_token_80 : decode cX3_token 80 = .ok (.invokevirtual 90, 3) := by decide +kernel
theorem dX3_token_83 : decode cX3_token 83 = .ok (.ireturn, 1) := by decide +kernel
theorem dX3_token_84 : decode cX3_token 84 = .ok (.iconst (-1), 1) := by decide +kernel
theorem dX3_token_85 : decode cX3_token 85 = .ok (.ireturn, 1) := by decide +kernel
theorem dX3_tokenAt_0 : decode cX3_tokenAt 0 = .ok (.aload_n 0, 1) := by decide +kernel
theorem dX3_tokenAt_1 : decode cX3_tokenAt 1 = .ok (.getfield 26, 3) := by decide +kernel
theorem dX3_tokenAt_4 : decode cX3_tokenAt 4 = .ok (.iload_n 1, 1) := by decide +kernel
theorem dX3_tokenAt_5 : decode cX3_tokenAt 5 = .ok (.invokevirtual 93, 3) := by decide +kernel
theorem dX3_tokenAt_8 : decode cX3_tokenAt 8 = .ok (.ireturn, 1) := by decide +kernel
theorem dX3_symbol_0 : decode cX3_symbol 0 = .ok (.aload_n 0, 1) := by decide +kernel
theorem dX3_symbol_1 : decode cX3_symbol 1 = .ok (.getfield 19, 3) := by decide +kernel
theorem dX3_symbol_4 : decode cX3_symbol 4 = .ok (.iload_n 1, 1) := by decide +kernel
theorem dX3_symbol_5 : decode cX3_symbol 5 = .ok (.invokevirtual 96, 3) := by decide +kernel
theorem dX3_symbol_8 : decode cX3_symbol 8 = .ok (.ireturn, 1) := by decide +kernel
theorem dX3_count_0 : decode cX3_count 0 = .ok (.iload_n 1, 1) := by decide +kernel
theorem dX3_count_1 : decode cX3_count 1 = .ok (.tableswitch 132 0 6 #[43, 51, 59, 88, 117, 122, 127], 43) := by decide +kernel
theorem dX3_count_44 : decode cX3_count 44 = .ok (.aload_n 0, 1) := by decide +kernel
theorem dX3_count_45 : decode cX3_count 45 = .ok (.getfield 26, 3) := by decide +kernel
theorem dX3_count_48 : decode cX3_count 48 = .ok (.invokevirtual 78, 3) := by decide +kernel
theorem dX3_count_51 : decode cX3_count 51 = .ok (.ireturn, 1) := by decide +kernel
theorem dX3_count_52 : decode cX3_count 52 = .ok (.aload_n 0, 1) := by decide +kernel
theorem dX3_count_53 : decode cX3_count 53 = .ok (.getfield 19, 3) := by decide +kernel
theorem dX3_count_56 : decode cX3_count 56 = .ok (.invokevirtual 99, 3) := by decide +kernel
theorem dX3_count_59 : decode cX3_count 59 = .ok (.ireturn, 1) := by decide +kernel
theorem dX3_count_60 : decode cX3_count 60 = .ok (.aload_n 0, 1) := by decide +kernel
theorem dX3_count_61 : decode cX3_count 61 = .ok (.getfield 26, 3) := by decide +kernel
theorem dX3_count_64 : decode cX3_count 64 = .ok (.invokevirtual 100, 3) := by decide +kernel
theorem dX3_count_67 : decode cX3_count 67 = .ok (.ifCond .eq 20, 3) := by decide +kernel
theorem dX3_count_70 : decode cX3_count 70 = .ok (.aload_n 0, 1) := by decide +kernel
theorem dX3_count_71 : decode cX3_count 71 = .ok (.getfield 26, 3) := by decide +kernel
theorem dX3_count_74 : decode cX3_count 74 = .ok (.aload_n 0, 1) := by decide +kernel
theorem dX3_count_75 : decode cX3_count 75 = .ok (.getfield 26, 3) := by decide +kernel
theorem dX3_count_78 : decode cX3_count 78 = .ok (.invokevirtual 78, 3) := by decide +kernel
theorem dX3_count_81 : decode cX3_count 81 = .ok (.invokevirtual 81, 3) := by decide +kernel
theorem dX3_count_84 : decode cX3_count 84 = .ok (.goto 4, 3) := by decide +kernel
theorem dX3_count_87 : decode cX3_count 87 = .ok (.iconst (-1), 1) := by decide +kernel
theorem dX3_count_88 : decode cX3_count 88 = .ok (.ireturn, 1) := by decide +kernel
theorem dX3_count_89 : decode cX3_count 89 = .ok (.aload_n 0, 1) := by decide +kernel
theorem dX3_count_90 : decode cX3_count 90 = .ok (.getfield 26, 3) := by decide +kernel
theorem dX3_count_93 : decode cX3_count 93 = .ok (.invokevirtual 100, 3) := by decide +kernel
theorem dX3_count_96 : decode cX3_count 96 = .ok (.ifCond .eq 20, 3) := by decide +kernel
theorem dX3_count_99 : decode cX3_count 99 = .ok (.aload_n 0, 1) := by decide +kernel
theorem dX3_count_100 : decode cX3_count 100 = .ok (.getfield 26, 3) := by decide +kernel
theorem dX3_count_103 : decode cX3_count 103 = .ok (.aload_n 0, 1) := by decide +kernel
theorem dX3_count_104 : decode cX3_count 104 = .ok (.getfield 26, 3) := by decide +kernel
theorem dX3_count_107 : decode cX3_count 107 = .ok (.invokevirtual 78, 3) := by decide +kernel
theorem dX3_count_110 : decode cX3_count 110 = .ok (.invokevirtual 90, 3) := by decide +kernel
theorem dX3_count_113 : decode cX3_count 113 = .ok (.goto 4, 3) := by decide +kernel
theorem dX3_count_116 : decode cX3_count 116 = .ok (.iconst 0, 1) := by decide +kernel
theorem dX3_count_117 : decode cX3_count 117 = .ok (.ireturn, 1) := by decide +kernel
theorem dX3_count_118 : decode cX3_count 118 = .ok (.aload_n 0, 1) := by decide +kernel
theorem dX3_count_119 : decode cX3_count 119 = .ok (.getfield 64, 3) := by decide +kernel
theorem dX3_count_122 : decode cX3_count 122 = .ok (.ireturn, 1) := by decide +kernel
theorem dX3_count_123 : decode cX3_count 123 = .ok (.aload_n 0, 1) := by decide +kernel
theorem dX3_count_124 : decode cX3_count 124 = .ok (.getfield 68, 3) := by decide +kernel
theorem dX3_count_127 : decode cX3_count 127 = .ok (.ireturn, 1) := by decide +kernel
theorem dX3_count_128 : decode cX3_count 128 = .ok (.aload_n 0, 1) := by decide +kernel
theorem dX3_count_129 : decode cX3_count 129 = .ok (.getfield 71, 3) := by decide +kernel
theorem dX3_count_132 : decode cX3_count 132 = .ok (.ireturn, 1) := by decide +kernel
theorem dX3_count_133 : decode cX3_count 133 = .ok (.iconst (-1), 1) := by decide +kernel
theorem dX3_count_134 : decode cX3_count 134 = .ok (.ireturn, 1) := by decide +kernel
theorem dX3_clear_0 : decode cX3_clear 0 = .ok (.aload_n 0, 1) := by decide +kernel
theorem dX3_clear_1 : decode cX3_clear 1 = .ok (.getfield 26, 3) := by decide +kernel
theorem dX3_clear_4 : decode cX3_clear 4 = .ok (.invokevirtual 78, 3) := by decide +kernel
theorem dX3_clear_7 : decode cX3_clear 7 = .ok (.istore_n 1, 1) := by decide +kernel
theorem dX3_clear_8 : decode cX3_clear 8 = .ok (.aload_n 0, 1) := by decide +kernel
theorem dX3_clear_9 : decode cX3_clear 9 = .ok (.getfield 10, 3) := by decide +kernel
theorem dX3_clear_12 : decode cX3_clear 12 = .ok (.invokevirtual 103, 3) := by decide +kernel
theorem dX3_clear_15 : decode cX3_clear 15 = .ok (.aload_n 0, 1) := by decide +kernel
theorem dX3_clear_16 : decode cX3_clear 16 = .ok (.getfield 19, 3) := by decide +kernel
theorem dX3_clear_19 : decode cX3_clear 19 = .ok (.invokevirtual 106, 3) := by decide +kernel
theorem dX3_clear_22 : decode cX3_clear 22 = .ok (.aload_n 0, 1) := by decide +kernel
theorem dX3_clear_23 : decode cX3_clear 23 = .ok (.getfield 26, 3) := by decide +kernel
theorem dX3_clear_26 : decode cX3_clear 26 = .ok (.invokevirtual 107, 3) := by decide +kernel
theorem dX3_clear_29 : decode cX3_clear 29 = .ok (.aload_n 0, 1) := by decide +kernel
theorem dX3_clear_30 : decode cX3_clear 30 = .ok (.iconst 0, 1) := by decide +kernel
theorem dX3_clear_31 : decode cX3_clear 31 = .ok (.putfield 64, 3) := by decide +kernel
theorem dX3_clear_34 : decode cX3_clear 34 = .ok (.aload_n 0, 1) := by decide +kernel
theorem dX3_clear_35 : decode cX3_clear 35 = .ok (.iconst 0, 1) := by decide +kernel
theorem dX3_clear_36 : decode cX3_clear 36 = .ok (.putfield 68, 3) := by decide +kernel
theorem dX3_clear_39 : decode cX3_clear 39 = .ok (.aload_n 0, 1) := by decide +kernel
theorem dX3_clear_40 : decode cX3_clear 40 = .ok (.iconst 0, 1) := by decide +kernel
theorem dX3_clear_41 : decode cX3_clear 41 = .ok (.putfield 71, 3) := by decide +kernel
theorem dX3_clear_44 : decode cX3_clear 44 = .ok (.iload_n 1, 1) := by decide +kernel
theorem dX3_clear_45 : decode cX3_clear 45 = .ok (.ireturn, 1) := by decide +kernel
theorem dX3_areSymbols_0 : decode cX3_areSymbols 0 = .ok (.iconst 0, 1) := by decide +kernel
theorem dX3_areSymbols_1 : decode cX3_areSymbols 1 = .ok (.istore_n 3, 1) := by decide +kernel
theorem dX3_areSymbols_2 : decode cX3_areSymbols 2 = .ok (.iload_n 3, 1) := by decide +kernel
theorem dX3_areSymbols_3 : decode cX3_areSymbols 3 = .ok (.iload_n 2, 1) := by decide +kernel
theorem dX3_areSymbols_4 : decode cX3_areSymbols 4 = .ok (.if_icmp .ge 22, 3) := by decide +kernel
theorem dX3_areSymbols_7 : decode cX3_areSymbols 7 = .ok (.lload_n 0, 1) := by decide +kernel
theorem dX3_areSymbols_8 : decode cX3_areSymbols 8 = .ok (.iload_n 2, 1) := by decide +kernel
theorem dX3_areSymbols_9 : decode cX3_areSymbols 9 = .ok (.iload_n 3, 1) := by decide +kernel
theorem dX3_areSymbols_10 : decode cX3_areSymbols 10 = .ok (.invokestatic 108, 3) := by decide +kernel
theorem dX3_areSymbols_13 : decode cX3_areSymbols 13 = .ok (.bipush 10, 2) := by decide +kernel
theorem dX3_areSymbols_15 : decode cX3_areSymbols 15 = .ok (.if_icmp .lt 5, 3) := by decide +kernel
theorem dX3_areSymbols_18 : decode cX3_areSymbols 18 = .ok (.iconst 0, 1) := by decide +kernel
theorem dX3_areSymbols_19 : decode cX3_areSymbols 19 = .ok (.ireturn, 1) := by decide +kernel
theorem dX3_areSymbols_20 : decode cX3_areSymbols 20 = .ok (.iinc 3 1, 3) := by decide +kernel
theorem dX3_areSymbols_23 : decode cX3_areSymbols 23 = .ok (.goto (-21), 3) := by decide +kernel
theorem dX3_areSymbols_26 : decode cX3_areSymbols 26 = .ok (.iconst 1, 1) := by decide +kernel
theorem dX3_areSymbols_27 : decode cX3_areSymbols 27 = .ok (.ireturn, 1) := by decide +kernel
theorem dX3_unpack_0 : decode cX3_unpack 0 = .ok (.lload_n 0, 1) := by decide +kernel
theorem dX3_unpack_1 : decode cX3_unpack 1 = .ok (.iconst 4, 1) := by decide +kernel
theorem dX3_unpack_2 : decode cX3_unpack 2 = .ok (.iload_n 2, 1) := by decide +kernel
theorem dX3_unpack_3 : decode cX3_unpack 3 = .ok (.iconst 1, 1) := by decide +kernel
theorem dX3_unpack_4 : decode cX3_unpack 4 = .ok (.isub, 1) := by decide +kernel
theorem dX3_unpack_5 : decode cX3_unpack 5 = .ok (.iload_n 3, 1) := by decide +kernel
theorem dX3_unpack_6 : decode cX3_unpack 6 = .ok (.isub, 1) := by decide +kernel
theorem dX3_unpack_7 : decode cX3_unpack 7 = .ok (.imul, 1) := by decide +kernel
theorem dX3_unpack_8 : decode cX3_unpack 8 = .ok (.lushr, 1) := by decide +kernel
theorem dX3_unpack_9 : decode cX3_unpack 9 = .ok (.l2i, 1) := by decide +kernel
theorem dX3_unpack_10 : decode cX3_unpack 10 = .ok (.bipush 15, 2) := by decide +kernel
theorem dX3_unpack_12 : decode cX3_unpack 12 = .ok (.iand, 1) := by decide +kernel
theorem dX3_unpack_13 : decode cX3_unpack 13 = .ok (.ireturn, 1) := by decide +kernel
theorem dX3_scanAnew_0 : decode cX3_scanAnew 0 = .ok (.aload_n 0, 1) := by decide +kernel
theorem dX3_scanAnew_1 : decode cX3_scanAnew 1 = .ok (.getfield 30, 3) := by decide +kernel
theorem dX3_scanAnew_4 : decode cX3_scanAnew 4 = .ok (.aload_n 0, 1) := by decide +kernel
theorem dX3_scanAnew_5 : decode cX3_scanAnew 5 = .ok (.getfield 26, 3) := by decide +kernel
theorem dX3_scanAnew_8 : decode cX3_scanAnew 8 = .ok (.iload_n 1, 1) := by decide +kernel
theorem dX3_scanAnew_9 : decode cX3_scanAnew 9 = .ok (.invokevirtual 112, 3) := by decide +kernel
theorem dX3_scanAnew_12 : decode cX3_scanAnew 12 = .ok (.iload_n 1, 1) := by decide +kernel
theorem dX3_scanAnew_13 : decode cX3_scanAnew 13 = .ok (.istore 4, 2) := by decide +kernel
theorem dX3_scanAnew_15 : decode cX3_scanAnew 15 = .ok (.aload_n 0, 1) := by decide +kernel
theorem dX3_scanAnew_16 : decode cX3_scanAnew 16 = .ok (.getfield 30, 3) := by decide +kernel
theorem dX3_scanAnew_19 : decode cX3_scanAnew 19 = .ok (.invokevirtual 116, 3) := by decide +kernel
theorem dX3_scanAnew_22 : decode cX3_scanAnew 22 = .ok (.istore 5, 2) := by decide +kernel
theorem dX3_scanAnew_24 : decode cX3_scanAnew 24 = .ok (.iconst 0, 1) := by decide +kernel
theorem dX3_scanAnew_25 : decode cX3_scanAnew 25 = .ok (.istore 6, 2) := by decide +kernel
theorem dX3_scanAnew_27 : decode cX3_scanAnew 27 = .ok (.iload 6, 2) := by decide +kernel
theorem dX3_scanAnew_29 : decode cX3_scanAnew 29 = .ok (.sipush 400, 3) := by decide +kernel
theorem dX3_scanAnew_32 : decode cX3_scanAnew 32 = .ok (.if_icmp .ge 103, 3) := by decide +kernel
theorem dX3_scanAnew_35 : decode cX3_scanAnew 35 = .ok (.iload 5, 2) := by decide +kernel
theorem dX3_scanAnew_37 : decode cX3_scanAnew 37 = .ok (.aload_n 0, 1) := by decide +kernel
theorem dX3_scanAnew_38 : decode cX3_scanAnew 38 = .ok (.getfield 19, 3) := by decide +kernel
theorem dX3_scanAnew_41 : decode cX3_scanAnew 41 = .ok (.invokevirtual 99, 3) := by decide +kernel
theorem dX3_scanAnew_44 : decode cX3_scanAnew 44 = .ok (.if_icmp .ge 91, 3) := by decide +kernel
theorem dX3_scanAnew_47 : decode cX3_scanAnew 47 = .ok (.iload 5, 2) := by decide +kernel
theorem dX3_scanAnew_49 : decode cX3_scanAnew 49 = .ok (.iload_n 2, 1) := by decide +kernel
theorem dX3_scanAnew_50 : decode cX3_scanAnew 50 = .ok (.if_icmp .lt 51, 3) := by decide +kernel
theorem dX3_scanAnew_53 : decode cX3_scanAnew 53 = .ok (.aload_n 0, 1) := by decide +kernel
theorem dX3_scanAnew_54 : decode cX3_scanAnew 54 = .ok (.getfield 26, 3) := by decide +kernel
theorem dX3_scanAnew_57 : decode cX3_scanAnew 57 = .ok (.iload 4, 2) := by decide +kernel
theorem dX3_scanAnew_59 : decode cX3_scanAnew 59 = .ok (.iload 5, 2) := by decide +kernel
theorem dX3_scanAnew_61 : decode cX3_scanAnew 61 = .ok (.iload_n 3, 1) := by decide +kernel
theorem dX3_scanAnew_62 : decode cX3_scanAnew 62 = .ok (.isub, 1) := by decide +kernel
theorem dX3_scanAnew_63 : decode cX3_scanAnew 63 = .ok (.invokevirtual 119, 3) := by decide +kernel
theorem dX3_scanAnew_66 : decode cX3_scanAnew 66 = .ok (.istore 4, 2) := by decide +kernel
theorem dX3_scanAnew_68 : decode cX3_scanAnew 68 = .ok (.aload_n 0, 1) := by decide +kernel
theorem dX3_scanAnew_69 : decode cX3_scanAnew 69 = .ok (.getfield 26, 3) := by decide +kernel
theorem dX3_scanAnew_72 : decode cX3_scanAnew 72 = .ok (.iload 4, 2) := by decide +kernel
theorem dX3_scanAnew_74 : decode cX3_scanAnew 74 = .ok (.invokevirtual 81, 3) := by decide +kernel
theorem dX3_scanAnew_77 : decode cX3_scanAnew 77 = .ok (.iload 5, 2) := by decide +kernel
theorem dX3_scanAnew_79 : decode cX3_scanAnew 79 = .ok (.iload_n 3, 1) := by decide +kernel
theorem dX3_scanAnew_80 : decode cX3_scanAnew 80 = .ok (.isub, 1) := by decide +kernel
theorem dX3_scanAnew_81 : decode cX3_scanAnew 81 = .ok (.if_icmp .ne 20, 3) := by decide +kernel
theorem dX3_scanAnew_84 : decode cX3_scanAnew 84 = .ok (.aload_n 0, 1) := by decide +kernel
theorem dX3_scanAnew_85 : decode cX3_scanAnew 85 = .ok (.getfield 30, 3) := by decide +kernel
theorem dX3_scanAnew_88 : decode cX3_scanAnew 88 = .ok (.aload_n 0, 1) := by decide +kernel
theorem dX3_scanAnew_89 : decode cX3_scanAnew 89 = .ok (.getfield 26, 3) := by decide +kernel
theorem dX3_scanAnew_92 : decode cX3_scanAnew 92 = .ok (.iload 4, 2) := by decide +kernel
theorem dX3_scanAnew_94 : decode cX3_scanAnew 94 = .ok (.iload_n 3, 1) := by decide +kernel
theorem dX3_scanAnew_95 : decode cX3_scanAnew 95 = .ok (.invokevirtual 123, 3) := by decide +kernel
theorem dX3_scanAnew_98 : decode cX3_scanAnew 98 = .ok (.goto 37, 3) := by decide +kernel
theorem dX3_scanAnew_101 : decode cX3_scanAnew 101 = .ok (.aload_n 0, 1) := by decide +kernel
theorem dX3_scanAnew_102 : decode cX3_scanAnew 102 = .ok (.iload 5, 2) := by decide +kernel
theorem dX3_scanAnew_104 : decode cX3_scanAnew 104 = .ok (.invokevirtual 127, 3) := by decide +kernel
theorem dX3_scanAnew_107 : decode cX3_scanAnew 107 = .ok (.aload_n 0, 1) := by decide +kernel
theorem dX3_scanAnew_108 : decode cX3_scanAnew 108 = .ok (.getfield 30, 3) := by decide +kernel
theorem dX3_scanAnew_111 : decode cX3_scanAnew 111 = .ok (.invokevirtual 100, 3) := by decide +kernel
theorem dX3_scanAnew_114 : decode cX3_scanAnew 114 = .ok (.ifCond .eq 6, 3) := by decide +kernel
theorem dX3_scanAnew_117 : decode cX3_scanAnew 117 = .ok (.goto 18, 3) := by decide +kernel
theorem dX3_scanAnew_120 : decode cX3_scanAnew 120 = .ok (.aload_n 0, 1) := by decide +kernel
theorem dX3_scanAnew_121 : decode cX3_scanAnew 121 = .ok (.getfield 30, 3) := by decide +kernel
theorem dX3_scanAnew_124 : decode cX3_scanAnew 124 = .ok (.invokevirtual 116, 3) := by decide +kernel
theorem dX3_scanAnew_127 : decode cX3_scanAnew 127 = .ok (.istore 5, 2) := by decide +kernel
theorem dX3_scanAnew_129 : decode cX3_scanAnew 129 = .ok (.iinc 6 1, 3) := by decide +kernel
theorem dX3_scanAnew_132 : decode cX3_scanAnew 132 = .ok (.goto (-105), 3) := by decide +kernel
theorem dX3_scanAnew_135 : decode cX3_scanAnew 135 = .ok (.aload_n 0, 1) := by decide +kernel
theorem dX3_scanAnew_136 : decode cX3_scanAnew 136 = .ok (.getfield 26, 3) := by decide +kernel
theorem dX3_scanAnew_139 : decode cX3_scanAnew 139 = .ok (.astore 6, 2) := by decide +kernel
theorem dX3_scanAnew_141 : decode cX3_scanAnew 141 = .ok (.aload_n 0, 1) := by decide +kernel
theorem dX3_scanAnew_142 : decode cX3_scanAnew 142 = .ok (.aload_n 0, 1) := by decide +kernel
theorem dX3_scanAnew_143 : decode cX3_scanAnew 143 = .ok (.getfield 30, 3) := by decide +kernel
theorem dX3_scanAnew_146 : decode cX3_scanAnew 146 = .ok (.putfield 26, 3) := by decide +kernel
theorem dX3_scanAnew_149 : decode cX3_scanAnew 149 = .ok (.aload_n 0, 1) := by decide +kernel
theorem dX3_scanAnew_150 : decode cX3_scanAnew 150 = .ok (.aload 6, 2) := by decide +kernel
theorem dX3_scanAnew_152 : decode cX3_scanAnew 152 = .ok (.putfield 30, 3) := by decide +kernel
theorem dX3_scanAnew_155 : decode cX3_scanAnew 155 = .ok (.return_, 1) := by decide +kernel
theorem dX3_scanOne_0 : decode cX3_scanOne 0 = .ok (.iconst 0, 1) := by decide +kernel
theorem dX3_scanOne_1 : decode cX3_scanOne 1 = .ok (.istore_n 2, 1) := by decide +kernel
theorem dX3_scanOne_2 : decode cX3_scanOne 2 = .ok (.iconst 0, 1) := by decide +kernel
theorem dX3_scanOne_3 : decode cX3_scanOne 3 = .ok (.istore_n 3, 1) := by decide +kernel
theorem dX3_scanOne_4 : decode cX3_scanOne 4 = .ok (.iconst 0, 1) := by decide +kernel
theorem dX3_scanOne_5 : decode cX3_scanOne 5 = .ok (.istore 4, 2) := by decide +kernel
theorem dX3_scanOne_7 : decode cX3_scanOne 7 = .ok (.iconst (-1), 1) := by decide +kernel
theorem dX3_scanOne_8 : decode cX3_scanOne 8 = .ok (.istore 5, 2) := by decide +kernel
theorem dX3_scanOne_10 : decode cX3_scanOne 10 = .ok (.iload_n 2, 1) := by decide +kernel
theorem dX3_scanOne_11 : decode cX3_scanOne 11 = .ok (.iconst (-1), 1) := by decide +kernel
theorem dX3_scanOne_12 : decode cX3_scanOne 12 = .ok (.if_icmp .eq 60, 3) := by decide +kernel
theorem dX3_scanOne_15 : decode cX3_scanOne 15 = .ok (.iload_n 3, 1) := by decide +kernel
theorem dX3_scanOne_16 : decode cX3_scanOne 16 = .ok (.sipush 400, 3) := by decide +kernel
theorem dX3_scanOne_19 : decode cX3_scanOne 19 = .ok (.if_icmp .gt 53, 3) := by decide +kernel
theorem dX3_scanOne_22 : decode cX3_scanOne 22 = .ok (.aload_n 0, 1) := by decide +kernel
theorem dX3_scanOne_23 : decode cX3_scanOne 23 = .ok (.getfield 10, 3) := by decide +kernel
theorem dX3_scanOne_26 : decode cX3_scanOne 26 = .ok (.iload_n 2, 1) := by decide +kernel
theorem dX3_scanOne_27 : decode cX3_scanOne 27 = .ok (.aload_n 0, 1) := by decide +kernel
theorem dX3_scanOne_28 : decode cX3_scanOne 28 = .ok (.getfield 19, 3) := by decide +kernel
theorem dX3_scanOne_31 : decode cX3_scanOne 31 = .ok (.iload_n 1, 1) := by decide +kernel
theorem dX3_scanOne_32 : decode cX3_scanOne 32 = .ok (.iload_n 3, 1) := by decide +kernel
theorem dX3_scanOne_33 : decode cX3_scanOne 33 = .ok (.iadd, 1) := by decide +kernel
theorem dX3_scanOne_34 : decode cX3_scanOne 34 = .ok (.invokevirtual 96, 3) := by decide +kernel
theorem dX3_scanOne_37 : decode cX3_scanOne 37 = .ok (.invokevirtual 131, 3) := by decide +kernel
theorem dX3_scanOne_40 : decode cX3_scanOne 40 = .ok (.istore_n 2, 1) := by decide +kernel
theorem dX3_scanOne_41 : decode cX3_scanOne 41 = .ok (.iinc 3 1, 3) := by decide +kernel
theorem dX3_scanOne_44 : decode cX3_scanOne 44 = .ok (.aload_n 0, 1) := by decide +kernel
theorem dX3_scanOne_45 : decode cX3_scanOne 45 = .ok (.getfield 10, 3) := by decide +kernel
theorem dX3_scanOne_48 : decode cX3_scanOne 48 = .ok (.iload_n 2, 1) := by decide +kernel
theorem dX3_scanOne_49 : decode cX3_scanOne 49 = .ok (.invokevirtual 134, 3) := by decide +kernel
theorem dX3_scanOne_52 : decode cX3_scanOne 52 = .ok (.iconst (-1), 1) := by decide +kernel
theorem dX3_scanOne_53 : decode cX3_scanOne 53 = .ok (.if_icmp .eq (-43), 3) := by decide +kernel
theorem dX3_scanOne_56 : decode cX3_scanOne 56 = .ok (.iload_n 3, 1) := by decide +kernel
theorem dX3_scanOne_57 : decode cX3_scanOne 57 = .ok (.istore 4, 2) := by decide +kernel
theorem dX3_scanOne_59 : decode cX3_scanOne 59 = .ok (.aload_n 0, 1) := by decide +kernel
theorem dX3_scanOne_60 : decode cX3_scanOne 60 = .ok (.getfield 10, 3) := by decide +kernel
theorem dX3_scanOne_63 : decode cX3_scanOne 63 = .ok (.iload_n 2, 1) := by decide +kernel
theorem dX3_scanOne_64 : decode cX3_scanOne 64 = .ok (.invokevirtual 134, 3) := by decide +kernel
theorem dX3_scanOne_67 : decode cX3_scanOne 67 = .ok (.istore 5, 2) := by decide +kernel
theorem dX3_scanOne_69 : decode cX3_scanOne 69 = .ok (.goto (-59), 3) := by decide +kernel
theorem dX3_scanOne_72 : decode cX3_scanOne 72 = .ok (.aload_n 0, 1) := by decide +kernel
theorem dX3_scanOne_73 : decode cX3_scanOne 73 = .ok (.getfield 30, 3) := by decide +kernel
theorem dX3_scanOne_76 : decode cX3_scanOne 76 = .ok (.iload_n 1, 1) := by decide +kernel
theorem dX3_scanOne_77 : decode cX3_scanOne 77 = .ok (.iload 4, 2) := by decide +kernel
theorem dX3_scanOne_79 : decode cX3_scanOne 79 = .ok (.iload 5, 2) := by decide +kernel
theorem dX3_scanOne_81 : decode cX3_scanOne 81 = .ok (.iload_n 3, 1) := by decide +kernel
theorem dX3_scanOne_82 : decode cX3_scanOne 82 = .ok (.invokevirtual 137, 3) := by decide +kernel
theorem dX3_scanOne_85 : decode cX3_scanOne 85 = .ok (.aload_n 0, 1) := by decide +kernel
theorem dX3_scanOne_86 : decode cX3_scanOne 86 = .ok (.dup, 1) := by decide +kernel
theorem dX3_scanOne_87 : decode cX3_scanOne 87 = .ok (.getfield 64, 3) := by decide +kernel
theorem dX3_scanOne_90 : decode cX3_scanOne 90 = .ok (.iload_n 3, 1) := by decide +kernel
theorem dX3_scanOne_91 : decode cX3_scanOne 91 = .ok (.iadd, 1) := by decide +kernel
theorem dX3_scanOne_92 : decode cX3_scanOne 92 = .ok (.putfield 64, 3) := by decide +kernel
theorem dX3_scanOne_95 : decode cX3_scanOne 95 = .ok (.iload 4, 2) := by decide +kernel
theorem dX3_scanOne_97 : decode cX3_scanOne 97 = .ok (.ifCond .le 13, 3) := by decide +kernel
theorem dX3_scanOne_100 : decode cX3_scanOne 100 = .ok (.aload_n 0, 1) := by decide +kernel
theorem dX3_scanOne_101 : decode cX3_scanOne 101 = .ok (.dup, 1) := by decide +kernel
theorem dX3_scanOne_102 : decode cX3_scanOne 102 = .ok (.getfield 68, 3) := by decide +kernel
theorem dX3_scanOne_105 : decode cX3_scanOne 105 = .ok (.iconst 1, 1) := by decide +kernel
theorem dX3_scanOne_106 : decode cX3_scanOne 106 = .ok (.iadd, 1) := by decide +kernel
theorem dX3_scanOne_107 : decode cX3_scanOne 107 = .ok (.putfield 68, 3) := by decide +kernel
theorem dX3_scanOne_110 : decode cX3_scanOne 110 = .ok (.return_, 1) := by decide +kernel
end
section
theorem dX4_init_0 : decode cX4_init 0 = .ok (.aload_n 0, 1) := by decide +kernel
theorem dX4_init_1 : decode cX4_init 1 = .ok (.invokespecial 1, 3) := by decide +kernel
theorem dX4_init_4 : decode cX4_init 4 = .ok (.aload_n 0, 1) := by decide +kernel
theorem dX4_init_5 : decode cX4_init 5 = .ok (.sipush 200, 3) := by decide +kernel
theorem dX4_init_8 : decode cX4_init 8 = .ok (.newarray .int, 2) := by decide +kernel
theorem dX4_init_10 : decode cX4_init 10 = .ok (.putfield 7, 3) := by decide +kernel
theorem dX4_init_13 : decode cX4_init 13 = .ok (.aload_n 0, 1) := by decide +kernel
theorem dX4_init_14 : decode cX4_init 14 = .ok (.bipush 20, 2) := by decide +kernel
theorem dX4_init_16 : decode cX4_init 16 = .ok (.newarray .int, 2) := by decide +kernel
theorem dX4_init_18 : decode cX4_init 18 = .ok (.putfield 13, 3) := by decide +kernel
theorem dX4_init_21 : decode cX4_init 21 = .ok (.aload_n 0, 1) := by decide +kernel
theorem dX4_init_22 : decode cX4_init 22 = .ok (.sipush 400, 3) := by decide +kernel
theorem dX4_init_25 : decode cX4_init 25 = .ok (.newarray .int, 2) := by decide +kernel
theorem dX4_init_27 : decode cX4_init 27 = .ok (.putfield 16, 3) := by decide +kernel
theorem dX4_init_30 : decode cX4_init 30 = .ok (.aload_n 0, 1) := by decide +kernel
theorem dX4_init_31 : decode cX4_init 31 = .ok (.sipush 400, 3) := by decide +kernel
theorem dX4_init_34 : decode cX4_init 34 = .ok (.newarray .int, 2) := by decide +kernel
theorem dX4_init_36 : decode cX4_init 36 = .ok (.putfield 19, 3) := by decide +kernel
theorem dX4_init_39 : decode cX4_init 39 = .ok (.aload_n 0, 1) := by decide +kernel
theorem dX4_init_40 : decode cX4_init 40 = .ok (.sipush 400, 3) := by decide +kernel
theorem dX4_init_43 : decode cX4_init 43 = .ok (.newarray .int, 2) := by decide +kernel
theorem dX4_init_45 : decode cX4_init 45 = .ok (.putfield 22, 3) := by decide +kernel
theorem dX4_init_48 : decode cX4_init 48 = .ok (.aload_n 0, 1) := by decide +kernel
theorem dX4_init_49 : decode cX4_init 49 = .ok (.sipush 400, 3) := by decide +kernel
theorem dX4_init_52 : decode cX4_init 52 = .ok (.newarray .int, 2) := by decide +kernel
theorem dX4_init_54 : decode cX4_init 54 = .ok (.putfield 25, 3) := by decide +kernel
theorem dX4_init_57 : decode cX4_init 57 = .ok (.aload_n 0, 1) := by decide +kernel
theorem dX4_init_58 : decode cX4_init 58 = .ok (.sipush 400, 3) := by decide +kernel
theorem dX4_init_61 : decode cX4_init 61 = .ok (.newarray .int, 2) := by decide +kernel
theorem dX4_init_63 : decode cX4_init 63 = .ok (.putfield 28, 3) := by decide +kernel
theorem dX4_init_66 : decode cX4_init 66 = .ok (.aload_n 0, 1) := by decide +kernel
theorem dX4_init_67 : decode cX4_init 67 = .ok (.iconst (-1), 1) := by decide +kernel
theorem dX4_init_68 : decode cX4_init 68 = .ok (.putfield 31, 3) := by decide +kernel
theorem dX4_init_71 : decode cX4_init 71 = .ok (.aload_n 0, 1) := by decide +kernel
theorem dX4_init_72 : decode cX4_init 72 = .ok (.sipush 400, 3) := by decide +kernel
theorem dX4_init_75 : decode cX4_init 75 = .ok (.newarray .int, 2) := by decide +kernel
theorem dX4_init_77 : decode cX4_init 77 = .ok (.putfield 35, 3) := by decide +kernel
theorem dX4_init_80 : decode cX4_init 80 = .ok (.aload_n 0, 1) := by decide +kernel
theorem dX4_init_81 : decode cX4_init 81 = .ok (.invokevirtual 38, 3) := by decide +kernel
theorem dX4_init_84 : decode cX4_init 84 = .ok (.return_, 1) := by decide +kernel
theorem dX4_forget_0 : decode cX4_forget 0 = .ok (.iconst 0, 1) := by decide +kernel
theorem dX4_forget_1 : decode cX4_forget 1 = .ok (.istore_n 1, 1) := by decide +kernel
theorem dX4_forget_2 : decode cX4_forget 2 = .ok (.iload_n 1, 1) := by decide +kernel
theorem dX4_forget_3 : decode cX4_forget 3 = .ok (.sipush 200, 3) := by decide +kernel
theorem dX4_forget_6 : decode cX4_forget 6 = .ok (.if_icmp .ge 16, 3) := by decide +kernel
theorem dX4_forget_9 : decode cX4_forget 9 = .ok (.aload_n 0, 1) := by decide +kernel
theorem dX4_forget_10 : decode cX4_forget 10 = .ok (.getfield 7, 3) := by decide +kernel
theorem dX4_forget_13 : decode cX4_forget 13 = .ok (.iload_n 1, 1) := by decide +kernel
theorem dX4_forget_14 : decode cX4_forget 14 = .ok (.iconst (-1), 1) := by decide +kernel
theorem dX4_forget_15 : decode cX4_forget 15 = .ok (.iastore, 1) := by decide +kernel
theorem dX4_forget_16 : decode cX4_forget 16 = .ok (.iinc 1 1, 3) := by decide +kernel
theorem dX4_forget_19 : decode cX4_forget 19 = .ok (.goto (-17), 3) := by decide +kernel
theorem dX4_forget_22 : decode cX4_forget 22 = .ok (.iconst 0, 1) := by decide +kernel
theorem dX4_forget_23 : decode cX4_forget 23 = .ok (.istore_n 1, 1) := by decide +kernel
theorem dX4_forget_24 : decode cX4_forget 24 = .ok (.iload_n 1, 1) := by decide +kernel
theorem dX4_forget_25 : decode cX4_forget 25 = .ok (.bipush 20, 2) := by decide +kernel
theorem dX4_forget_27 : decode cX4_forget 27 = .ok (.if_icmp .ge 16, 3) := by decide +kernel
theorem dX4_forget_30 : decode cX4_forget 30 = .ok (.aload_n 0, 1) := by decide +kernel
theorem dX4_forget_31 : decode cX4_forget 31 = .ok (.getfield 13, 3) := by decide +kernel
theorem dX4_forget_34 : decode cX4_forget 34 = .ok (.iload_n 1, 1) := by decide +kernel
theorem dX4_forget_35 : decode cX4_forget 35 = .ok (.iconst (-1), 1) := by decide +kernel
theorem dX4_forget_36 : decode cX4_forget 36 = .ok (.iastore, 1) := by decide +kernel
theorem dX4_forget_37 : decode cX4_forget 37 = .ok (.iinc 1 1, 3) := by decide +kernel
theorem dX4_forget_40 : decode cX4_forget 40 = .ok (.goto (-16), 3) := by decide +kernel
theorem dX4_forget_43 : decode cX4_forget 43 = .ok (.aload_n 0, 1) := by decide +kernel
theorem dX4_forget_44 : decode cX4_forget 44 = .ok (.iconst 0, 1) := by decide +kernel
theorem dX4_forget_45 : decode cX4_forget 45 = .ok (.putfield 41, 3) := by decide +kernel
theorem dX4_forget_48 : decode cX4_forget 48 = .ok (.aload_n 0, 1) := by decide +kernel
theorem dX4_forget_49 : decode cX4_forget 49 = .ok (.iconst 0, 1) := by decide +kernel
theorem dX4_forget_50 : decode cX4_forget 50 = .ok (.putfield 44, 3) := by decide +kernel
theorem dX4_forget_53 : decode cX4_forget 53 = .ok (.aload_n 0, 1) := by decide +kernel
theorem dX4_forget_54 : decode cX4_forget 54 = .ok (.iconst (-1), 1) := by decide +kernel
theorem dX4_forget_55 : decode cX4_forget 55 = .ok (.putfield 31, 3) := by decide +kernel
theorem dX4_forget_58 : decode cX4_forget 58 = .ok (.aload_n 0, 1) := by decide +kernel
theorem dX4_forget_59 : decode cX4_forget 59 = .ok (.iconst 0, 1) := by decide +kernel
theorem dX4_forget_60 : decode cX4_forget 60 = .ok (.putfield 47, 3) := by decide +kernel
theorem dX4_forget_63 : decode cX4_forget 63 = .ok (.aload_n 0, 1) := by decide +kernel
theorem dX4_forget_64 : decode cX4_forget 64 = .ok (.iconst 0, 1) := by decide +kernel
theorem dX4_forget_65 : decode cX4_forget 65 = .ok (.putfield 50, 3) := by decide +kernel
theorem dX4_forget_68 : decode cX4_forget 68 = .ok (.aload_n 0, 1) := by decide +kernel
theorem dX4_forget_69 : decode cX4_forget 69 = .ok (.iconst 0, 1) := by decide +kernel
theorem dX4_forget_70 : decode cX4_forget 70 = .ok (.putfield 53, 3) := by decide +kernel
theorem dX4_forget_73 : decode cX4_forget 73 = .ok (.aload_n 0, 1) := by decide +kernel
theorem dX4_forget_74 : decode cX4_forget 74 = .ok (.iconst 0, 1) := by decide +kernel
theorem dX4_forget_75 : decode cX4_forget 75 = .ok (.putfield 56, 3) := by decide +kernel
theorem dX4_forget_78 : decode cX4_forget 78 = .ok (.return_, 1) := by decide +kernel
theorem dX4_arrow_0 : decode cX4_arrow 0 = .ok (.aload_n 0, 1) := by decide +kernel
theorem dX4_arrow_1 : decode cX4_arrow 1 = .ok (.getfield 41, 3) := by decide +kernel
theorem dX4_arrow_4 : decode cX4_arrow 4 = .ok (.ifCond .gt 34, 3) := by decide +kernel
theorem dX4_arrow_7 : decode cX4_arrow 7 = .ok (.iload_n 1, 1) := by decide +kernel
theorem dX4_arrow_8 : decode cX4_arrow 8 = .ok (.ifCond .lt 30, 3) := by decide +kernel
theorem dX4_arrow_11 : decode cX4_arrow 11 = .ok (.iload_n 1, 1) := by decide +kernel
theorem dX4_arrow_12 : decode cX4_arrow 12 = .ok (.bipush 20, 2) := by decide +kernel
theorem dX4_arrow_14 : decode cX4_arrow 14 = .ok (.if_icmp .ge 24, 3) := by decide +kernel
theorem dX4_arrow_17 : decode cX4_arrow 17 = .ok (.iload_n 2, 1) := by decide +kernel
theorem dX4_arrow_18 : decode cX4_arrow 18 = .ok (.ifCond .lt 20, 3) := by decide +kernel
theorem dX4_arrow_21 : decode cX4_arrow 21 = .ok (.iload_n 2, 1) := by decide +kernel
theorem dX4_arrow_22 : decode cX4_arrow 22 = .ok (.bipush 10, 2) := by decide +kernel
theorem dX4_arrow_24 : decode cX4_arrow 24 = .ok (.if_icmp .ge 14, 3) := by decide +kernel
theorem dX4_arrow_27 : decode cX4_arrow 27 = .ok (.iload_n 3, 1) := by decide +kernel
theorem dX4_arrow_28 : decode cX4_arrow 28 = .ok (.iconst (-1), 1) := by decide +kernel
theorem dX4_arrow_29 : decode cX4_arrow 29 = .ok (.if_icmp .lt 9, 3) := by decide +kernel
theorem dX4_arrow_32 : decode cX4_arrow 32 = .ok (.iload_n 3, 1) := by decide +kernel
theorem dX4_arrow_33 : decode cX4_arrow 33 = .ok (.bipush 20, 2) := by decide +kernel
theorem dX4_arrow_35 : decode cX4_arrow 35 = .ok (.if_icmp .lt 5, 3) := by decide +kernel
theorem dX4_arrow_38 : decode cX4_arrow 38 = .ok (.iconst 0, 1) := by decide +kernel
theorem dX4_arrow_39 : decode cX4_arrow 39 = .ok (.ireturn, 1) := by decide +kernel
theorem dX4_arrow_40 : decode cX4_arrow 40 = .ok (.aload_n 0, 1) := by decide +kernel
theorem dX4_arrow_41 : decode cX4_arrow 41 = .ok (.getfield 7, 3) := by decide +kernel
theorem dX4_arrow_44 : decode cX4_arrow 44 = .ok (.bipush 10, 2) := by decide +kernel
theorem dX4_arrow_46 : decode cX4_arrow 46 = .ok (.iload_n 1, 1) := by decide +kernel
theorem dX4_arrow_47 : decode cX4_arrow 47 = .ok (.imul, 1) := by decide +kernel
theorem dX4_arrow_48 : decode cX4_arrow 48 = .ok (.iload_n 2, 1) := by decide +kernel
theorem dX4_arrow_49 : decode cX4_arrow 49 = .ok (.iadd, 1) := by decide +kernel
theorem dX4_arrow_50 : decode cX4_arrow 50 = .ok (.iload_n 3, 1) := by decide +kernel
theorem dX4_arrow_51 : decode cX4_arrow 51 = .ok (.iastore, 1) := by decide +kernel
theorem dX4_arrow_52 : decode cX4_arrow 52 = .ok (.iconst 1, 1) := by decide +kernel
theorem dX4_arrow_53 : decode cX4_arrow 53 = .ok (.ireturn, 1) := by decide +kernel
theorem dX4_kind_0 : decode cX4_kind 0 = .ok (.aload_n 0, 1) := by decide +kernel
theorem dX4_kind_1 : decode cX4_kind 1 = .ok (.getfield 41, 3) := by decide +kernel
theorem dX4_kind_4 : decode cX4_kind 4 = .ok (.ifCond .gt 24, 3) := by decide +kernel
theorem dX4_kind_7 : decode cX4_kind 7 = .ok (.iload_n 1, 1) := by decide +kernel
theorem dX4_kind_8 : decode cX4_kind 8 = .ok (.ifCond .lt 20, 3) := by decide +kernel
theorem dX4_kind_11 : decode cX4_kind 11 = .ok (.iload_n 1, 1) := by decide +kernel
theorem dX4_kind_12 : decode cX4_kind 12 = .ok (.bipush 20, 2) := by decide +kernel
theorem dX4_kind_14 : decode cX4_kind 14 = .ok (.if_icmp .ge 14, 3) := by decide +kernel
theorem dX4_kind_17 : decode cX4_kind 17 = .ok (.iload_n 2, 1) := by decide +kernel
theorem dX4_kind_18 : decode cX4_kind 18 = .ok (.iconst (-1), 1) := by decide +kernel
theorem dX4_kind_19 : decode cX4_kind 19 = .ok (.if_icmp .lt 9, 3) := by decide +kernel
theorem dX4_kind_22 : decode cX4_kind 22 = .ok (.iload_n 2, 1) := by decide +kernel
theorem dX4_kind_23 : decode cX4_kind 23 = .ok (.bipush 99, 2) := by decide +kernel
theorem dX4_kind_25 : decode cX4_kind 25 = .ok (.if_icmp .le 5, 3) := by decide +kernel
theorem dX4_kind_28 : decode cX4_kind 28 = .ok (.iconst 0, 1) := by decide +kernel
theorem dX4_kind_29 : decode cX4_kind 29 = .ok (.ireturn, 1) := by decide +kernel
theorem dX4_kind_30 : decode cX4_kind 30 = .ok (.aload_n 0, 1) := by decide +kernel
theorem dX4_kind_31 : decode cX4_kind 31 = .ok (.getfield 13, 3) := by decide +kernel
theorem dX4_kind_34 : decode cX4_kind 34 = .ok (.iload_n 1, 1) := by decide +kernel
theorem dX4_kind_35 : decode cX4_kind 35 = .ok (.iload_n 2, 1) := by decide +kernel
theorem dX4_kind_36 : decode cX4_kind 36 = .ok (.iastore, 1) := by decide +kernel
theorem dX4_kind_37 : decode cX4_kind 37 = .ok (.iconst 1, 1) := by decide +kernel
theorem dX4_kind_38 : decode cX4_kind 38 = .ok (.ireturn, 1) := by decide +kernel
theorem dX4_scan_0 : decode cX4_scan 0 = .ok (.aload_n 0, 1) := by decide +kernel
theorem dX4_scan_1 : decode cX4_scan 1 = .ok (.iconst 0, 1) := by decide +kernel
theorem dX4_scan_2 : decode cX4_scan 2 = .ok (.putfield 59, 3) := by decide +kernel
theorem dX4_scan_5 : decode cX4_scan 5 = .ok (.aload_n 0, 1) := by decide +kernel
theorem dX4_scan_6 : decode cX4_scan 6 = .ok (.iconst (-1), 1) := by decide +kernel
theorem dX4_scan_7 : decode cX4_scan 7 = .ok (.putfield 62, 3) := by decide +kernel
theorem dX4_scan_10 : decode cX4_scan 10 = .ok (.aload_n 0, 1) := by decide +kernel
theorem dX4_scan_11 : decode cX4_scan 11 = .ok (.iconst 0, 1) := by decide +kernel
theorem dX4_scan_12 : decode cX4_scan 12 = .ok (.putfield 65, 3) := by decide +kernel
theorem dX4_scan_15 : decode cX4_scan 15 = .ok (.iconst 0, 1) := by decide +kernel
theorem dX4_scan_16 : decode cX4_scan 16 = .ok (.istore_n 2, 1) := by decide +kernel
theorem dX4_scan_17 : decode cX4_scan 17 = .ok (.iload_n 1, 1) := by decide +kernel
theorem dX4_scan_18 : decode cX4_scan 18 = .ok (.istore_n 3, 1) := by decide +kernel
theorem dX4_scan_19 : decode cX4_scan 19 = .ok (.iload_n 2, 1) := by decide +kernel
theorem dX4_scan_20 : decode cX4_scan 20 = .ok (.ifCond .lt 78, 3) := by decide +kernel
theorem dX4_scan_23 : decode cX4_scan 23 = .ok (.aload_n 0, 1) := by decide +kernel
theorem dX4_scan_24 : decode cX4_scan 24 = .ok (.dup, 1) := by decide +kernel
theorem dX4_scan_25 : decode cX4_scan 25 = .ok (.getfield 65, 3) := by decide +kernel
theorem dX4_scan_28 : decode cX4_scan 28 = .ok (.iconst 1, 1) := by decide +kernel
theorem dX4_scan_29 : decode cX4_scan 29 = .ok (.iadd, 1) := by decide +kernel
theorem dX4_scan_30 : decode cX4_scan 30 = .ok (.putfield 65, 3) := by decide +kernel
theorem dX4_scan_33 : decode cX4_scan 33 = .ok (.iload_n 3, 1) := by decide +kernel
theorem dX4_scan_34 : decode cX4_scan 34 = .ok (.aload_n 0, 1) := by decide +kernel
theorem dX4_scan_35 : decode cX4_scan 35 = .ok (.getfield 41, 3) := by decide +kernel
theorem dX4_scan_38 : decode cX4_scan 38 = .ok (.if_icmp .ge 22, 3) := by decide +kernel
theorem dX4_scan_41 : decode cX4_scan 41 = .ok (.aload_n 0, 1) := by decide +kernel
theorem dX4_scan_42 : decode cX4_scan 42 = .ok (.getfield 7, 3) := by decide +kernel
theorem dX4_scan_45 : decode cX4_scan 45 = .ok (.bipush 10, 2) := by decide +kernel
theorem dX4_scan_47 : decode cX4_scan 47 = .ok (.iload_n 2, 1) := by decide +kernel
theorem dX4_scan_48 : decode cX4_scan 48 = .ok (.imul, 1) := by decide +kernel
theorem dX4_scan_49 : decode cX4_scan 49 = .ok (.aload_n 0, 1) := by decide +kernel
theorem dX4_scan_50 : decode cX4_scan 50 = .ok (.getfield 16, 3) := by decide +kernel
theorem dX4_scan_53 : decode cX4_scan 53 = .ok (.iload_n 3, 1) := by decide +kernel
theorem dX4_scan_54 : decode cX4_scan 54 = .ok (.iaload, 1) := by decide +kernel
theorem dX4_scan_55 : decode cX4_scan 55 = .ok (.iadd, 1) := by decide +kernel
theorem dX4_scan_56 : decode cX4_scan 56 = .ok (.iaload, 1) := by decide +kernel
theorem dX4_scan_57 : decode cX4_scan 57 = .ok (.goto 4, 3) := by decide +kernel
theorem dX4_scan_60 : decode cX4_scan 60 = .ok (.iconst (-1), 1) := by decide +kernel
theorem dX4_scan_61 : decode cX4_scan 61 = .ok (.istore_n 2, 1) := by decide +kernel
theorem dX4_scan_62 : decode cX4_scan 62 = .ok (.iinc 3 1, 3) := by decide +kernel
theorem dX4_scan_65 : decode cX4_scan 65 = .ok (.iload_n 2, 1) := by decide +kernel
theorem dX4_scan_66 : decode cX4_scan 66 = .ok (.ifCond .lt (-47), 3) := by decide +kernel
theorem dX4_scan_69 : decode cX4_scan 69 = .ok (.aload_n 0, 1) := by decide +kernel
theorem dX4_scan_70 : decode cX4_scan 70 = .ok (.getfield 13, 3) := by decide +kernel
theorem dX4_scan_73 : decode cX4_scan 73 = .ok (.iload_n 2, 1) := by decide +kernel
theorem dX4_scan_74 : decode cX4_scan 74 = .ok (.iaload, 1) := by decide +kernel
theorem dX4_scan_75 : decode cX4_scan 75 = .ok (.ifCond .lt (-56), 3) := by decide +kernel
theorem dX4_scan_78 : decode cX4_scan 78 = .ok (.aload_n 0, 1) := by decide +kernel
theorem dX4_scan_79 : decode cX4_scan 79 = .ok (.iload_n 3, 1) := by decide +kernel
theorem dX4_scan_80 : decode cX4_scan 80 = .ok (.iload_n 1, 1) := by decide +kernel
theorem dX4_scan_81 : decode cX4_scan 81 = .ok (.isub, 1) := by decide +kernel
theorem dX4_scan_82 : decode cX4_scan 82 = .ok (.putfield 59, 3) := by decide +kernel
theorem dX4_scan_85 : decode cX4_scan 85 = .ok (.aload_n 0, 1) := by decide +kernel
theorem dX4_scan_86 : decode cX4_scan 86 = .ok (.aload_n 0, 1) := by decide +kernel
theorem dX4_scan_87 : decode cX4_scan 87 = .ok (.getfield 13, 3) := by decide +kernel
theorem dX4_scan_90 : decode cX4_scan 90 = .ok (.iload_n 2, 1) := by decide +kernel
theorem dX4_scan_91 : decode cX4_scan 91 = .ok (.iaload, 1) := by decide +kernel
theorem dX4_scan_92 : decode cX4_scan 92 = .ok (.putfield 62, 3) := by decide +kernel
theorem dX4_scan_95 : decode cX4_scan 95 = .ok (.goto (-76), 3) := by decide +kernel
theorem dX4_scan_98 : decode cX4_scan 98 = .ok (.aload_n 0, 1) := by decide +kernel
theorem dX4_scan_99 : decode cX4_scan 99 = .ok (.getfield 59, 3) := by decide +kernel
theorem dX4_scan_102 : decode cX4_scan 102 = .ok (.ifCond .le 7, 3) := by decide +kernel
theorem dX4_scan_105 : decode cX4_scan 105 = .ok (.iconst 1, 1) := by decide +kernel
theorem dX4_scan_106 : decode cX4_scan 106 = .ok (.goto 4, 3) := by decide +kernel
theorem dX4_scan_109 : decode cX4_scan 109 = .ok (.iconst 0, 1) := by decide +kernel
theorem dX4_scan_110 : decode cX4_scan 110 = .ok (.ireturn, 1) := by decide +kernel
theorem dX4_scanAll_0 : decode cX4_scanAll 0 = .ok (.aload_n 0, 1) := by decide +kernel
theorem dX4_scanAll_1 : decode cX4_scanAll 1 = .ok (.iconst 0, 1) := by decide +kernel
theorem dX4_scanAll_2 : decode cX4_scanAll 2 = .ok (.putfield 44, 3) := by decide +kernel
theorem dX4_scanAll_5 : decode cX4_scanAll 5 = .ok (.aload_n 0, 1) := by decide +kernel
theorem dX4_scanAll_6 : decode cX4_scanAll 6 = .ok (.iconst (-1), 1) := by decide +kernel
theorem dX4_scanAll_7 : decode cX4_scanAll 7 = .ok (.putfield 31, 3) := by decide +kernel
theorem dX4_scanAll_10 : decode cX4_scanAll 10 = .ok (.aload_n 0, 1) := by decide +kernel
theorem dX4_scanAll_11 : decode cX4_scanAll 11 = .ok (.iconst 0, 1) := by decide +kernel
theorem dX4_scanAll_12 : decode cX4_scanAll 12 = .ok (.putfield 47, 3) := by decide +kernel
theorem dX4_scanAll_15 : decode cX4_scanAll 15 = .ok (.iconst 0, 1) := by decide +kernel
theorem dX4_scanAll_16 : decode cX4_scanAll 16 = .ok (.istore_n 1, 1) := by decide +kernel
theorem dX4_scanAll_17 : decode cX4_scanAll 17 = .ok (.iload_n 1, 1) := by decide +kernel
theorem dX4_scanAll_18 : decode cX4_scanAll 18 = .ok (.aload_n 0, 1) := by decide +kernel
theorem dX4_scanAll_19 : decode cX4_scanAll 19 = .ok (.getfield 41, 3) := by decide +kernel
theorem dX4_scanAll_22 : decode cX4_scanAll 22 = .ok (.if_icmp .ge 103, 3) := by decide +kernel
theorem dX4_scanAll_25 : decode cX4_scanAll 25 = .ok (.aload_n 0, 1) := by decide +kernel
theorem dX4_scanAll_26 : decode cX4_scanAll 26 = .ok (.getfield 31, 3) := by decide +kernel
theorem dX4_scanAll_29 : decode cX4_scanAll 29 = .ok (.ifCond .ge 96, 3) := by decide +kernel
theorem dX4_scanAll_32 : decode cX4_scanAll 32 = .ok (.aload_n 0, 1) := by decide +kernel
theorem dX4_scanAll_33 : decode cX4_scanAll 33 = .ok (.iload_n 1, 1) := by decide +kernel
theorem dX4_scanAll_34 : decode cX4_scanAll 34 = .ok (.invokevirtual 68, 3) := by decide +kernel
theorem dX4_scanAll_37 : decode cX4_scanAll 37 = .ok (.ifCond .eq 72, 3) := by decide +kernel
theorem dX4_scanAll_40 : decode cX4_scanAll 40 = .ok (.aload_n 0, 1) := by decide +kernel
theorem dX4_scanAll_41 : decode cX4_scanAll 41 = .ok (.getfield 19, 3) := by decide +kernel
theorem dX4_scanAll_44 : decode cX4_scanAll 44 = .ok (.aload_n 0, 1) := by decide +kernel
theorem dX4_scanAll_45 : decode cX4_scanAll 45 = .ok (.getfield 44, 3) := by decide +kernel
theorem dX4_scanAll_48 : decode cX4_scanAll 48 = .ok (.iload_n 1, 1) := by decide +kernel
theorem dX4_scanAll_49 : decode cX4_scanAll 49 = .ok (.iastore, 1) := by decide +kernel
theorem dX4_scanAll_50 : decode cX4_scanAll 50 = .ok (.aload_n 0, 1) := by decide +kernel
theorem dX4_scanAll_51 : decode cX4_scanAll 51 = .ok (.getfield 22, 3) := by decide +kernel
theorem dX4_scanAll_54 : decode cX4_scanAll 54 = .ok (.aload_n 0, 1) := by decide +kernel
theorem dX4_scanAll_55 : decode cX4_scanAll 55 = .ok (.getfield 44, 3) := by decide +kernel
theorem dX4_scanAll_58 : decode cX4_scanAll 58 = .ok (.aload_n 0, 1) := by decide +kernel
theorem dX4_scanAll_59 : decode cX4_scanAll 59 = .ok (.getfield 59, 3) := by decide +kernel
theorem dX4_scanAll_62 : decode cX4_scanAll 62 = .ok (.iastore, 1) := by decide +kernel
theorem dX4_scanAll_63 : decode cX4_scanAll 63 = .ok (.aload_n 0, 1) := by decide +kernel
theorem dX4_scanAll_64 : decode cX4_scanAll 64 = .ok (.getfield 25, 3) := by decide +kernel
theorem dX4_scanAll_67 : decode cX4_scanAll 67 = .ok (.aload_n 0, 1) := by decide +kernel
theorem dX4_scanAll_68 : decode cX4_scanAll 68 = .ok (.getfield 44, 3) := by decide +kernel
theorem dX4_scanAll_71 : decode cX4_scanAll 71 = .ok (.aload_n 0, 1) := by decide +kernel
theorem dX4_scanAll_72 : decode cX4_scanAll 72 = .ok (.getfield 62, 3) := by decide +kernel
theorem dX4_scanAll_75 : decode cX4_scanAll 75 = .ok (.iastore, 1) := by decide +kernel
theorem dX4_scanAll_76 : decode cX4_scanAll 76 = .ok (.aload_n 0, 1) := by decide +kernel
theorem dX4_scanAll_77 : decode cX4_scanAll 77 = .ok (.getfield 28, 3) := by decide +kernel
theorem dX4_scanAll_80 : decode cX4_scanAll 80 = .ok (.aload_n 0, 1) := by decide +kernel
theorem dX4_scanAll_81 : decode cX4_scanAll 81 = .ok (.getfield 44, 3) := by decide +kernel
theorem dX4_scanAll_84 : decode cX4_scanAll 84 = .ok (.aload_n 0, 1) := by decide +kernel
theorem dX4_scanAll_85 : decode cX4_scanAll 85 = .ok (.getfield 65, 3) := by decide +kernel
theorem dX4_scanAll_88 : decode cX4_scanAll 88 = .ok (.iastore, 1) := by decide +kernel
theorem dX4_scanAll_89 : decode cX4_scanAll 89 = .ok (.aload_n 0, 1) := by decide +kernel
theorem dX4_scanAll_90 : decode cX4_scanAll 90 = .ok (.dup, 1) := by decide +kernel
theorem dX4_scanAll_91 : decode cX4_scanAll 91 = .ok (.getfield 44, 3) := by decide +kernel
theorem dX4_scanAll_94 : decode cX4_scanAll 94 = .ok (.iconst 1, 1) := by decide +kernel
theorem dX4_scanAll_95 : decode cX4_scanAll 95 = .ok (.iadd, 1) := by decide +kernel
theorem dX4_scanAll_96 : decode cX4_scanAll 96 = .ok (.putfield 44, 3) := by decide +kernel
theorem dX4_scanAll_99 : decode cX4_scanAll 99 = .ok (.iload_n 1, 1) := by decide +kernel
theorem dX4_scanAll_100 : decode cX4_scanAll 100 = .ok (.aload_n 0, 1) := by decide +kernel
theorem dX4_scanAll_101 : decode cX4_scanAll 101 = .ok (.getfield 59, 3) := by decide +kernel
theorem dX4_scanAll_104 : decode cX4_scanAll 104 = .ok (.iadd, 1) := by decide +kernel
theorem dX4_scanAll_105 : decode cX4_scanAll 105 = .ok (.istore_n 1, 1) := by decide +kernel
theorem dX4_scanAll_106 : decode cX4_scanAll 106 = .ok (.goto (-89), 3) := by decide +kernel
theorem dX4_scanAll_109 : decode cX4_scanAll 109 = .ok (.aload_n 0, 1) := by decide +kernel
theorem dX4_scanAll_110 : decode cX4_scanAll 110 = .ok (.iload_n 1, 1) := by decide +kernel
theorem dX4_scanAll_111 : decode cX4_scanAll 111 = .ok (.putfield 31, 3) := by decide +kernel
theorem dX4_scanAll_114 : decode cX4_scanAll 114 = .ok (.aload_n 0, 1) := by decide +kernel
theorem dX4_scanAll_115 : decode cX4_scanAll 115 = .ok (.aload_n 0, 1) := by decide +kernel
theorem dX4_scanAll_116 : decode cX4_scanAll 116 = .ok (.getfield 65, 3) := by decide +kernel
theorem dX4_scanAll_119 : decode cX4_scanAll 119 = .ok (.putfield 47, 3) := by decide +kernel
theorem dX4_scanAll_122 : decode cX4_scanAll 122 = .ok (.goto (-105), 3) := by decide +kernel
theorem dX4_scanAll_125 : decode cX4_scanAll 125 = .ok (.return_, 1) := by decide +kernel
theorem dX4_began_0 : decode cX4_began 0 = .ok (.iload_n 1, 1) := by decide +kernel
theorem dX4_began_1 : decode cX4_began 1 = .ok (.aload_n 0, 1) := by decide +kernel
theorem dX4_began_2 : decode cX4_began 2 = .ok (.getfield 72, 3) := by decide +kernel
theorem dX4_began_5 : decode cX4_began 5 = .ok (.if_icmp .eq 11, 3) := by decide +kernel
theorem dX4_began_8 : decode cX4_began 8 = .ok (.iload_n 1, 1) := by decide +kernel
theorem dX4_began_9 : decode cX4_began 9 = .ok (.aload_n 0, 1) := by decide +kernel
theorem dX4_began_10 : decode cX4_began 10 = .ok (.getfield 75, 3) := by decide +kernel
theorem dX4_began_13 : decode cX4_began 13 = .ok (.if_icmp .ne 7, 3) := by decide +kernel
theorem dX4_began_16 : decode cX4_began 16 = .ok (.iconst 1, 1) := by decide +kernel
theorem dX4_began_17 : decode cX4_began 17 = .ok (.goto 4, 3) := by decide +kernel
theorem dX4_began_20 : decode cX4_began 20 = .ok (.iconst 0, 1) := by decide +kernel
theorem dX4_began_21 : decode cX4_began 21 = .ok (.istore_n 2, 1) := by decide +kernel
theorem dX4_began_22 : decode cX4_began 22 = .ok (.iconst 0, 1) := by decide +kernel
theorem dX4_began_23 : decode cX4_began 23 = .ok (.istore_n 3, 1) := by decide +kernel
theorem dX4_began_24 : decode cX4_began 24 = .ok (.iload_n 3, 1) := by decide +kernel
theorem dX4_began_25 : decode cX4_began 25 = .ok (.aload_n 0, 1) := by decide +kernel
theorem dX4_began_26 : decode cX4_began 26 = .ok (.getfield 78, 3) := by decide +kernel
theorem dX4_began_29 : decode cX4_began 29 = .ok (.if_icmp .ge 29, 3) := by decide +kernel
theorem dX4_began_32 : decode cX4_began 32 = .ok (.iload_n 2, 1) := by decide +kernel
theorem dX4_began_33 : decode cX4_began 33 = .ok (.ifCond .ne 13, 3) := by decide +kernel
theorem dX4_began_36 : decode cX4_began 36 = .ok (.aload_n 0, 1) := by decide +kernel
theorem dX4_began_37 : decode cX4_began 37 = .ok (.getfield 35, 3) := by decide +kernel
theorem dX4_began_40 : decode cX4_began 40 = .ok (.iload_n 3, 1) := by decide +kernel
theorem dX4_began_41 : decode cX4_began 41 = .ok (.iaload, 1) := by decide +kernel
theorem dX4_began_42 : decode cX4_began 42 = .ok (.iload_n 1, 1) := by decide +kernel
theorem dX4_began_43 : decode cX4_began 43 = .ok (.if_icmp .ne 7, 3) := by decide +kernel
theorem dX4_began_46 : decode cX4_began 46 = .ok (.iconst 1, 1) := by decide +kernel
theorem dX4_began_47 : decode cX4_began 47 = .ok (.goto 4, 3) := by decide +kernel
theorem dX4_began_50 : decode cX4_began 50 = .ok (.iconst 0, 1) := by decide +kernel
theorem dX4_began_51 : decode cX4_began 51 = .ok (.istore_n 2, 1) := by decide +kernel
theorem dX4_began_52 : decode cX4_began 52 = .ok (.iinc 3 1, 3) := by decide +kernel
theorem dX4_began_55 : decode cX4_began 55 = .ok (.goto (-31), 3) := by decide +kernel
theorem dX4_began_58 : decode cX4_began 58 = .ok (.iload_n 2, 1) := by decide +kernel
theorem dX4_began_59 : decode cX4_began 59 = .ok (.ireturn, 1) := by decide +kernel
theorem dX4_edit_0 : decode cX4_edit 0 = .ok (.iload 5, 2) := by decide +kernel
theorem dX4_edit_2 : decode cX4_edit 2 = .ok (.ifCond .lt 55, 3) := by decide +kernel
theorem dX4_edit_5 : decode cX4_edit 5 = .ok (.iload 5, 2) := by decide +kernel
theorem dX4_edit_7 : decode cX4_edit 7 = .ok (.bipush 16, 2) := by decide +kernel
theorem dX4_edit_9 : decode cX4_edit 9 = .ok (.if_icmp .gt 48, 3) := by decide +kernel
theorem dX4_edit_12 : decode cX4_edit 12 = .ok (.iload_n 1, 1) := by decide +kernel
theorem dX4_edit_13 : decode cX4_edit 13 = .ok (.ifCond .lt 44, 3) := by decide +kernel
theorem dX4_edit_16 : decode cX4_edit 16 = .ok (.iload_n 2, 1) := by decide +kernel
theorem dX4_edit_17 : decode cX4_edit 17 = .ok (.ifCond .lt 40, 3) := by decide +kernel
theorem dX4_edit_20 : decode cX4_edit 20 = .ok (.iload_n 1, 1) := by decide +kernel
theorem dX4_edit_21 : decode cX4_edit 21 = .ok (.aload_n 0, 1) := by decide +kernel
theorem dX4_edit_22 : decode cX4_edit 22 = .ok (.getfield 41, 3) := by decide +kernel
theorem dX4_edit_25 : decode cX4_edit 25 = .ok (.if_icmp .gt 32, 3) := by decide +kernel
theorem dX4_edit_28 : decode cX4_edit 28 = .ok (.iload_n 2, 1) := by decide +kernel
theorem dX4_edit_29 : decode cX4_edit 29 = .ok (.aload_n 0, 1) := by decide +kernel
theorem dX4_edit_30 : decode cX4_edit 30 = .ok (.getfield 41, 3) := by decide +kernel
theorem dX4_edit_33 : decode cX4_edit 33 = .ok (.iload_n 1, 1) := by decide +kernel
theorem dX4_edit_34 : decode cX4_edit 34 = .ok (.isub, 1) := by decide +kernel
theorem dX4_edit_35 : decode cX4_edit 35 = .ok (.if_icmp .gt 22, 3) := by decide +kernel
theorem dX4_edit_38 : decode cX4_edit 38 = .ok (.aload_n 0, 1) := by decide +kernel
theorem dX4_edit_39 : decode cX4_edit 39 = .ok (.getfield 41, 3) := by decide +kernel
theorem dX4_edit_42 : decode cX4_edit 42 = .ok (.iload_n 2, 1) := by decide +kernel
theorem dX4_edit_43 : decode cX4_edit 43 = .ok (.isub, 1) := by decide +kernel
theorem dX4_edit_44 : decode cX4_edit 44 = .ok (.iload 5, 2) := by decide +kernel
theorem dX4_edit_46 : decode cX4_edit 46 = .ok (.iadd, 1) := by decide +kernel
theorem dX4_edit_47 : decode cX4_edit 47 = .ok (.sipush 400, 3) := by decide +kernel
theorem dX4_edit_50 : decode cX4_edit 50 = .ok (.if_icmp .gt 7, 3) := by decide +kernel
theorem dX4_edit_53 : decode cX4_edit 53 = .ok (.iconst 1, 1) := by decide +kernel
theorem dX4_edit_54 : decode cX4_edit 54 = .ok (.goto 4, 3) := by decide +kernel
theorem dX4_edit_57 : decode cX4_edit 57 = .ok (.iconst 0, 1) := by decide +kernel
theorem dX4_edit_58 : decode cX4_edit 58 = .ok (.istore 6, 2) := by decide +kernel
theorem dX4_edit_60 : decode cX4_edit 60 = .ok (.iconst 0, 1) := by decide +kernel
theorem dX4_edit_61 : decode cX4_edit 61 = .ok (.istore 7, 2) := by decide +kernel
theorem dX4_edit_63 : decode cX4_edit 63 = .ok (.iload 7, 2) := by decide +kernel
theorem dX4_edit_65 : decode cX4_edit 65 = .ok (.iload 5, 2) := by decide +kernel
theorem dX4_edit_67 : decode cX4_edit 67 = .ok (.if_icmp .ge 38, 3) := by decide +kernel
theorem dX4_edit_70 : decode cX4_edit 70 = .ok (.iload 6, 2) := by decide +kernel
theorem dX4_edit_72 : decode cX4_edit 72 = .ok (.ifCond .eq 33, 3) := by decide +kernel
theorem dX4_edit_75 : decode cX4_edit 75 = .ok (.lload_n 3, 1) := by decide +kernel
theorem dX4_edit_76 : decode cX4_edit 76 = .ok (.iconst 4, 1) := by decide +kernel
theorem dX4_edit_77 : decode cX4_edit 77 = .ok (.iload 7, 2) := by decide +kernel
theorem dX4_edit_79 : decode cX4_edit 79 = .ok (.imul, 1) := by decide +kernel
theorem dX4_edit_80 : decode cX4_edit 80 = .ok (.lshr, 1) := by decide +kernel
theorem dX4_edit_81 : decode cX4_edit 81 = .ok (.ldc2_w 81, 3) := by decide +kernel
theorem dX4_edit_84 : decode cX4_edit 84 = .ok (.land, 1) := by decide +kernel
theorem dX4_edit_85 : decode cX4_edit 85 = .ok (.ldc2_w 83, 3) := by decide +kernel
theorem dX4_edit_88 : decode cX4_edit 88 = .ok (.lcmp, 1) := by decide +kernel
theorem dX4_edit_89 : decode cX4_edit 89 = .ok (.ifCond .ge 7, 3) := by decide +kernel
theorem dX4_edit_92 : decode cX4_edit 92 = .ok (.iconst 1, 1) := by decide +kernel
theorem dX4_edit_93 : decode cX4_edit 93 = .ok (.goto 4, 3) := by decide +kernel
theorem dX4_edit_96 : decode cX4_edit 96 = .ok (.iconst 0, 1) := by decide +kernel
theorem dX4_edit_97 : decode cX4_edit 97 = .ok (.istore 6, 2) := by decide +kernel
theorem dX4_edit_99 : decode cX4_edit 99 = .ok (.iinc 7 1, 3) := by decide +kernel
theorem dX4_edit_102 : decode cX4_edit 102 = .ok (.goto (-39), 3) := by decide +kernel
theorem dX4_edit_105 : decode cX4_edit 105 = .ok (.iload 6, 2) := by decide +kernel
theorem dX4_edit_107 : decode cX4_edit 107 = .ok (.ifCond .ne 5, 3) := by decide +kernel
theorem dX4_edit_110 : decode cX4_edit 110 = .ok (.iconst (-1), 1) := by decide +kernel
theorem dX4_edit_111 : decode cX4_edit 111 = .ok (.ireturn, 1) := by decide +kernel
theorem dX4_edit_112 : decode cX4_edit 112 = .ok (.aload_n 0, 1) := by decide +kernel
theorem dX4_edit_113 : decode cX4_edit 113 = .ok (.getfield 41, 3) := by decide +kernel
theorem dX4_edit_116 : decode cX4_edit 116 = .ok (.ifCond .ne 7, 3) := by decide +kernel
theorem dX4_edit_119 : decode cX4_edit 119 = .ok (.iconst 0, 1) := by decide +kernel
theorem dX4_edit_120 : decode cX4_edit 120 = .ok (.goto 4, 3) := by decide +kernel
theorem dX4_edit_123 : decode cX4_edit 123 = .ok (.iconst (-1), 1) := by decide +kernel
theorem dX4_edit_124 : decode cX4_edit 124 = .ok (.istore 7, 2) := by decide +kernel
theorem dX4_edit_126 : decode cX4_edit 126 = .ok (.aload_n 0, 1) := by decide +kernel
theorem dX4_edit_127 : decode cX4_edit 127 = .ok (.getfield 31, 3) := by decide +kernel
theorem dX4_edit_130 : decode cX4_edit 130 = .ok (.ifCond .lt 22, 3) := by decide +kernel
theorem dX4_edit_133 : decode cX4_edit 133 = .ok (.aload_n 0, 1) := by decide +kernel
theorem dX4_edit_134 : decode cX4_edit 134 = .ok (.getfield 31, 3) := by decide +kernel
theorem dX4_edit_137 : decode cX4_edit 137 = .ok (.aload_n 0, 1) := by decide +kernel
theorem dX4_edit_138 : decode cX4_edit 138 = .ok (.getfield 47, 3) := by decide +kernel
theorem dX4_edit_141 : decode cX4_edit 141 = .ok (.iadd, 1) := by decide +kernel
theorem dX4_edit_142 : decode cX4_edit 142 = .ok (.iload_n 1, 1) := by decide +kernel
theorem dX4_edit_143 : decode cX4_edit 143 = .ok (.if_icmp .le 9, 3) := by decide +kernel
theorem dX4_edit_146 : decode cX4_edit 146 = .ok (.aload_n 0, 1) := by decide +kernel
theorem dX4_edit_147 : decode cX4_edit 147 = .ok (.getfield 31, 3) := by decide +kernel
theorem dX4_edit_150 : decode cX4_edit 150 = .ok (.istore 7, 2) := by decide +kernel
theorem dX4_edit_152 : decode cX4_edit 152 = .ok (.aload_n 0, 1) := by decide +kernel
theorem dX4_edit_153 : decode cX4_edit 153 = .ok (.getfield 44, 3) := by decide +kernel
theorem dX4_edit_156 : decode cX4_edit 156 = .ok (.iconst 1, 1) := by decide +kernel
theorem dX4_edit_157 : decode cX4_edit 157 = .ok (.isub, 1) := by decide +kernel
theorem dX4_edit_158 : decode cX4_edit 158 = .ok (.istore 8, 2) := by decide +kernel
theorem dX4_edit_160 : decode cX4_edit 160 = .ok (.iload 8, 2) := by decide +kernel
theorem dX4_edit_162 : decode cX4_edit 162 = .ok (.ifCond .lt 42, 3) := by decide +kernel
theorem dX4_edit_165 : decode cX4_edit 165 = .ok (.aload_n 0, 1) := by decide +kernel
theorem dX4_edit_166 : decode cX4_edit 166 = .ok (.getfield 19, 3) := by decide +kernel
theorem dX4_edit_169 : decode cX4_edit 169 = .ok (.iload 8, 2) := by decide +kernel
theorem dX4_edit_171 : decode cX4_edit 171 = .ok (.iaload, 1) := by decide +kernel
theorem dX4_edit_172 : decode cX4_edit 172 = .ok (.aload_n 0, 1) := by decide +kernel
theorem dX4_edit_173 : decode cX4_edit 173 = .ok (.getfield 28, 3) := by decide +kernel
theorem dX4_edit_176 : decode cX4_edit 176 = .ok (.iload 8, 2) := by decide +kernel
theorem dX4_edit_178 : decode cX4_edit 178 = .ok (.iaload, 1) := by decide +kernel
theorem dX4_edit_179 : decode cX4_edit 179 = .ok (.iadd, 1) := by decide +kernel
theorem dX4_edit_180 : decode cX4_edit 180 = .ok (.iload_n 1, 1) := by decide +kernel
theorem dX4_edit_181 : decode cX4_edit 181 = .ok (.if_icmp .le 13, 3) := by decide +kernel
theorem dX4_edit_184 : decode cX4_edit 184 = .ok (.aload_n 0, 1) := by decide +kernel
theorem dX4_edit_185 : decode cX4_edit 185 = .ok (.getfield 19, 3) := by decide +kernel
theorem dX4_edit_188 : decode cX4_edit 188 = .ok (.iload 8, 2) := by decide +kernel
theorem dX4_edit_190 : decode cX4_edit 190 = .ok (.iaload, 1) := by decide +kernel
theorem dX4_edit_191 : decode cX4_edit 191 = .ok (.goto 5, 3) := by decide +kernel
theorem dX4_edit_194 : decode cX4_edit 194 = .ok (.iload 7, 2) := by decide +kernel
theorem dX4_edit_196 : decode cX4_edit 196 = .ok (.istore 7, 2) := by decide +kernel
theorem dX4_edit_198 : decode cX4_edit 198 = .ok (.iinc 8 (-1), 3) := by decide +kernel
theorem dX4_edit_201 : decode cX4_edit 201 = .ok (.goto (-41), 3) := by decide +kernel
theorem dX4_edit_204 : decode cX4_edit 204 = .ok (.aload_n 0, 1) := by decide +kernel
theorem dX4_edit_205 : decode cX4_edit 205 = .ok (.aload_n 0, 1) := by decide +kernel
theorem dX4_edit_206 : decode cX4_edit 206 = .ok (.getfield 44, 3) := by decide +kernel
theorem dX4_edit_209 : decode cX4_edit 209 = .ok (.putfield 78, 3) := by decide +kernel
theorem dX4_edit_212 : decode cX4_edit 212 = .ok (.iconst 0, 1) := by decide +kernel
theorem dX4_edit_213 : decode cX4_edit 213 = .ok (.istore 8, 2) := by decide +kernel
theorem dX4_edit_215 : decode cX4_edit 215 = .ok (.iload 8, 2) := by decide +kernel
theorem dX4_edit_217 : decode cX4_edit 217 = .ok (.aload_n 0, 1) := by decide +kernel
theorem dX4_edit_218 : decode cX4_edit 218 = .ok (.getfield 44, 3) := by decide +kernel
theorem dX4_edit_221 : decode cX4_edit 221 = .ok (.if_icmp .ge 23, 3) := by decide +kernel
theorem dX4_edit_224 : decode cX4_edit 224 = .ok (.aload_n 0, 1) := by decide +kernel
theorem dX4_edit_225 : decode cX4_edit 225 = .ok (.getfield 35, 3) := by decide +kernel
theorem dX4_edit_228 : decode cX4_edit 228 = .ok (.iload 8, 2) := by decide +kernel
theorem dX4_edit_230 : decode cX4_edit 230 = .ok (.aload_n 0, 1) := by decide +kernel
theorem dX4_edit_231 : decode cX4_edit 231 = .ok (.getfield 19, 3) := by decide +kernel
theorem dX4_edit_234 : decode cX4_edit 234 = .ok (.iload 8, 2) := by decide +kernel
theorem dX4_edit_236 : decode cX4_edit 236 = .ok (.iaload, 1) := by decide +kernel
theorem dX4_edit_237 : decode cX4_edit 237 = .ok (.iastore, 1) := by decide +kernel
theorem dX4_edit_238 : decode cX4_edit 238 = .ok (.iinc 8 1, 3) := by decide +kernel
theorem dX4_edit_241 : decode cX4_edit 241 = .ok (.goto (-26), 3) := by decide +kernel
theorem dX4_edit_244 : decode cX4_edit 244 = .ok (.aload_n 0, 1) := by decide +kernel
theorem dX4_edit_245 : decode cX4_edit 245 = .ok (.aload_n 0, 1) := by decide +kernel
theorem dX4_edit_246 : decode cX4_edit 246 = .ok (.getfield 31, 3) := by decide +kernel
theorem dX4_edit_249 : decode cX4_edit 249 = .ok (.putfield 72, 3) := by decide +kernel
theorem dX4_edit_252 : decode cX4_edit 252 = .ok (.aload_n 0, 1) := by decide +kernel
theorem dX4_edit_253 : decode cX4_edit 253 = .ok (.aload_n 0, 1) := by decide +kernel
theorem dX4_edit_254 : decode cX4_edit 254 = .ok (.getfield 41, 3) := by decide +kernel
theorem dX4_edit_257 : decode cX4_edit 257 = .ok (.putfield 75, 3) := by decide +kernel
theorem dX4_edit_260 : decode cX4_edit 260 = .ok (.aload_n 0, 1) := by decide +kernel
theorem dX4_edit_261 : decode cX4_edit 261 = .ok (.iload_n 1, 1) := by decide +kernel
theorem dX4_edit_262 : decode cX4_edit 262 = .ok (.iload_n 2, 1) := by decide +kernel
theorem dX4_edit_263 : decode cX4_edit 263 = .ok (.lload_n 3, 1) := by decide +kernel
theorem dX4_edit_264 : decode cX4_edit 264 = .ok (.iload 5, 2) := by decide +kernel
theorem dX4_edit_266 : decode cX4_edit 266 = .ok (.invokevirtual 85, 3) := by decide +kernel
theorem dX4_edit_269 : decode cX4_edit 269 = .ok (.aload_n 0, 1) := by decide +kernel
theorem dX4_edit_270 : decode cX4_edit 270 = .ok (.dup, 1) := by decide +kernel
theorem dX4_edit_271 : decode cX4_edit 271 = .ok (.getfield 56, 3) := by decide +kernel
theorem dX4_edit_274 : decode cX4_edit 274 = .ok (.iconst 1, 1) := by decide +kernel
theorem dX4_edit_275 : decode cX4_edit 275 = .ok (.iadd, 1) := by decide +kernel
theorem dX4_edit_276 : decode cX4_edit 276 = .ok (.putfield 56, 3) := by decide +kernel
theorem dX4_edit_279 : decode cX4_edit 279 = .ok (.aload_n 0, 1) := by decide +kernel
theorem dX4_edit_280 : decode cX4_edit 280 = .ok (.iconst 0, 1) := by decide +kernel
theorem dX4_edit_281 : decode cX4_edit 281 = .ok (.putfield 50, 3) := by decide +kernel
theorem dX4_edit_284 : decode cX4_edit 284 = .ok (.aload_n 0, 1) := by decide +kernel
theorem dX4_edit_285 : decode cX4_edit 285 = .ok (.iconst 0, 1) := by decide +kernel
theorem dX4_edit_286 : decode cX4_edit 286 = .ok (.putfield 53, 3) := by decide +kernel
theorem dX4_edit_289 : decode cX4_edit 289 = .ok (.iload 7, 2) := by decide +kernel
theorem dX4_edit_291 : decode cX4_edit 291 = .ok (.ifCond .lt 13, 3) := by decide +kernel
theorem dX4_edit_294 : decode cX4_edit 294 = .ok (.aload_n 0, 1) := by decide +kernel
theorem dX4_edit_295 : decode cX4_edit 295 = .ok (.iload 7, 2) := by decide +kernel
theorem dX4_edit_297 : decode cX4_edit 297 = .ok (.iload_n 1, 1) := by decide +kernel
theorem dX4_edit_298 : decode cX4_edit 298 = .ok (.iload_n 2, 1) := by decide +kernel
theorem dX4_edit_299 : decode cX4_edit 299 = .ok (.iload 5, 2) := by decide +kernel
theorem dX4_edit_301 : decode cX4_edit 301 = .ok (.invokevirtual 89, 3) := by decide +kernel
theorem dX4_edit_304 : decode cX4_edit 304 = .ok (.aload_n 0, 1) := by decide +kernel
theorem dX4_edit_305 : decode cX4_edit 305 = .ok (.invokevirtual 93, 3) := by decide +kernel
theorem dX4_edit_308 : decode cX4_edit 308 = .ok (.aload_n 0, 1) := by decide +kernel
theorem dX4_edit_309 : decode cX4_edit 309 = .ok (.getfield 50, 3) := by decide +kernel
theorem dX4_edit_312 : decode cX4_edit 312 = .ok (.ireturn, 1) := by decide +kernel
theorem dX4_change_0 : decode cX4_change 0 = .ok (.aload_n 0, 1) := by decide +kernel
theorem dX4_change_1 : decode cX4_change 1 = .ok (.getfield 41, 3) := by decide +kernel
theorem dX4_change_4 : decode cX4_change 4 = .ok (.iload_n 2, 1) := by decide +kernel
theorem dX4_change_5 : decode cX4_change 5 = .ok (.isub, 1) := by decide +kernel
theorem dX4_change_6 : decode cX4_change 6 = .ok (.iload 5, 2) := by decide +kernel
theorem dX4_change_8 : decode cX4_change 8 = .ok (.iadd, 1) := by decide +kernel
theorem dX4_change_9 : decode cX4_change 9 = .ok (.istore 6, 2) := by decide +kernel
theorem dX4_change_11 : decode cX4_change 11 = .ok (.iload 5, 2) := by decide +kernel
theorem dX4_change_13 : decode cX4_change 13 = .ok (.iload_n 2, 1) := by decide +kernel
theorem dX4_change_14 : decode cX4_change 14 = .ok (.if_icmp .le 46, 3) := by decide +kernel
theorem dX4_change_17 : decode cX4_change 17 = .ok (.iload 6, 2) := by decide +kernel
theorem dX4_change_19 : decode cX4_change 19 = .ok (.iconst 1, 1) := by decide +kernel
theorem dX4_change_20 : decode cX4_change 20 = .ok (.isub, 1) := by decide +kernel
theorem dX4_change_21 : decode cX4_change 21 = .ok (.istore 7, 2) := by decide +kernel
theorem dX4_change_23 : decode cX4_change 23 = .ok (.iload 7, 2) := by decide +kernel
theorem dX4_change_25 : decode cX4_change 25 = .ok (.iload_n 1, 1) := by decide +kernel
theorem dX4_change_26 : decode cX4_change 26 = .ok (.iload 5, 2) := by decide +kernel
theorem dX4_change_28 : decode cX4_change 28 = .ok (.iadd, 1) := by decide +kernel
theorem dX4_change_29 : decode cX4_change 29 = .ok (.if_icmp .lt 28, 3) := by decide +kernel
theorem dX4_change_32 : decode cX4_change 32 = .ok (.aload_n 0, 1) := by decide +kernel
theorem dX4_change_33 : decode cX4_change 33 = .ok (.getfield 16, 3) := by decide +kernel
theorem dX4_change_36 : decode cX4_change 36 = .ok (.iload 7, 2) := by decide +kernel
theorem dX4_change_38 : decode cX4_change 38 = .ok (.aload_n 0, 1) := by decide +kernel
theorem dX4_change_39 : decode cX4_change 39 = .ok (.getfield 16, 3) := by decide +kernel
theorem dX4_change_42 : decode cX4_change 42 = .ok (.iload 7, 2) := by decide +kernel
theorem dX4_change_44 : decode cX4_change 44 = .ok (.iload 5, 2) := by decide +kernel
theorem dX4_change_46 : decode cX4_change 46 = .ok (.isub, 1) := by decide +kernel
theorem dX4_change_47 : decode cX4_change 47 = .ok (.iload_n 2, 1) := by decide +kernel
theorem dX4_change_48 : decode cX4_change 48 = .ok (.iadd, 1) := by decide +kernel
theorem dX4_change_49 : decode cX4_change 49 = .ok (.iaload, 1) := by decide +kernel
theorem dX4_change_50 : decode cX4_change 50 = .ok (.iastore, 1) := by decide +kernel
theorem dX4_change_51 : decode cX4_change 51 = .ok (.iinc 7 (-1), 3) := by decide +kernel
theorem dX4_change_54 : decode cX4_change 54 = .ok (.goto (-31), 3) := by decide +kernel
theorem dX4_change_57 : decode cX4_change 57 = .ok (.goto 41, 3) := by decide +kernel
theorem dX4_change_60 : decode cX4_change 60 = .ok (.iload_n 1, 1) := by decide +kernel
theorem dX4_change_61 : decode cX4_change 61 = .ok (.iload 5, 2) := by decide +kernel
theorem dX4_change_63 : decode cX4_change 63 = .ok (.iadd, 1) := by decide +kernel
theorem dX4_change_64 : decode cX4_change 64 = .ok (.istore 7, 2) := by decide +kernel
theorem dX4_change_66 : decode cX4_change 66 = .ok (.iload 7, 2) := by decide +kernel
theorem dX4_change_68 : decode cX4_change 68 = .ok (.iload 6, 2) := by decide +kernel
theorem dX4_change_70 : decode cX4_change 70 = .ok (.if_icmp .ge 28, 3) := by decide +kernel
theorem dX4_change_73 : decode cX4_change 73 = .ok (.aload_n 0, 1) := by decide +kernel
theorem dX4_change_74 : decode cX4_change 74 = .ok (.getfield 16, 3) := by decide +kernel
theorem dX4_change_77 : decode cX4_change 77 = .ok (.iload 7, 2) := by decide +kernel
theorem dX4_change_79 : decode cX4_change 79 = .ok (.aload_n 0, 1) := by decide +kernel
theorem dX4_change_80 : decode cX4_change 80 = .ok (.getfield 16, 3) := by decide +kernel
theorem dX4_change_83 : decode cX4_change 83 = .ok (.iload 7, 2) := by decide +kernel
theorem dX4_change_85 : decode cX4_change 85 = .ok (.iload 5, 2) := by decide +kernel
theorem dX4_change_87 : decode cX4_change 87 = .ok (.isub, 1) := by decide +kernel
theorem dX4_change_88 : decode cX4_change 88 = .ok (.iload_n 2, 1) := by decide +kernel
theorem dX4_change_89 : decode cX4_change 89 = .ok (.iadd, 1) := by decide +kernel
theorem dX4_change_90 : decode cX4_change 90 = .ok (.iaload, 1) := by decide +kernel
theorem dX4_change_91 : decode cX4_change 91 = .ok (.iastore, 1) := by decide +kernel
theorem dX4_change_92 : decode cX4_change 92 = .ok (.iinc 7 1, 3) := by decide +kernel
theorem dX4_change_95 : decode cX4_change 95 = .ok (.goto (-29), 3) := by decide +kernel
theorem dX4_change_98 : decode cX4_change 98 = .ok (.iconst 0, 1) := by decide +kernel
theorem dX4_change_99 : decode cX4_change 99 = .ok (.istore 7, 2) := by decide +kernel
theorem dX4_change_101 : decode cX4_change 101 = .ok (.iload 7, 2) := by decide +kernel
theorem dX4_change_103 : decode cX4_change 103 = .ok (.iload 5, 2) := by decide +kernel
theorem dX4_change_105 : decode cX4_change 105 = .ok (.if_icmp .ge 34, 3) := by decide +kernel
theorem dX4_change_108 : decode cX4_change 108 = .ok (.aload_n 0, 1) := by decide +kernel
theorem dX4_change_109 : decode cX4_change 109 = .ok (.getfield 16, 3) := by decide +kernel
theorem dX4_change_112 : decode cX4_change 112 = .ok (.iload_n 1, 1) := by decide +kernel
theorem dX4_change_113 : decode cX4_change 113 = .ok (.iload 7, 2) := by decide +kernel
theorem dX4_change_115 : decode cX4_change 115 = .ok (.iadd, 1) := by decide +kernel
theorem dX4_change_116 : decode cX4_change 116 = .ok (.lload_n 3, 1) := by decide +kernel
theorem dX4_change_117 : decode cX4_change 117 = .ok (.iconst 4, 1) := by decide +kernel
theorem dX4_change_118 : decode cX4_change 118 = .ok (.iload 5, 2) := by decide +kernel
theorem dX4_change_120 : decode cX4_change 120 = .ok (.iconst 1, 1) := by decide +kernel
theorem dX4_change_121 : decode cX4_change 121 = .ok (.isub, 1) := by decide +kernel
theorem dX4_change_122 : decode cX4_change 122 = .ok (.iload 7, 2) := by decide +kernel
theorem dX4_change_124 : decode cX4_change 124 = .ok (.isub, 1) := by decide +kernel
theorem dX4_change_125 : decode cX4_change 125 = .ok (.imul, 1) := by decide +kernel
theorem dX4_change_126 : decode cX4_change 126 = .ok (.lshr, 1) := by decide +kernel
theorem dX4_change_127 : decode cX4_change 127 = .ok (.ldc2_w 81, 3) := by decide +kernel
theorem dX4_change_130 : decode cX4_change 130 = .ok (.land, 1) := by decide +kernel
theorem dX4_change_131 : decode cX4_change 131 = .ok (.l2i, 1) := by decide +kernel
theorem dX4_change_132 : decode cX4_change 132 = .ok (.iastore, 1) := by decide +kernel
theorem dX4_change_133 : decode cX4_change 133 = .ok (.iinc 7 1, 3) := by decide +kernel
theorem dX4_change_136 : decode cX4_change 136 = .ok (.goto (-35), 3) := by decide +kernel
theorem dX4_change_139 : decode cX4_change 139 = .ok (.aload_n 0, 1) := by decide +kernel
theorem dX4_change_140 : decode cX4_change 140 = .ok (.iload 6, 2) := by decide +kernel
theorem dX4_change_142 : decode cX4_change 142 = .ok (.putfield 41, 3) := by decide +kernel
theorem dX4_change_145 : decode cX4_change 145 = .ok (.return_, 1) := by decide +kernel
theorem dX4_goOver_0 : decode cX4_goOver 0 = .ok (.iload_n 1, 1) := by decide +kernel
theorem dX4_goOver_1 : decode cX4_goOver 1 = .ok (.istore 5, 2) := by decide +kernel
theorem dX4_goOver_3 : decode cX4_goOver 3 = .ok (.iconst 1, 1) := by decide +kernel
theorem dX4_goOver_4 : decode cX4_goOver 4 = .ok (.istore 6, 2) := by decide +kernel
theorem dX4_goOver_6 : decode cX4_goOver 6 = .ok (.iload 6, 2) := by decide +kernel
theorem dX4_goOver_8 : decode cX4_goOver 8 = .ok (.ifCond .eq 90, 3) := by decide +kernel
theorem dX4_goOver_11 : decode cX4_goOver 11 = .ok (.iload 5, 2) := by decide +kernel
theorem dX4_goOver_13 : decode cX4_goOver 13 = .ok (.aload_n 0, 1) := by decide +kernel
theorem dX4_goOver_14 : decode cX4_goOver 14 = .ok (.getfield 41, 3) := by decide +kernel
theorem dX4_goOver_17 : decode cX4_goOver 17 = .ok (.if_icmp .ge 81, 3) := by decide +kernel
theorem dX4_goOver_20 : decode cX4_goOver 20 = .ok (.iload 5, 2) := by decide +kernel
theorem dX4_goOver_22 : decode cX4_goOver 22 = .ok (.iload_n 2, 1) := by decide +kernel
theorem dX4_goOver_23 : decode cX4_goOver 23 = .ok (.iload 4, 2) := by decide +kernel
theorem dX4_goOver_25 : decode cX4_goOver 25 = .ok (.iadd, 1) := by decide +kernel
theorem dX4_goOver_26 : decode cX4_goOver 26 = .ok (.if_icmp .lt 17, 3) := by decide +kernel
theorem dX4_goOver_29 : decode cX4_goOver 29 = .ok (.aload_n 0, 1) := by decide +kernel
theorem dX4_goOver_30 : decode cX4_goOver 30 = .ok (.iload 5, 2) := by decide +kernel
theorem dX4_goOver_32 : decode cX4_goOver 32 = .ok (.iload 4, 2) := by decide +kernel
theorem dX4_goOver_34 : decode cX4_goOver 34 = .ok (.isub, 1) := by decide +kernel
theorem dX4_goOver_35 : decode cX4_goOver 35 = .ok (.iload_n 3, 1) := by decide +kernel
theorem dX4_goOver_36 : decode cX4_goOver 36 = .ok (.iadd, 1) := by decide +kernel
theorem dX4_goOver_37 : decode cX4_goOver 37 = .ok (.invokevirtual 96, 3) := by decide +kernel
theorem dX4_goOver_40 : decode cX4_goOver 40 = .ok (.ifCond .ne 58, 3) := by decide +kernel
theorem dX4_goOver_43 : decode cX4_goOver 43 = .ok (.aload_n 0, 1) := by decide +kernel
theorem dX4_goOver_44 : decode cX4_goOver 44 = .ok (.iload 5, 2) := by decide +kernel
theorem dX4_goOver_46 : decode cX4_goOver 46 = .ok (.invokevirtual 68, 3) := by decide +kernel
theorem dX4_goOver_49 : decode cX4_goOver 49 = .ok (.istore 6, 2) := by decide +kernel
theorem dX4_goOver_51 : decode cX4_goOver 51 = .ok (.aload_n 0, 1) := by decide +kernel
theorem dX4_goOver_52 : decode cX4_goOver 52 = .ok (.aload_n 0, 1) := by decide +kernel
theorem dX4_goOver_53 : decode cX4_goOver 53 = .ok (.getfield 50, 3) := by decide +kernel
theorem dX4_goOver_56 : decode cX4_goOver 56 = .ok (.aload_n 0, 1) := by decide +kernel
theorem dX4_goOver_57 : decode cX4_goOver 57 = .ok (.getfield 65, 3) := by decide +kernel
theorem dX4_goOver_60 : decode cX4_goOver 60 = .ok (.iadd, 1) := by decide +kernel
theorem dX4_goOver_61 : decode cX4_goOver 61 = .ok (.putfield 50, 3) := by decide +kernel
theorem dX4_goOver_64 : decode cX4_goOver 64 = .ok (.aload_n 0, 1) := by decide +kernel
theorem dX4_goOver_65 : decode cX4_goOver 65 = .ok (.iload 6, 2) := by decide +kernel
theorem dX4_goOver_67 : decode cX4_goOver 67 = .ok (.ifCond .eq 12, 3) := by decide +kernel
theorem dX4_goOver_70 : decode cX4_goOver 70 = .ok (.aload_n 0, 1) := by decide +kernel
theorem dX4_goOver_71 : decode cX4_goOver 71 = .ok (.getfield 53, 3) := by decide +kernel
theorem dX4_goOver_74 : decode cX4_goOver 74 = .ok (.iconst 1, 1) := by decide +kernel
theorem dX4_goOver_75 : decode cX4_goOver 75 = .ok (.iadd, 1) := by decide +kernel
theorem dX4_goOver_76 : decode cX4_goOver 76 = .ok (.goto 7, 3) := by decide +kernel
theorem dX4_goOver_79 : decode cX4_goOver 79 = .ok (.aload_n 0, 1) := by decide +kernel
theorem dX4_goOver_80 : decode cX4_goOver 80 = .ok (.getfield 53, 3) := by decide +kernel
theorem dX4_goOver_83 : decode cX4_goOver 83 = .ok (.putfield 53, 3) := by decide +kernel
theorem dX4_goOver_86 : decode cX4_goOver 86 = .ok (.iload 5, 2) := by decide +kernel
theorem dX4_goOver_88 : decode cX4_goOver 88 = .ok (.aload_n 0, 1) := by decide +kernel
theorem dX4_goOver_89 : decode cX4_goOver 89 = .ok (.getfield 59, 3) := by decide +kernel
theorem dX4_goOver_92 : decode cX4_goOver 92 = .ok (.iadd, 1) := by decide +kernel
theorem dX4_goOver_93 : decode cX4_goOver 93 = .ok (.istore 5, 2) := by decide +kernel
theorem dX4_goOver_95 : decode cX4_goOver 95 = .ok (.goto (-89), 3) := by decide +kernel
theorem dX4_goOver_98 : decode cX4_goOver 98 = .ok (.return_, 1) := by decide +kernel
theorem dX4_token_0 : decode cX4_token 0 = .ok (.iload_n 1, 1) := by decide +kernel
theorem dX4_token_1 : decode cX4_token 1 = .ok (.ifCond .lt 11, 3) := by decide +kernel
theorem dX4_token_4 : decode cX4_token 4 = .ok (.iload_n 1, 1) := by decide +kernel
theorem dX4_token_5 : decode cX4_token 5 = .ok (.aload_n 0, 1) := by decide +kernel
theorem dX4_token_6 : decode cX4_token 6 = .ok (.getfield 44, 3) := by decide +kernel
theorem dX4_token_9 : decode cX4_token 9 = .ok (.if_icmp .lt 5, 3) := by decide +kernel
theorem dX4_token_12 : decode cX4_token 12 = .ok (.iconst (-1), 1) := by decide +kernel
theorem dX4_token_13 : decode cX4_token 13 = .ok (.ireturn, 1) := by decide +kernel
theorem dX4_token_14 : decode cX4_token 14 = .ok (.iload_n 2, 1) := by decide +kernel
theorem dX4_token_15 : decode cX4_token 15 = .ok (.ifCond .ne 12, 3) := by decide +kernel
theorem dX4_token_18 : decode cX4_token 18 = .ok (.aload_n 0, 1) := by decide +kernel
theorem dX4_token_19 : decode cX4_token 19 = .ok (.getfield 19, 3) := by decide +kernel
theorem dX4_token_22 : decode cX4_token 22 = .ok (.iload_n 1, 1) := by decide +kernel
theorem dX4_token_23 : decode cX4_token 23 = .ok (.iaload, 1) := by decide +kernel
theorem dX4_token_24 : decode cX4_token 24 = .ok (.goto 46, 3) := by decide +kernel
theorem dX4_token_27 : decode cX4_token 27 = .ok (.iload_n 2, 1) := by decide +kernel
theorem dX4_token_28 : decode cX4_token 28 = .ok (.iconst 1, 1) := by decide +kernel
theorem dX4_token_29 : decode cX4_token 29 = .ok (.if_icmp .ne 12, 3) := by decide +kernel
theorem dX4_token_32 : decode cX4_token 32 = .ok (.aload_n 0, 1) := by decide +kernel
theorem dX4_token_33 : decode cX4_token 33 = .ok (.getfield 22, 3) := by decide +kernel
theorem dX4_token_36 : decode cX4_token 36 = .ok (.iload_n 1, 1) := by decide +kernel
theorem dX4_token_37 : decode cX4_token 37 = .ok (.iaload, 1) := by decide +kernel
theorem dX4_token_38 : decode cX4_token 38 = .ok (.goto 32, 3) := by decide +kernel
theorem dX4_token_41 : decode cX4_token 41 = .ok (.iload_n 2, 1) := by decide +kernel
theorem dX4_token_42 : decode cX4_token 42 = .ok (.iconst 2, 1) := by decide +kernel
theorem dX4_token_43 : decode cX4_token 43 = .ok (.if_icmp .ne 12, 3) := by decide +kernel
theorem dX4_token_46 : decode cX4_token 46 = .ok (.aload_n 0, 1) := by decide +kernel
theorem dX4_token_47 : decode cX4_token 47 = .ok (.getfield 25, 3) := by decide +kernel
theorem dX4_token_50 : decode cX4_token 50 = .ok (.iload_n 1, 1) := by decide +kernel
theorem dX4_token_51 : decode cX4_token 51 = .ok (.iaload, 1) := by decide +kernel
theorem dX4_token_52 : decode cX4_token 52 = .ok (.goto 18, 3) := by decide +kernel
theorem dX4_token_55 : decode cX4_token 55 = .ok (.iload_n 2, 1) := by decide +kernel
theorem dX4_token_56 : decode cX4_token 56 = .ok (.iconst 3, 1) := by decide +kernel
theorem dX4_token_57 : decode cX4_token 57 = .ok (.if_icmp .ne 12, 3) := by decide +kernel
theorem dX4_token_60 : decode cX4_token 60 = .ok (.aload_n 0, 1) := by decide +kernel
theorem dX4_token_61 : decode cX4_token 61 = .ok (.getfield 28, 3) := by decide +kernel
theorem dX4_token_64 : decode cX4_token 64 = .ok (.iload_n 1, 1) := by decide +kernel
theorem dX4_token_65 : decode cX4_token 65 = .ok (.iaload, 1) := by decide +kernel
theorem dX4_token_66 : decode cX4_token 66 = .ok (.goto 4, 3) := by decide +kernel
theorem dX4_token_69 : decode cX4_token 69 = .ok (.iconst (-1), 1) := by decide +kernel
theorem dX4_token_70 : decode cX4_token 70 = .ok (.ireturn, 1) := by decide +kernel
theorem dX4_tokenAt_0 : decode cX4_tokenAt 0 = .ok (.iconst (-1), 1) := by decide +kernel
theorem dX4_tokenAt_1 : decode cX4_tokenAt 1 = .ok (.istore_n 2, 1) := by decide +kernel
theorem dX4_tokenAt_2 : decode cX4_tokenAt 2 = .ok (.iconst 0, 1) := by decide +kernel
theorem dX4_tokenAt_3 : decode cX4_tokenAt 3 = .ok (.istore_n 3, 1) := by decide +kernel
theorem dX4_tokenAt_4 : decode cX4_tokenAt 4 = .ok (.iload_n 3, 1) := by decide +kernel
theorem dX4_tokenAt_5 : decode cX4_tokenAt 5 = .ok (.aload_n 0, 1) := by decide +kernel
theorem dX4_tokenAt_6 : decode cX4_tokenAt 6 = .ok (.getfield 44, 3) := by decide +kernel
theorem dX4_tokenAt_9 : decode cX4_tokenAt 9 = .ok (.if_icmp .ge 42, 3) := by decide +kernel
theorem dX4_tokenAt_12 : decode cX4_tokenAt 12 = .ok (.iload_n 1, 1) := by decide +kernel
theorem dX4_tokenAt_13 : decode cX4_tokenAt 13 = .ok (.aload_n 0, 1) := by decide +kernel
theorem dX4_tokenAt_14 : decode cX4_tokenAt 14 = .ok (.getfield 19, 3) := by decide +kernel
theorem dX4_tokenAt_17 : decode cX4_tokenAt 17 = .ok (.iload_n 3, 1) := by decide +kernel
theorem dX4_tokenAt_18 : decode cX4_tokenAt 18 = .ok (.iaload, 1) := by decide +kernel
theorem dX4_tokenAt_19 : decode cX4_tokenAt 19 = .ok (.if_icmp .lt 24, 3) := by decide +kernel
theorem dX4_tokenAt_22 : decode cX4_tokenAt 22 = .ok (.iload_n 1, 1) := by decide +kernel
theorem dX4_tokenAt_23 : decode cX4_tokenAt 23 = .ok (.aload_n 0, 1) := by decide +kernel
theorem dX4_tokenAt_24 : decode cX4_tokenAt 24 = .ok (.getfield 19, 3) := by decide +kernel
theorem dX4_tokenAt_27 : decode cX4_tokenAt 27 = .ok (.iload_n 3, 1) := by decide +kernel
theorem dX4_tokenAt_28 : decode cX4_tokenAt 28 = .ok (.iaload, 1) := by decide +kernel
theorem dX4_tokenAt_29 : decode cX4_tokenAt 29 = .ok (.aload_n 0, 1) := by decide +kernel
theorem dX4_tokenAt_30 : decode cX4_tokenAt 30 = .ok (.getfield 22, 3) := by decide +kernel
theorem dX4_tokenAt_33 : decode cX4_tokenAt 33 = .ok (.iload_n 3, 1) := by decide +kernel
theorem dX4_tokenAt_34 : decode cX4_tokenAt 34 = .ok (.iaload, 1) := by decide +kernel
theorem dX4_tokenAt_35 : decode cX4_tokenAt 35 = .ok (.iadd, 1) := by decide +kernel
theorem dX4_tokenAt_36 : decode cX4_tokenAt 36 = .ok (.if_icmp .ge 7, 3) := by decide +kernel
theorem dX4_tokenAt_39 : decode cX4_tokenAt 39 = .ok (.iload_n 3, 1) := by decide +kernel
theorem dX4_tokenAt_40 : decode cX4_tokenAt 40 = .ok (.goto 4, 3) := by decide +kernel
theorem dX4_tokenAt_43 : decode cX4_tokenAt 43 = .ok (.iload_n 2, 1) := by decide +kernel
theorem dX4_tokenAt_44 : decode cX4_tokenAt 44 = .ok (.istore_n 2, 1) := by decide +kernel
theorem dX4_tokenAt_45 : decode cX4_tokenAt 45 = .ok (.iinc 3 1, 3) := by decide +kernel
theorem dX4_tokenAt_48 : decode cX4_tokenAt 48 = .ok (.goto (-44), 3) := by decide +kernel
theorem dX4_tokenAt_51 : decode cX4_tokenAt 51 = .ok (.iload_n 2, 1) := by decide +kernel
theorem dX4_tokenAt_52 : decode cX4_tokenAt 52 = .ok (.ireturn, 1) := by decide +kernel
theorem dX4_symbol_0 : decode cX4_symbol 0 = .ok (.iload_n 1, 1) := by decide +kernel
theorem dX4_symbol_1 : decode cX4_symbol 1 = .ok (.ifCond .lt 20, 3) := by decide +kernel
theorem dX4_symbol_4 : decode cX4_symbol 4 = .ok (.iload_n 1, 1) := by decide +kernel
theorem dX4_symbol_5 : decode cX4_symbol 5 = .ok (.aload_n 0, 1) := by decide +kernel
theorem dX4_symbol_6 : decode cX4_symbol 6 = .ok (.getfield 41, 3) := by decide +kernel
theorem dX4_symbol_9 : decode cX4_symbol 9 = .ok (.if_icmp .ge 12, 3) := by decide +kernel
theorem dX4_symbol_12 : decode cX4_symbol 12 = .ok (.aload_n 0, 1) := by decide +kernel
theorem dX4_symbol_13 : decode cX4_symbol 13 = .ok (.getfield 16, 3) := by decide +kernel
theorem dX4_symbol_16 : decode cX4_symbol 16 = .ok (.iload_n 1, 1) := by decide +kernel
theorem dX4_symbol_17 : decode cX4_symbol 17 = .ok (.iaload, 1) := by decide +kernel
theorem dX4_symbol_18 : decode cX4_symbol 18 = .ok (.goto 4, 3) := by decide +kernel
theorem dX4_symbol_21 : decode cX4_symbol 21 = .ok (.iconst (-1), 1) := by decide +kernel
theorem dX4_symbol_22 : decode cX4_symbol 22 = .ok (.ireturn, 1) := by decide +kernel
theorem dX4_count_0 : decode cX4_count 0 = .ok (.iload_n 1, 1) := by decide +kernel
theorem dX4_count_1 : decode cX4_count 1 = .ok (.ifCond .ne 10, 3) := by decide +kernel
theorem dX4_count_4 : decode cX4_count 4 = .ok (.aload_n 0, 1) := by decide +kernel
theorem dX4_count_5 : decode cX4_count 5 = .ok (.getfield 44, 3) := by decide +kernel
theorem dX4_count_8 : decode cX4_count 8 = .ok (.goto 77, 3) := by decide +kernel
theorem dX4_count_11 : decode cX4_count 11 = .ok (.iload_n 1, 1) := by decide +kernel
theorem dX4_count_12 : decode cX4_count 12 = .ok (.iconst 1, 1) := by decide +kernel
theorem dX4_count_13 : decode cX4_count 13 = .ok (.if_icmp .ne 10, 3) := by decide +kernel
theorem dX4_count_16 : decode cX4_count 16 = .ok (.aload_n 0, 1) := by decide +kernel
theorem dX4_count_17 : decode cX4_count 17 = .ok (.getfield 41, 3) := by decide +kernel
theorem dX4_count_20 : decode cX4_count 20 = .ok (.goto 65, 3) := by decide +kernel
theorem dX4_count_23 : decode cX4_count 23 = .ok (.iload_n 1, 1) := by decide +kernel
theorem dX4_count_24 : decode cX4_count 24 = .ok (.iconst 2, 1) := by decide +kernel
theorem dX4_count_25 : decode cX4_count 25 = .ok (.if_icmp .ne 10, 3) := by decide +kernel
theorem dX4_count_28 : decode cX4_count 28 = .ok (.aload_n 0, 1) := by decide +kernel
theorem dX4_count_29 : decode cX4_count 29 = .ok (.getfield 31, 3) := by decide +kernel
theorem dX4_count_32 : decode cX4_count 32 = .ok (.goto 53, 3) := by decide +kernel
theorem dX4_count_35 : decode cX4_count 35 = .ok (.iload_n 1, 1) := by decide +kernel
theorem dX4_count_36 : decode cX4_count 36 = .ok (.iconst 3, 1) := by decide +kernel
theorem dX4_count_37 : decode cX4_count 37 = .ok (.if_icmp .ne 10, 3) := by decide +kernel
theorem dX4_count_40 : decode cX4_count 40 = .ok (.aload_n 0, 1) := by decide +kernel
theorem dX4_count_41 : decode cX4_count 41 = .ok (.getfield 47, 3) := by decide +kernel
theorem dX4_count_44 : decode cX4_count 44 = .ok (.goto 41, 3) := by decide +kernel
theorem dX4_count_47 : decode cX4_count 47 = .ok (.iload_n 1, 1) := by decide +kernel
theorem dX4_count_48 : decode cX4_count 48 = .ok (.iconst 4, 1) := by decide +kernel
theorem dX4_count_49 : decode cX4_count 49 = .ok (.if_icmp .ne 10, 3) := by decide +kernel
theorem dX4_count_52 : decode cX4_count 52 = .ok (.aload_n 0, 1) := by decide +kernel
theorem dX4_count_53 : decode cX4_count 53 = .ok (.getfield 50, 3) := by decide +kernel
theorem dX4_count_56 : decode cX4_count 56 = .ok (.goto 29, 3) := by decide +kernel
theorem dX4_count_59 : decode cX4_count 59 = .ok (.iload_n 1, 1) := by decide +kernel
theorem dX4_count_60 : decode cX4_count 60 = .ok (.iconst 5, 1) := by decide +kernel
theorem dX4_count_61 : decode cX4_count 61 = .ok (.if_icmp .ne 10, 3) := by decide +kernel
theorem dX4_count_64 : decode cX4_count 64 = .ok (.aload_n 0, 1) := by decide +kernel
theorem dX4_count_65 : decode cX4_count 65 = .ok (.getfield 53, 3) := by decide +kernel
theorem dX4_count_68 : decode cX4_count 68 = .ok (.goto 17, 3) := by decide +kernel
theorem dX4_count_71 : decode cX4_count 71 = .ok (.iload_n 1, 1) := by decide +kernel
theorem dX4_count_72 : decode cX4_count 72 = .ok (.bipush 6, 2) := by decide +kernel
theorem dX4_count_74 : decode cX4_count 74 = .ok (.if_icmp .ne 10, 3) := by decide +kernel
theorem dX4_count_77 : decode cX4_count 77 = .ok (.aload_n 0, 1) := by decide +kernel
theorem dX4_count_78 : decode cX4_count 78 = .ok (.getfield 56, 3) := by decide +kernel
theorem dX4_count_81 : decode cX4_count 81 = .ok (.goto 4, 3) := by decide +kernel
theorem dX4_count_84 : decode cX4_count 84 = .ok (.iconst (-1), 1) := by decide +kernel
theorem dX4_count_85 : decode cX4_count 85 = .ok (.ireturn, 1) := by decide +kernel
theorem dX4_clear_0 : decode cX4_clear 0 = .ok (.aload_n 0, 1) := by decide +kernel
theorem dX4_clear_1 : decode cX4_clear 1 = .ok (.getfield 44, 3) := by decide +kernel
theorem dX4_clear_4 : decode cX4_clear 4 = .ok (.istore_n 1, 1) := by decide +kernel
theorem dX4_clear_5 : decode cX4_clear 5 = .ok (.aload_n 0, 1) := by decide +kernel
theorem dX4_clear_6 : decode cX4_clear 6 = .ok (.invokevirtual 38, 3) := by decide +kernel
theorem dX4_clear_9 : decode cX4_clear 9 = .ok (.iload_n 1, 1) := by decide +kernel
theorem dX4_clear_10 : decode cX4_clear 10 = .ok (.ireturn, 1) := by decide +kernel
end
section
theorem dL_law_0 : decode cL_law 0 = .ok (.new 7, 3) := by decide +kernel
theorem dL_law_3 : decode cL_law 3 = .ok (.dup, 1) := by decide +kernel
theorem dL_law_4 : decode cL_law 4 = .ok (.invokespecial 9, 3) := by decide +kernel
theorem dL_law_7 : decode cL_law 7 = .ok (.astore_n 1, 1) := by decide +kernel
theorem dL_law_8 : decode cL_law 8 = .ok (.new 10, 3) := by decide +kernel
theorem dL_law_11 : decode cL_law 11 = .ok (.dup, 1) := by decide +kernel
theorem dL_law_12 : decode cL_law 12 = .ok (.invokespecial 12, 3) := by decide +kernel
theorem dL_law_15 : decode cL_law 15 = .ok (.astore_n 2, 1) := by decide +kernel
theorem dL_law_16 : decode cL_law 16 = .ok (.iconst 0, 1) := by decide +kernel
theorem dL_law_17 : decode cL_law 17 = .ok (.istore_n 3, 1) := by decide +kernel
theorem dL_law_18 : decode cL_law 18 = .ok (.iload_n 3, 1) := by decide +kernel
theorem dL_law_19 : decode cL_law 19 = .ok (.aload_n 0, 1) := by decide +kernel
theorem dL_law_20 : decode cL_law 20 = .ok (.arraylength, 1) := by decide +kernel
theorem dL_law_21 : decode cL_law 21 = .ok (.bipush 6, 2) := by decide +kernel
theorem dL_law_23 : decode cL_law 23 = .ok (.isub, 1) := by decide +kernel
theorem dL_law_24 : decode cL_law 24 = .ok (.if_icmp .gt 336, 3) := by decide +kernel
theorem dL_law_27 : decode cL_law 27 = .ok (.aload_n 0, 1) := by decide +kernel
theorem dL_law_28 : decode cL_law 28 = .ok (.iload_n 3, 1) := by decide +kernel
theorem dL_law_29 : decode cL_law 29 = .ok (.iaload, 1) := by decide +kernel
theorem dL_law_30 : decode cL_law 30 = .ok (.bipush 7, 2) := by decide +kernel
theorem dL_law_32 : decode cL_law 32 = .ok (.iand, 1) := by decide +kernel
theorem dL_law_33 : decode cL_law 33 = .ok (.tableswitch 321 0 7 #[47, 90, 123, 206, 239, 262, 285, 308], 47) := by decide +kernel
theorem dL_law_80 : decode cL_law 80 = .ok (.aload_n 1, 1) := by decide +kernel
theorem dL_law_81 : decode cL_law 81 = .ok (.aload_n 0, 1) := by decide +kernel
theorem dL_law_82 : decode cL_law 82 = .ok (.iload_n 3, 1) := by decide +kernel
theorem dL_law_83 : decode cL_law 83 = .ok (.iconst 1, 1) := by decide +kernel
theorem dL_law_84 : decode cL_law 84 = .ok (.iadd, 1) := by decide +kernel
theorem dL_law_85 : decode cL_law 85 = .ok (.iaload, 1) := by decide +kernel
theorem dL_law_86 : decode cL_law 86 = .ok (.aload_n 0, 1) := by decide +kernel
theorem dL_law_87 : decode cL_law 87 = .ok (.iload_n 3, 1) := by decide +kernel
theorem dL_law_88 : decode cL_law 88 = .ok (.iconst 2, 1) := by decide +kernel
theorem dL_law_89 : decode cL_law 89 = .ok (.iadd, 1) := by decide +kernel
theorem dL_law_90 : decode cL_law 90 = .ok (.iaload, 1) := by decide +kernel
theorem dL_law_91 : decode cL_law 91 = .ok (.aload_n 0, 1) := by decide +kernel
theorem dL_law_92 : decode cL_law 92 = .ok (.iload_n 3, 1) := by decide +kernel
theorem dL_law_93 : decode cL_law 93 = .ok (.iconst 3, 1) := by decide +kernel
theorem dL_law_94 : decode cL_law 94 = .ok (.iadd, 1) := by decide +kernel
theorem dL_law_95 : decode cL_law 95 = .ok (.iaload, 1) := by decide +kernel
theorem dL_law_96 : decode cL_law 96 = .ok (.invokevirtual 13, 3) := by decide +kernel
theorem dL_law_99 : decode cL_law 99 = .ok (.aload_n 2, 1) := by decide +kernel
theorem dL_law_100 : decode cL_law 100 = .ok (.aload_n 0, 1) := by decide +kernel
theorem dL_law_101 : decode cL_law 101 = .ok (.iload_n 3, 1) := by decide +kernel
theorem dL_law_102 : decode cL_law 102 = .ok (.iconst 1, 1) := by decide +kernel
theorem dL_law_103 : decode cL_law 103 = .ok (.iadd, 1) := by decide +kernel
theorem dL_law_104 : decode cL_law 104 = .ok (.iaload, 1) := by decide +kernel
theorem dL_law_105 : decode cL_law 105 = .ok (.aload_n 0, 1) := by decide +kernel
theorem dL_law_106 : decode cL_law 106 = .ok (.iload_n 3, 1) := by decide +kernel
theorem dL_law_107 : decode cL_law 107 = .ok (.iconst 2, 1) := by decide +kernel
theorem dL_law_108 : decode cL_law 108 = .ok (.iadd, 1) := by decide +kernel
theorem dL_law_109 : decode cL_law 109 = .ok (.iaload, 1) := by decide +kernel
theorem dL_law_110 : decode cL_law 110 = .ok (.aload_n 0, 1) := by decide +kernel
theorem dL_law_111 : decode cL_law 111 = .ok (.iload_n 3, 1) := by decide +kernel
theorem dL_law_112 : decode cL_law 112 = .ok (.iconst 3, 1) := by decide +kernel
theorem dL_law_113 : decode cL_law 113 = .ok (.iadd, 1) := by decide +kernel
theorem dL_law_114 : decode cL_law 114 = .ok (.iaload, 1) := by decide +kernel
theorem dL_law_115 : decode cL_law 115 = .ok (.invokevirtual 17, 3) := by decide +kernel
theorem dL_law_118 : decode cL_law 118 = .ok (.if_icmp .eq 236, 3) := by decide +kernel
theorem dL_law_121 : decode cL_law 121 = .ok (.iconst 0, 1) := by decide +kernel
theorem dL_law_122 : decode cL_law 122 = .ok (.ireturn, 1) := by decide +kernel
theorem dL_law_123 : decode cL_law 123 = .ok (.aload_n 1, 1) := by decide +kernel
theorem dL_law_124 : decode cL_law 124 = .ok (.aload_n 0, 1) := by decide +kernel
theorem dL_law_125 : decode cL_law 125 = .ok (.iload_n 3, 1) := by decide +kernel
theorem dL_law_126 : decode cL_law 126 = .ok (.iconst 1, 1) := by decide +kernel
theorem dL_law_127 : decode cL_law 127 = .ok (.iadd, 1) := by decide +kernel
theorem dL_law_128 : decode cL_law 128 = .ok (.iaload, 1) := by decide +kernel
theorem dL_law_129 : decode cL_law 129 = .ok (.aload_n 0, 1) := by decide +kernel
theorem dL_law_130 : decode cL_law 130 = .ok (.iload_n 3, 1) := by decide +kernel
theorem dL_law_131 : decode cL_law 131 = .ok (.iconst 2, 1) := by decide +kernel
theorem dL_law_132 : decode cL_law 132 = .ok (.iadd, 1) := by decide +kernel
theorem dL_law_133 : decode cL_law 133 = .ok (.iaload, 1) := by decide +kernel
theorem dL_law_134 : decode cL_law 134 = .ok (.invokevirtual 18, 3) := by decide +kernel
theorem dL_law_137 : decode cL_law 137 = .ok (.aload_n 2, 1) := by decide +kernel
theorem dL_law_138 : decode cL_law 138 = .ok (.aload_n 0, 1) := by decide +kernel
theorem dL_law_139 : decode cL_law 139 = .ok (.iload_n 3, 1) := by decide +kernel
theorem dL_law_140 : decode cL_law 140 = .ok (.iconst 1, 1) := by decide +kernel
theorem dL_law_141 : decode cL_law 141 = .ok (.iadd, 1) := by decide +kernel
theorem dL_law_142 : decode cL_law 142 = .ok (.iaload, 1) := by decide +kernel
theorem dL_law_143 : decode cL_law 143 = .ok (.aload_n 0, 1) := by decide +kernel
theorem dL_law_144 : decode cL_law 144 = .ok (.iload_n 3, 1) := by decide +kernel
theorem dL_law_145 : decode cL_law 145 = .ok (.iconst 2, 1) := by decide +kernel
theorem dL_law_146 : decode cL_law 146 = .ok (.iadd, 1) := by decide +kernel
theorem dL_law_147 : decode cL_law 147 = .ok (.iaload, 1) := by decide +kernel
theorem dL_law_148 : decode cL_law 148 = .ok (.invokevirtual 22, 3) := by decide +kernel
theorem dL_law_151 : decode cL_law 151 = .ok (.if_icmp .eq 203, 3) := by decide +kernel
theorem dL_law_154 : decode cL_law 154 = .ok (.iconst 0, 1) := by decide +kernel
theorem dL_law_155 : decode cL_law 155 = .ok (.ireturn, 1) := by decide +kernel
theorem dL_law_156 : decode cL_law 156 = .ok (.aload_n 1, 1) := by decide +kernel
theorem dL_law_157 : decode cL_law 157 = .ok (.aload_n 0, 1) := by decide +kernel
theorem dL_law_158 : decode cL_law 158 = .ok (.iload_n 3, 1) := by decide +kernel
theorem dL_law_159 : decode cL_law 159 = .ok (.iconst 1, 1) := by decide +kernel
theorem dL_law_160 : decode cL_law 160 = .ok (.iadd, 1) := by decide +kernel
theorem dL_law_161 : decode cL_law 161 = .ok (.iaload, 1) := by decide +kernel
theorem dL_law_162 : decode cL_law 162 = .ok (.aload_n 0, 1) := by decide +kernel
theorem dL_law_163 : decode cL_law 163 = .ok (.iload_n 3, 1) := by decide +kernel
theorem dL_law_164 : decode cL_law 164 = .ok (.iconst 2, 1) := by decide +kernel
theorem dL_law_165 : decode cL_law 165 = .ok (.iadd, 1) := by decide +kernel
theorem dL_law_166 : decode cL_law 166 = .ok (.iaload, 1) := by decide +kernel
theorem dL_law_167 : decode cL_law 167 = .ok (.aload_n 0, 1) := by decide +kernel
theorem dL_law_168 : decode cL_law 168 = .ok (.iload_n 3, 1) := by decide +kernel
theorem dL_law_169 : decode cL_law 169 = .ok (.iconst 3, 1) := by decide +kernel
theorem dL_law_170 : decode cL_law 170 = .ok (.iadd, 1) := by decide +kernel
theorem dL_law_171 : decode cL_law 171 = .ok (.iaload, 1) := by decide +kernel
theorem dL_law_172 : decode cL_law 172 = .ok (.i2l, 1) := by decide +kernel
theorem dL_law_173 : decode cL_law 173 = .ok (.bipush 32, 2) := by decide +kernel
theorem dL_law_175 : decode cL_law 175 = .ok (.lshl, 1) := by decide +kernel
theorem dL_law_176 : decode cL_law 176 = .ok (.aload_n 0, 1) := by decide +kernel
theorem dL_law_177 : decode cL_law 177 = .ok (.iload_n 3, 1) := by decide +kernel
theorem dL_law_178 : decode cL_law 178 = .ok (.iconst 4, 1) := by decide +kernel
theorem dL_law_179 : decode cL_law 179 = .ok (.iadd, 1) := by decide +kernel
theorem dL_law_180 : decode cL_law 180 = .ok (.iaload, 1) := by decide +kernel
theorem dL_law_181 : decode cL_law 181 = .ok (.i2l, 1) := by decide +kernel
theorem dL_law_182 : decode cL_law 182 = .ok (.ldc2_w 23, 3) := by decide +kernel
theorem dL_law_185 : decode cL_law 185 = .ok (.land, 1) := by decide +kernel
theorem dL_law_186 : decode cL_law 186 = .ok (.lor, 1) := by decide +kernel
theorem dL_law_187 : decode cL_law 187 = .ok (.aload_n 0, 1) := by decide +kernel
theorem dL_law_188 : decode cL_law 188 = .ok (.iload_n 3, 1) := by decide +kernel
theorem dL_law_189 : decode cL_law 189 = .ok (.iconst 5, 1) := by decide +kernel
theorem dL_law_190 : decode cL_law 190 = .ok (.iadd, 1) := by decide +kernel
theorem dL_law_191 : decode cL_law 191 = .ok (.iaload, 1) := by decide +kernel
theorem dL_law_192 : decode cL_law 192 = .ok (.invokevirtual 25, 3) := by decide +kernel
theorem dL_law_195 : decode cL_law 195 = .ok (.aload_n 2, 1) := by decide +kernel
theorem dL_law_196 : decode cL_law 196 = .ok (.aload_n 0, 1) := by decide +kernel
theorem dL_law_197 : decode cL_law 197 = .ok (.iload_n 3, 1) := by decide +kernel
theorem dL_law_198 : decode cL_law 198 = .ok (.iconst 1, 1) := by decide +kernel
theorem dL_law_199 : decode cL_law 199 = .ok (.iadd, 1) := by decide +kernel
theorem dL_law_200 : decode cL_law 200 = .ok (.iaload, 1) := by decide +kernel
theorem dL_law_201 : decode cL_law 201 = .ok (.aload_n 0, 1) := by decide +kernel
theorem dL_law_202 : decode cL_law 202 = .ok (.iload_n 3, 1) := by decide +kernel
theorem dL_law_203 : decode cL_law 203 = .ok (.iconst 2, 1) := by decide +kernel
theorem dL_law_204 : decode cL_law 204 = .ok (.iadd, 1) := by decide +kernel
theorem dL_law_205 : decode cL_law 205 = .ok (.iaload, 1) := by decide +kernel
theorem dL_law_206 : decode cL_law 206 = .ok (.aload_n 0, 1) := by decide +kernel
theorem dL_law_207 : decode cL_law 207 = .ok (.iload_n 3, 1) := by decide +kernel
theorem dL_law_208 : decode cL_law 208 = .ok (.iconst 3, 1) := by decide +kernel
theorem dL_law_209 : decode cL_law 209 = .ok (.iadd, 1) := by decide +kernel
theorem dL_law_210 : decode cL_law 210 = .ok (.iaload, 1) := by decide +kernel
theorem dL_law_211 : decode cL_law 211 = .ok (.i2l, 1) := by decide +kernel
theorem dL_law_212 : decode cL_law 212 = .ok (.bipush 32, 2) := by decide +kernel
theorem dL_law_214 : decode cL_law 214 = .ok (.lshl, 1) := by decide +kernel
theorem dL_law_215 : decode cL_law 215 = .ok (.aload_n 0, 1) := by decide +kernel
theorem dL_law_216 : decode cL_law 216 = .ok (.iload_n 3, 1) := by decide +kernel
theorem dL_law_217 : decode cL_law 217 = .ok (.iconst 4, 1) := by decide +kernel
theorem dL_law_218 : decode cL_law 218 = .ok (.iadd, 1) := by decide +kernel
theorem dL_law_219 : decode cL_law 219 = .ok (.iaload, 1) := by decide +kernel
theorem dL_law_220 : decode cL_law 220 = .ok (.i2l, 1) := by decide +kernel
theorem dL_law_221 : decode cL_law 221 = .ok (.ldc2_w 23, 3) := by decide +kernel
theorem dL_law_224 : decode cL_law 224 = .ok (.land, 1) := by decide +kernel
theorem dL_law_225 : decode cL_law 225 = .ok (.lor, 1) := by decide +kernel
theorem dL_law_226 : decode cL_law 226 = .ok (.aload_n 0, 1) := by decide +kernel
theorem dL_law_227 : decode cL_law 227 = .ok (.iload_n 3, 1) := by decide +kernel
theorem dL_law_228 : decode cL_law 228 = .ok (.iconst 5, 1) := by decide +kernel
theorem dL_law_229 : decode cL_law 229 = .ok (.iadd, 1) := by decide +kernel
theorem dL_law_230 : decode cL_law 230 = .ok (.iaload, 1) := by decide +kernel
theorem dL_law_231 : decode cL_law 231 = .ok (.invokevirtual 29, 3) := by decide +kernel
theorem dL_law_234 : decode cL_law 234 = .ok (.if_icmp .eq 120, 3) := by decide +kernel
theorem dL_law_237 : decode cL_law 237 = .ok (.iconst 0, 1) := by decide +kernel
theorem dL_law_238 : decode cL_law 238 = .ok (.ireturn, 1) := by decide +kernel
theorem dL_law_239 : decode cL_law 239 = .ok (.aload_n 1, 1) := by decide +kernel
theorem dL_law_240 : decode cL_law 240 = .ok (.aload_n 0, 1) := by decide +kernel
theorem dL_law_241 : decode cL_law 241 = .ok (.iload_n 3, 1) := by decide +kernel
theorem dL_law_242 : decode cL_law 242 = .ok (.iconst 1, 1) := by decide +kernel
theorem dL_law_243 : decode cL_law 243 = .ok (.iadd, 1) := by decide +kernel
theorem dL_law_244 : decode cL_law 244 = .ok (.iaload, 1) := by decide +kernel
theorem dL_law_245 : decode cL_law 245 = .ok (.aload_n 0, 1) := by decide +kernel
theorem dL_law_246 : decode cL_law 246 = .ok (.iload_n 3, 1) := by decide +kernel
theorem dL_law_247 : decode cL_law 247 = .ok (.iconst 2, 1) := by decide +kernel
theorem dL_law_248 : decode cL_law 248 = .ok (.iadd, 1) := by decide +kernel
theorem dL_law_249 : decode cL_law 249 = .ok (.iaload, 1) := by decide +kernel
theorem dL_law_250 : decode cL_law 250 = .ok (.invokevirtual 30, 3) := by decide +kernel
theorem dL_law_253 : decode cL_law 253 = .ok (.aload_n 2, 1) := by decide +kernel
theorem dL_law_254 : decode cL_law 254 = .ok (.aload_n 0, 1) := by decide +kernel
theorem dL_law_255 : decode cL_law 255 = .ok (.iload_n 3, 1) := by decide +kernel
theorem dL_law_256 : decode cL_law 256 = .ok (.iconst 1, 1) := by decide +kernel
theorem dL_law_257 : decode cL_law 257 = .ok (.iadd, 1) := by decide +kernel
theorem dL_law_258 : decode cL_law 258 = .ok (.iaload, 1) := by decide +kernel
theorem dL_law_259 : decode cL_law 259 = .ok (.aload_n 0, 1) := by decide +kernel
theorem dL_law_260 : decode cL_law 260 = .ok (.iload_n 3, 1) := by decide +kernel
theorem dL_law_261 : decode cL_law 261 = .ok (.iconst 2, 1) := by decide +kernel
theorem dL_law_262 : decode cL_law 262 = .ok (.iadd, 1) := by decide +kernel
theorem dL_law_263 : decode cL_law 263 = .ok (.iaload, 1) := by decide +kernel
theorem dL_law_264 : decode cL_law 264 = .ok (.invokevirtual 34, 3) := by decide +kernel
theorem dL_law_267 : decode cL_law 267 = .ok (.if_icmp .eq 87, 3) := by decide +kernel
theorem dL_law_270 : decode cL_law 270 = .ok (.iconst 0, 1) := by decide +kernel
theorem dL_law_271 : decode cL_law 271 = .ok (.ireturn, 1) := by decide +kernel
theorem dL_law_272 : decode cL_law 272 = .ok (.aload_n 1, 1) := by decide +kernel
theorem dL_law_273 : decode cL_law 273 = .ok (.aload_n 0, 1) := by decide +kernel
theorem dL_law_274 : decode cL_law 274 = .ok (.iload_n 3, 1) := by decide +kernel
theorem dL_law_275 : decode cL_law 275 = .ok (.iconst 1, 1) := by decide +kernel
theorem dL_law_276 : decode cL_law 276 = .ok (.iadd, 1) := by decide +kernel
theorem dL_law_277 : decode cL_law 277 = .ok (.iaload, 1) := by decide +kernel
theorem dL_law_278 : decode cL_law 278 = .ok (.invokevirtual 35, 3) := by decide +kernel
theorem dL_law_281 : decode cL_law 281 = .ok (.aload_n 2, 1) := by decide +kernel
theorem dL_law_282 : decode cL_law 282 = .ok (.aload_n 0, 1) := by decide +kernel
theorem dL_law_283 : decode cL_law 283 = .ok (.iload_n 3, 1) := by decide +kernel
theorem dL_law_284 : decode cL_law 284 = .ok (.iconst 1, 1) := by decide +kernel
theorem dL_law_285 : decode cL_law 285 = .ok (.iadd, 1) := by decide +kernel
theorem dL_law_286 : decode cL_law 286 = .ok (.iaload, 1) := by decide +kernel
theorem dL_law_287 : decode cL_law 287 = .ok (.invokevirtual 39, 3) := by decide +kernel
theorem dL_law_290 : decode cL_law 290 = .ok (.if_icmp .eq 64, 3) := by decide +kernel
theorem dL_law_293 : decode cL_law 293 = .ok (.iconst 0, 1) := by decide +kernel
theorem dL_law_294 : decode cL_law 294 = .ok (.ireturn, 1) := by decide +kernel
theorem dL_law_295 : decode cL_law 295 = .ok (.aload_n 1, 1) := by decide +kernel
theorem dL_law_296 : decode cL_law 296 = .ok (.aload_n 0, 1) := by decide +kernel
theorem dL_law_297 : decode cL_law 297 = .ok (.iload_n 3, 1) := by decide +kernel
theorem dL_law_298 : decode cL_law 298 = .ok (.iconst 1, 1) := by decide +kernel
theorem dL_law_299 : decode cL_law 299 = .ok (.iadd, 1) := by decide +kernel
theorem dL_law_300 : decode cL_law 300 = .ok (.iaload, 1) := by decide +kernel
theorem dL_law_301 : decode cL_law 301 = .ok (.invokevirtual 40, 3) := by decide +kernel
theorem dL_law_304 : decode cL_law 304 = .ok (.aload_n 2, 1) := by decide +kernel
theorem dL_law_305 : decode cL_law 305 = .ok (.aload_n 0, 1) := by decide +kernel
theorem dL_law_306 : decode cL_law 306 = .ok (.iload_n 3, 1) := by decide +kernel
theorem dL_law_307 : decode cL_law 307 = .ok (.iconst 1, 1) := by decide +kernel
theorem dL_law_308 : decode cL_law 308 = .ok (.iadd, 1) := by decide +kernel
theorem dL_law_309 : decode cL_law 309 = .ok (.iaload, 1) := by decide +kernel
theorem dL_law_310 : decode cL_law 310 = .ok (.invokevirtual 43, 3) := by decide +kernel
theorem dL_law_313 : decode cL_law 313 = .ok (.if_icmp .eq 41, 3) := by decide +kernel
theorem dL_law_316 : decode cL_law 316 = .ok (.iconst 0, 1) := by decide +kernel
theorem dL_law_317 : decode cL_law 317 = .ok (.ireturn, 1) := by decide +kernel
theorem dL_law_318 : decode cL_law 318 = .ok (.aload_n 1, 1) := by decide +kernel
theorem dL_law_319 : decode cL_law 319 = .ok (.aload_n 0, 1) := by decide +kernel
theorem dL_law_320 : decode cL_law 320 = .ok (.iload_n 3, 1) := by decide +kernel
theorem dL_law_321 : decode cL_law 321 = .ok (.iconst 1, 1) := by decide +kernel
theorem dL_law_322 : decode cL_law 322 = .ok (.iadd, 1) := by decide +kernel
theorem dL_law_323 : decode cL_law 323 = .ok (.iaload, 1) := by decide +kernel
theorem dL_law_324 : decode cL_law 324 = .ok (.invokevirtual 44, 3) := by decide +kernel
theorem dL_law_327 : decode cL_law 327 = .ok (.aload_n 2, 1) := by decide +kernel
theorem dL_law_328 : decode cL_law 328 = .ok (.aload_n 0, 1) := by decide +kernel
theorem dL_law_329 : decode cL_law 329 = .ok (.iload_n 3, 1) := by decide +kernel
theorem dL_law_330 : decode cL_law 330 = .ok (.iconst 1, 1) := by decide +kernel
theorem dL_law_331 : decode cL_law 331 = .ok (.iadd, 1) := by decide +kernel
theorem dL_law_332 : decode cL_law 332 = .ok (.iaload, 1) := by decide +kernel
theorem dL_law_333 : decode cL_law 333 = .ok (.invokevirtual 47, 3) := by decide +kernel
theorem dL_law_336 : decode cL_law 336 = .ok (.if_icmp .eq 18, 3) := by decide +kernel
theorem dL_law_339 : decode cL_law 339 = .ok (.iconst 0, 1) := by decide +kernel
theorem dL_law_340 : decode cL_law 340 = .ok (.ireturn, 1) := by decide +kernel
theorem dL_law_341 : decode cL_law 341 = .ok (.aload_n 1, 1) := by decide +kernel
theorem dL_law_342 : decode cL_law 342 = .ok (.invokevirtual 48, 3) := by decide +kernel
theorem dL_law_345 : decode cL_law 345 = .ok (.aload_n 2, 1) := by decide +kernel
theorem dL_law_346 : decode cL_law 346 = .ok (.invokevirtual 52, 3) := by decide +kernel
theorem dL_law_349 : decode cL_law 349 = .ok (.if_icmp .eq 5, 3) := by decide +kernel
theorem dL_law_352 : decode cL_law 352 = .ok (.iconst 0, 1) := by decide +kernel
theorem dL_law_353 : decode cL_law 353 = .ok (.ireturn, 1) := by decide +kernel
theorem dL_law_354 : decode cL_law 354 = .ok (.iinc 3 6, 3) := by decide +kernel
theorem dL_law_357 : decode cL_law 357 = .ok (.goto (-339), 3) := by decide +kernel
theorem dL_law_360 : decode cL_law 360 = .ok (.iconst 1, 1) := by decide +kernel
theorem dL_law_361 : decode cL_law 361 = .ok (.ireturn, 1) := by decide +kernel
end
section
-- ===== the base: the common words, the common premises, calls in one row =====
def es_good (w : Cond) : Bool := (w.onTables && w.keeps) || (match w with | .arrayClass _ => true | _ => false)
def es_T : List Cond := lw_tbl.filter es_good
theorem es_in {w : Cond} (i : Nat) (h : lw_tbl[i]? = some w) (g : es_good w = true) : w ∈ es_T := List.mem_filter.mpr ⟨List.mem_of_getElem? h, g⟩
theorem es_tbl {w : Cond} (h : w ∈ es_T) : w ∈ lw_tbl := (List.mem_filter.mp h).1
theorem es_gd {w : Cond} (h : w ∈ es_T) : (w.onTables && w.keeps) = true ∨ ∃ ty, w = .arrayClass ty := by
  have g := (List.mem_filter.mp h).2
  unfold es_good at g
  cases hq : (w.onTables && w.keeps) with
  | true => exact Or.inl rfl
  | false =>
    rw [hq] at g
    cases w <;> first | exact Or.inr ⟨_, rfl⟩ | (simp at g; done)
theorem es_c {w : Cond} (h : w ∈ es_T) : GoodIn es_T (w :: es_T) := by
  intro x hx
  rcases List.mem_cons.mp hx with rfl | hx
  · exact ⟨h, es_gd h⟩
  · exact ⟨hx, es_gd hx⟩
theorem es_v {own : String} {idx : Nat} {C : String} {y : MethodName} {w : Cond} (h : w ∈ es_T) (h1 : Cond.methodLink own idx y ∈ es_T) (h2 : Cond.instanceMethod y ∈ es_T) (h3 : Cond.selects C y y ∈ es_T) (h4 : Cond.initialized C ∈ es_T) : GoodIn es_T (wsV own idx C y (w :: es_T)) := by
  intro x hx
  unfold wsV at hx
  rcases List.mem_append.mp hx with hx | hx
  · simp only [List.mem_cons, List.not_mem_nil, or_false] at hx
    rcases hx with rfl | rfl | rfl | rfl
    · exact ⟨h1, es_gd h1⟩
    · exact ⟨h2, es_gd h2⟩
    · exact ⟨h3, es_gd h3⟩
    · exact ⟨h4, es_gd h4⟩
  · exact es_c h x hx
theorem es_s {own : String} {idx : Nat} {y : MethodName} {w : Cond} (h : w ∈ es_T) (h1 : Cond.methodLink own idx y ∈ es_T) (h2 : Cond.static y ∈ es_T) (h4 : Cond.initialized own ∈ es_T) : GoodIn es_T (wsS own idx y (w :: es_T)) := by
  intro x hx
  unfold wsS at hx
  rcases List.mem_append.mp hx with hx | hx
  · simp only [List.mem_cons, List.not_mem_nil, or_false] at hx
    rcases hx with rfl | rfl | rfl
    · exact ⟨h1, es_gd h1⟩
    · exact ⟨h2, es_gd h2⟩
    · exact ⟨h4, es_gd h4⟩
  · exact es_c h x hx
theorem es_so {own : String} {idx : Nat} {y : MethodName} {w : Cond} (h : w ∈ es_T) (h1 : Cond.methodLink own idx y ∈ es_T) (h2 : Cond.static y ∈ es_T) (h4 : Cond.initialized y.cls ∈ es_T) : GoodIn es_T (va_wsS own idx y (w :: es_T)) := by
  intro x hx
  unfold va_wsS at hx
  rcases List.mem_append.mp hx with hx | hx
  · simp only [List.mem_cons, List.not_mem_nil, or_false] at hx
    rcases hx with rfl | rfl | rfl
    · exact ⟨h1, es_gd h1⟩
    · exact ⟨h2, es_gd h2⟩
    · exact ⟨h4, es_gd h4⟩
  · exact es_c h x hx
def es_nw (U : State) : Prop := va_Nw (.methodLinkNest RX3 18 yX2_init RX3) U ∧ va_Nw (.methodLinkNest RX3 25 yX0_init RX3) U ∧ va_Nw (.methodLinkNest RX2 29 yX3_unpack RX3) U
theorem es_nw_warm {s U : State} (hW : s.WarmedH U.vm) (h : es_nw s) : es_nw U := ⟨va_Nw.warmM hW h.1, va_Nw.warmM hW h.2.1, va_Nw.warmM hW h.2.2⟩
theorem es_nw_same {u U : State} (e : u.vm = U.vm) (h : es_nw u) : es_nw U := ⟨va_Nw.same rfl e h.1, va_Nw.same rfl e h.2.1, va_Nw.same rfl e h.2.2⟩
/-- what holds in every state: the classes, the class of int arrays, the nest's links -/
def es_K (D : va_G) (cI : ClassId) (U : State) : Prop := va_K D vwCl [(cI, .int)] U ∧ es_nw U
theorem es_K.warm {D : va_G} {cI : ClassId} {s U : State} (hW : s.WarmedH U.vm) (h : es_K D cI s) : es_K D cI U := ⟨va_K.moved hW.alike h.1, es_nw_warm hW h.2⟩
theorem es_K.call {D : va_G} {cI : ClassId} {U : State} {g : JFrame} {mk : MethodId} {a : Array Value} (h : es_K D cI U) : es_K D cI (U.calling g mk a) := ⟨va_K.moved (u := U) (U := U.calling g mk a) (Vm.Alike.refl U.vm) h.1, es_nw_same rfl h.2⟩
/-- a reading method's start -/
abbrev es_R (D : va_G) (cI : ClassId) (ws : va_W) (U : State) : Prop := va_P D vwCl ws U.heap ∧ es_K D cI U
/-- a writing method's start -/
abbrev es_W (D : va_G) (cI : ClassId) (sz : Nat) (ws : va_W) (U : State) : Prop := U.heap.size = sz ∧ va_P D vwCl ws U.heap ∧ es_K D cI U ∧ va_D (fun _ => True) ws
/-- a writing method's end -/
abbrev es_E (D : va_G) (sz : Nat) (ws ws' : va_W) (t : State) : Prop := va_P D vwCl ws' t.heap ∧ va_D (va_A ws sz) ws'
theorem es_RS {D : va_G} {cI : ClassId} {s : State} {H : Heap} {As : List Value} {ws : va_W} (hK : es_K D cI s) (hP : va_P D vwCl ws H) : PreS s H (va_Pc As (es_R D cI ws)) As :=
  ⟨fun _ _ _ _ q => ⟨q.1, q.2.1, q.2.2.call⟩, fun U hU hW => ⟨rfl, by rw [hU]; exact hP, hK.warm hW⟩⟩
theorem es_RV {D : va_G} {cI : ClassId} {s : State} {H : Heap} {b : Nat} {As : List Value} {ws : va_W} {ci : Nat} {q : vw_C} {fs : List Value} (hK : es_K D cI s) (hP : va_P D vwCl ws H) (hc : vwCl[ci]? = some q) (he : ws[0]? = some (b, .inr (ci, fs))) : PreV s H q.1 b (va_Pc (.ref b :: As) (es_R D cI ws)) As :=
  ⟨fun _ _ _ _ q => ⟨q.1, q.2.1, q.2.2.call⟩, va_recv hK.1 hP hc he, fun U hU hW => ⟨rfl, by rw [hU]; exact hP, hK.warm hW⟩⟩
theorem es_WS {D : va_G} {cI : ClassId} {s : State} {H : Heap} {As : List Value} {ws : va_W} {A : Nat → Prop} (hK : es_K D cI s) (hP : va_P D vwCl ws H) (hD : va_D A ws) : PreS s H (va_Pc As (es_W D cI H.size ws)) As :=
  ⟨fun _ _ _ _ q => ⟨q.1, q.2.1, q.2.2.1, q.2.2.2.1.call, q.2.2.2.2⟩, fun U hU hW => ⟨rfl, by rw [hU], by rw [hU]; exact hP, hK.warm hW, hD.weaken (fun _ _ _ _ => trivial)⟩⟩
theorem es_WV {D : va_G} {cI : ClassId} {s : State} {H : Heap} {b : Nat} {As : List Value} {ws : va_W} {A : Nat → Prop} {ci : Nat} {q : vw_C} {fs : List Value} (hK : es_K D cI s) (hP : va_P D vwCl ws H) (hD : va_D A ws) (hc : vwCl[ci]? = some q) (he : ws[0]? = some (b, .inr (ci, fs))) : PreV s H q.1 b (va_Pc (.ref b :: As) (es_W D cI H.size ws)) As :=
  ⟨fun _ _ _ _ q => ⟨q.1, q.2.1, q.2.2.1, q.2.2.2.1.call, q.2.2.2.2⟩, va_recv hK.1 hP hc he, fun U hU hW => ⟨rfl, by rw [hU], by rw [hU]; exact hP, hK.warm hW, hD.weaken (fun _ _ _ _ => trivial)⟩⟩
section ESC
variable {p : Program} {l : Launch} {e : Env} {R : Room} {s : State} {m : MethodId} {args : Array Value} {below : List Frame} {meth : Method} {c : Code} {H : Heap} {locs : List Loc} {cells slots : Nat} {Q : State → Prop}
variable {pc : Nat} {ls : Array Slot} {rest st0 : List Value} {a : Array Value} {A0 : Nat → Prop} {H0 : Heap} {mc ms : Nat}
/-- behind a writing call that answers an int -/
theorem es_ci {S : Type} {post : Int32 → S → Prop} {D : va_G} {ws wc wr : va_W} {w1 : S → va_W}
    (hr : va_Run p l e R s m args below meth c H locs cells slots mc ms (F0 m pc ls st0) rest (va_Qi post (fun u t => es_E D H.size wc (w1 u) t) (va_A wc H.size) a) (va_A wc H.size))
    (hP : va_P D vwCl ws H) (hD : va_D A0 ws) (hS : va_S A0 H0 H locs) (hA : ∀ q, H0.size ≤ q → A0 q) (isC isR : List Nat) (hC : isC.map (fun i => ws[i]?) = wc.map some) (hR : isR.map (fun i => ws[i]?) = wr.map some) (hn : va_nd isR = true) (hdis : ∀ i ∈ isR, i ∉ isC)
    (kk : ∀ (r : Int32) (u : S) (H1 : Heap) (locs1 : List Loc), post r u → va_P D vwCl (wr ++ w1 u) H1 → va_D A0 (wr ++ w1 u) → va_S A0 H0 H1 locs1 → W p l e R s m args below meth c H1 locs1 (cells + mc) (slots + ms) Q (F0 m (pc + 3) ls (.int r :: rest))) : W p l e R s m args below meth c H locs cells slots Q (F0 m pc ls st0) := by
  have hFc := va_free (wc := wc) hD hS hA isC hC
  refine va_calli hr hS (fun q _ h => hFc q h) hFc (fun r u t H1 locs1 ht hvm hw hB hz1 hk1 hS1 => ?_)
  obtain ⟨hP1, hD1⟩ := hB
  rw [ht] at hP1
  obtain ⟨hP2, hD2⟩ := va_join (wr := wr) hP hD isC isR hC hR hn hdis hk1 hFc hP1 hD1
  exact kk r u H1 locs1 hw hP2 hD2 hS1
/-- behind a writing call without an answer -/
theorem es_cv {S : Type} {post : S → Prop} {D : va_G} {ws wc wr : va_W} {w1 : S → va_W}
    (hr : va_Run p l e R s m args below meth c H locs cells slots mc ms (F0 m pc ls st0) rest (va_Qv post (fun u t => es_E D H.size wc (w1 u) t) (va_A wc H.size) a) (va_A wc H.size))
    (hP : va_P D vwCl ws H) (hD : va_D A0 ws) (hS : va_S A0 H0 H locs) (hA : ∀ q, H0.size ≤ q → A0 q) (isC isR : List Nat) (hC : isC.map (fun i => ws[i]?) = wc.map some) (hR : isR.map (fun i => ws[i]?) = wr.map some) (hn : va_nd isR = true) (hdis : ∀ i ∈ isR, i ∉ isC)
    (kk : ∀ (u : S) (H1 : Heap) (locs1 : List Loc), post u → va_P D vwCl (wr ++ w1 u) H1 → va_D A0 (wr ++ w1 u) → va_S A0 H0 H1 locs1 → W p l e R s m args below meth c H1 locs1 (cells + mc) (slots + ms) Q (F0 m (pc + 3) ls rest)) : W p l e R s m args below meth c H locs cells slots Q (F0 m pc ls st0) := by
  have hFc := va_free (wc := wc) hD hS hA isC hC
  refine va_callv hr hS (fun q _ h => hFc q h) hFc (fun u t H1 locs1 ht hvm hw hB hz1 hk1 hS1 => ?_)
  obtain ⟨hP1, hD1⟩ := hB
  rw [ht] at hP1
  obtain ⟨hP2, hD2⟩ := va_join (wr := wr) hP hD isC isR hC hR hn hdis hk1 hFc hP1 hD1
  exact kk u H1 locs1 hw hP2 hD2 hS1
/-- the number on the stack by another name -/
theorem es_top {x y : Int32} (h : x = y) (k : W p l e R s m args below meth c H locs cells slots Q (F0 m pc ls (.int y :: rest))) : W p l e R s m args below meth c H locs cells slots Q (F0 m pc ls (.int x :: rest)) := h ▸ k
theorem es_topl {x y : Int64} (h : x = y) (k : W p l e R s m args below meth c H locs cells slots Q (F0 m pc ls (.long y :: rest))) : W p l e R s m args below meth c H locs cells slots Q (F0 m pc ls (.long x :: rest)) := h ▸ k
variable {cc : ByteArray} {D : va_G} {cl : List vw_C} {A : Nat → Prop} {q : Nat} {tys : List (ClassId × FieldType)} {ws : va_W}
/-- an int array's element at a Nat -/
theorem es_iald (hexec : p.tables.exec = Jvm.exec) (hb : c.code = cc) (hK : va_K D cl tys s) (hP : va_P D cl ws H) (q0 t0 : Nat) {cA : ClassId} {n : Nat} {f : Nat → Int32} (ha : ws[q0]? = some (q, .inl (cA, n, .inl f))) (ht : tys[t0]? = some (cA, .int)) {j : Nat} (hj : j < n) (hn : n < 2 ^ 31) (hdg : decode cc pc = .ok (.iaload, 1))
    (kk : W p l e R s m args below meth c H locs cells slots Q (F0 m (pc + 1) ls (.int (f j) :: rest))) : W p l e R s m args below meth c H locs cells slots Q (F0 m pc ls (.int (nI j) :: .ref q :: rest)) :=
  va_iald hexec hb hK hP q0 t0 ha ht (vp_in_nI hj hn) hdg (by rw [nI_clamp (by omega)]; exact kk)
theorem es_iast (hexec : p.tables.exec = Jvm.exec) (hb : c.code = cc) (hK : va_K D cl tys s) (hP : va_P D cl ws H) (hD : va_D A ws) (hS : va_S A H0 H locs) (q0 t0 : Nat) {cA : ClassId} {n : Nat} {f : Nat → Int32} (ha : ws[q0]? = some (q, .inl (cA, n, .inl f))) (ht : tys[t0]? = some (cA, .int)) {j : Nat} {x : Int32} (hj : j < n) (hn : n < 2 ^ 31) (hdg : decode cc pc = .ok (.iastore, 1))
    (kk : ∀ (H1 : Heap) (locs1 : List Loc), va_P D cl (ws.set q0 (q, .inl (cA, n, .inl (upd f j x)))) H1 → va_D A (ws.set q0 (q, .inl (cA, n, .inl (upd f j x)))) → va_S A H0 H1 locs1 → W p l e R s m args below meth c H1 locs1 cells slots Q (F0 m (pc + 1) ls rest)) : W p l e R s m args below meth c H locs cells slots Q (F0 m pc ls (.int x :: .int (nI j) :: .ref q :: rest)) :=
  va_iast hexec hb hK hP hD hS q0 t0 ha ht (vp_in_nI hj hn) hdg (by rw [nI_clamp (by omega)]; exact kk)
/-- a new int array: its class is the one that we know -/
theorem es_newa {cI : ClassId} (hexec : p.tables.exec = Jvm.exec) (hb : c.code = cc) (harr : (Cond.arrayClass .int).before args s = true) (hK : va_K D vwCl [(cI, .int)] s) (hP : va_P D vwCl ws H) (hD : va_D A ws) (hS : va_S A H0 H locs) (hA : ∀ q, H0.size ≤ q → A q)
    {n : Int32} {N' : Nat} (hn : ¬ n < 0) (hN : n.toNatClampNeg = N') (hcells : cells + 1 ≤ R.cells) (hslots : slots + N' ≤ R.slots) (hbytes : N' * componentBytes .int ≤ 536870912) (hdg : decode cc pc = .ok (.newarray .int, 2))
    (kk : ∀ (q : Nat) (H1 : Heap), va_P D vwCl (ws ++ [(q, .inl (cI, N', .inl (fun _ => 0)))]) H1 → va_D A (ws ++ [(q, .inl (cI, N', .inl (fun _ => 0)))]) → va_S A H0 H1 locs → W p l e R s m args below meth c H1 locs (cells + 1) (slots + N') Q (F0 m (pc + 2) ls (.ref q :: rest))) : W p l e R s m args below meth c H locs cells slots Q (F0 m pc ls (.int n :: rest)) := by
  refine va_newa (atype := .int) (ty := .int) (N' := N') (a0 := (N', .inl (fun _ => 0))) hexec hb harr rfl hK hP hD hS hA (fun cA => rfl) hn hN hbytes hcells hslots hdg (fun q cA H1 hK1 hP1 hD1 hS1 => ?_)
  have e1 : s.vm.findClass ("[" ++ (FieldType.int).toString) = some cI := (hK.2 0 (cI, .int) rfl).2
  have e2 : s.vm.findClass ("[" ++ (FieldType.int).toString) = some cA := (hK1.2 1 (cA, .int) rfl).2
  have e3 : cA = cI := Option.some.inj (e2.symm.trans e1)
  subst e3
  exact kk q H1 hP1 hD1 hS1
end ESC
theorem es_ne {x : Int32} {k : Int32} (h : ¬ x = k) : x.toInt ≠ k.toInt := fun e => h (Int32.toInt_inj.mp e)
theorem es_out4 {x : Int32} (h0 : ¬ x = 0) (h1 : ¬ x = 1) (h2 : ¬ x = 2) (h3 : ¬ x = 3) : x.toInt < 0 ∨ 3 < x.toInt := by
  have a0 := es_ne h0; have a1 := es_ne h1; have a2 := es_ne h2; have a3 := es_ne h3
  simp only [show (0 : Int32).toInt = 0 from rfl, show (1 : Int32).toInt = 1 from rfl, show (2 : Int32).toInt = 2 from rfl, show (3 : Int32).toInt = 3 from rfl] at a0 a1 a2 a3
  omega
theorem es_out7 {x : Int32} (h0 : ¬ x = 0) (h1 : ¬ x = 1) (h2 : ¬ x = 2) (h3 : ¬ x = 3) (h4 : ¬ x = 4) (h5 : ¬ x = 5) (h6 : ¬ x = 6) : x.toInt < 0 ∨ 6 < x.toInt := by
  have a0 := es_ne h0; have a1 := es_ne h1; have a2 := es_ne h2; have a3 := es_ne h3; have a4 := es_ne h4; have a5 := es_ne h5; have a6 := es_ne h6
  simp only [show (0 : Int32).toInt = 0 from rfl, show (1 : Int32).toInt = 1 from rfl, show (2 : Int32).toInt = 2 from rfl, show (3 : Int32).toInt = 3 from rfl, show (4 : Int32).toInt = 4 from rfl, show (5 : Int32).toInt = 5 from rfl, show (6 : Int32).toInt = 6 from rfl] at a0 a1 a2 a3 a4 a5 a6
  omega
/-- rows by their numbers -/
def es_row4 (a b c d : Nat → Int32) : Nat → Nat → Int32 := fun k => match k with | 0 => a | 1 => b | 2 => c | _ => d
theorem iwX0 : ∀ w ∈ u_ws RX0 TX0 5, w ∈ es_T := by decide +kernel
theorem iwX1 : ∀ w ∈ u_ws RX1 TX1 2, w ∈ es_T := by decide +kernel
theorem iwX2 : ∀ w ∈ u_ws RX2 TX2 2, w ∈ es_T := by decide +kernel
theorem iwX3 : ∀ w ∈ u_ws RX3 TX3 7, w ∈ es_T := by decide +kernel
theorem iwX4 : ∀ w ∈ u_ws RX4 TX4 21, w ∈ es_T := by decide +kernel
end
