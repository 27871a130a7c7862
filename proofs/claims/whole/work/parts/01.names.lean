-- ===== PART A: goes FIRST, ahead of the names: the tables' words, and 'selects' of the private methods out of them =====
/-- a private method of a class that the tables say can be made, by its rows of tables_1 -/
def lw_okq (q : MethodName × Nat) : Prop := (q.1.cls ≠ "java/lang/invoke/MethodHandle" ∧ q.1.cls ≠ "java/lang/invoke/VarHandle") ∧ Cond.instantiable q.1.cls q.2 ∈ tables_1 ∧ Cond.privateMethod q.1 ∈ tables_1 ∧ Cond.instanceMethod q.1 ∈ tables_1
theorem lw_p0 : lw_okq (⟨"EditedScanner", "scanAnew", "(III)V"⟩, 7) := ⟨⟨by decide +kernel, by decide +kernel⟩, List.mem_of_getElem? (i := 10) (by decide +kernel), List.mem_of_getElem? (i := 153) (by decide +kernel), List.mem_of_getElem? (i := 154) (by decide +kernel)⟩
theorem lw_p1 : lw_okq (⟨"EditedScanner$Findings", "has", "(I)Z"⟩, 5) := ⟨⟨by decide +kernel, by decide +kernel⟩, List.mem_of_getElem? (i := 52) (by decide +kernel), List.mem_of_getElem? (i := 184) (by decide +kernel), List.mem_of_getElem? (i := 185) (by decide +kernel)⟩
theorem lw_p2 : lw_okq (⟨"EditedScanner", "scanOne", "(I)V"⟩, 7) := ⟨⟨by decide +kernel, by decide +kernel⟩, List.mem_of_getElem? (i := 10) (by decide +kernel), List.mem_of_getElem? (i := 192) (by decide +kernel), List.mem_of_getElem? (i := 193) (by decide +kernel)⟩
theorem lw_p3 : lw_okq (⟨"EditedScannerModel", "forget", "()V"⟩, 21) := ⟨⟨by decide +kernel, by decide +kernel⟩, List.mem_of_getElem? (i := 263) (by decide +kernel), List.mem_of_getElem? (i := 269) (by decide +kernel), List.mem_of_getElem? (i := 270) (by decide +kernel)⟩
theorem lw_p4 : lw_okq (⟨"EditedScannerModel", "change", "(IIJI)V"⟩, 21) := ⟨⟨by decide +kernel, by decide +kernel⟩, List.mem_of_getElem? (i := 263) (by decide +kernel), List.mem_of_getElem? (i := 351) (by decide +kernel), List.mem_of_getElem? (i := 352) (by decide +kernel)⟩
theorem lw_p5 : lw_okq (⟨"EditedScannerModel", "goOver", "(IIII)V"⟩, 21) := ⟨⟨by decide +kernel, by decide +kernel⟩, List.mem_of_getElem? (i := 263) (by decide +kernel), List.mem_of_getElem? (i := 355) (by decide +kernel), List.mem_of_getElem? (i := 356) (by decide +kernel)⟩
theorem lw_p6 : lw_okq (⟨"EditedScannerModel", "began", "(I)Z"⟩, 21) := ⟨⟨by decide +kernel, by decide +kernel⟩, List.mem_of_getElem? (i := 263) (by decide +kernel), List.mem_of_getElem? (i := 359) (by decide +kernel), List.mem_of_getElem? (i := 360) (by decide +kernel)⟩
theorem lw_p7 : lw_okq (⟨"EditedScannerModel", "scan", "(I)Z"⟩, 21) := ⟨⟨by decide +kernel, by decide +kernel⟩, List.mem_of_getElem? (i := 263) (by decide +kernel), List.mem_of_getElem? (i := 363) (by decide +kernel), List.mem_of_getElem? (i := 364) (by decide +kernel)⟩
theorem lw_p8 : lw_okq (⟨"EditedScannerModel", "scanAll", "()V"⟩, 21) := ⟨⟨by decide +kernel, by decide +kernel⟩, List.mem_of_getElem? (i := 263) (by decide +kernel), List.mem_of_getElem? (i := 367) (by decide +kernel), List.mem_of_getElem? (i := 368) (by decide +kernel)⟩
def lw_privs_1 : List (MethodName × Nat) := [(⟨"EditedScanner", "scanAnew", "(III)V"⟩, 7), (⟨"EditedScanner$Findings", "has", "(I)Z"⟩, 5), (⟨"EditedScanner", "scanOne", "(I)V"⟩, 7), (⟨"EditedScannerModel", "forget", "()V"⟩, 21), (⟨"EditedScannerModel", "change", "(IIJI)V"⟩, 21), (⟨"EditedScannerModel", "goOver", "(IIII)V"⟩, 21), (⟨"EditedScannerModel", "began", "(I)Z"⟩, 21), (⟨"EditedScannerModel", "scan", "(I)Z"⟩, 21), (⟨"EditedScannerModel", "scanAll", "()V"⟩, 21)]
theorem lw_r1 : ∀ q ∈ lw_privs_1, lw_okq q := List.forall_mem_cons.mpr ⟨lw_p0, List.forall_mem_cons.mpr ⟨lw_p1, List.forall_mem_cons.mpr ⟨lw_p2, List.forall_mem_cons.mpr ⟨lw_p3, List.forall_mem_cons.mpr ⟨lw_p4, List.forall_mem_cons.mpr ⟨lw_p5, List.forall_mem_cons.mpr ⟨lw_p6, List.forall_mem_cons.mpr ⟨lw_p7, List.forall_mem_cons.mpr ⟨lw_p8, fun _ h => absurd h List.not_mem_nil⟩⟩⟩⟩⟩⟩⟩⟩⟩
def lw_privs : List (MethodName × Nat) := lw_privs_1
def lw_tbl : List Cond := k2_sels lw_privs ++ tables_1
theorem lw_privs_ok : ∀ q ∈ lw_privs, lw_okq q := lw_r1
def RX0 : String := "EditedScanner$Findings"
def TX0 : u_T := fun k => match k with
  | 0 => ("EditedScanner$Findings", "begins", "[I", true)
  | 1 => ("EditedScanner$Findings", "lengths", "[I", true)
  | 2 => ("EditedScanner$Findings", "kinds", "[I", true)
  | 3 => ("EditedScanner$Findings", "looks", "[I", true)
  | _ => ("EditedScanner$Findings", "size", "I", false)
def tyX0 : Nat → FieldType := fun k => match k with
  | 0 => .array .int
  | 1 => .array .int
  | 2 => .array .int
  | 3 => .array .int
  | _ => .int
abbrev wsX00 : List Cond := u_ws RX0 TX0 5
theorem nmX0 : ∀ a, a < 5 → ∀ b, b < 5 → a ≠ b → (TX0 a).2.1 ≠ (TX0 b).2.1 := by decide +kernel
theorem tyX0_ok : ∀ k, k < 5 → parseFieldDescriptor (TX0 k).2.2.1 = some (tyX0 k) := by decide +kernel
abbrev cX0_init : ByteArray := prog_2_method_1_code
def yX0_init : MethodName := ⟨RX0, "<init>", "()V"⟩
abbrev cX0_forget : ByteArray := prog_2_method_2_code
def yX0_forget : MethodName := ⟨RX0, "forget", "()V"⟩
abbrev cX0_size : ByteArray := prog_2_method_3_code
def yX0_size : MethodName := ⟨RX0, "size", "()I"⟩
abbrev cX0_failed : ByteArray := prog_2_method_4_code
def yX0_failed : MethodName := ⟨RX0, "failed", "()Z"⟩
abbrev cX0_tokens : ByteArray := prog_2_method_5_code
def yX0_tokens : MethodName := ⟨RX0, "tokens", "()I"⟩
abbrev cX0_begin : ByteArray := prog_2_method_6_code
def yX0_begin : MethodName := ⟨RX0, "begin", "(I)I"⟩
abbrev cX0_length : ByteArray := prog_2_method_7_code
def yX0_length : MethodName := ⟨RX0, "length", "(I)I"⟩
abbrev cX0_kindFound : ByteArray := prog_2_method_8_code
def yX0_kindFound : MethodName := ⟨RX0, "kindFound", "(I)I"⟩
abbrev cX0_looked : ByteArray := prog_2_method_9_code
def yX0_looked : MethodName := ⟨RX0, "looked", "(I)I"⟩
abbrev cX0_nextBegin : ByteArray := prog_2_method_10_code
def yX0_nextBegin : MethodName := ⟨RX0, "nextBegin", "()I"⟩
abbrev cX0_tokenAround : ByteArray := prog_2_method_11_code
def yX0_tokenAround : MethodName := ⟨RX0, "tokenAround", "(I)I"⟩
abbrev cX0_firstThatLookedAt : ByteArray := prog_2_method_12_code
def yX0_firstThatLookedAt : MethodName := ⟨RX0, "firstThatLookedAt", "(I)I"⟩
abbrev cX0_firstFrom : ByteArray := prog_2_method_13_code
def yX0_firstFrom : MethodName := ⟨RX0, "firstFrom", "(II)I"⟩
abbrev cX0_add : ByteArray := prog_2_method_14_code
def yX0_add : MethodName := ⟨RX0, "add", "(IIII)V"⟩
abbrev cX0_takeUpTo : ByteArray := prog_2_method_15_code
def yX0_takeUpTo : MethodName := ⟨RX0, "takeUpTo", "(LEditedScanner$Findings;I)V"⟩
abbrev cX0_takeMoved : ByteArray := prog_2_method_16_code
def yX0_takeMoved : MethodName := ⟨RX0, "takeMoved", "(LEditedScanner$Findings;II)V"⟩
abbrev cX0_has : ByteArray := prog_2_method_17_code
def yX0_has : MethodName := ⟨RX0, "has", "(I)Z"⟩
def RX1 : String := "EditedScanner$Table"
def TX1 : u_T := fun k => match k with
  | 0 => ("EditedScanner$Table", "arrows", "[I", true)
  | _ => ("EditedScanner$Table", "kinds", "[I", true)
def tyX1 : Nat → FieldType := fun k => match k with
  | 0 => .array .int
  | _ => .array .int
abbrev wsX10 : List Cond := u_ws RX1 TX1 2
theorem nmX1 : ∀ a, a < 2 → ∀ b, b < 2 → a ≠ b → (TX1 a).2.1 ≠ (TX1 b).2.1 := by decide +kernel
theorem tyX1_ok : ∀ k, k < 2 → parseFieldDescriptor (TX1 k).2.2.1 = some (tyX1 k) := by decide +kernel
abbrev cX1_init : ByteArray := prog_3_method_1_code
def yX1_init : MethodName := ⟨RX1, "<init>", "()V"⟩
abbrev cX1_forget : ByteArray := prog_3_method_2_code
def yX1_forget : MethodName := ⟨RX1, "forget", "()V"⟩
abbrev cX1_setArrow : ByteArray := prog_3_method_3_code
def yX1_setArrow : MethodName := ⟨RX1, "setArrow", "(III)Z"⟩
abbrev cX1_setKind : ByteArray := prog_3_method_4_code
def yX1_setKind : MethodName := ⟨RX1, "setKind", "(II)Z"⟩
abbrev cX1_next : ByteArray := prog_3_method_5_code
def yX1_next : MethodName := ⟨RX1, "next", "(II)I"⟩
abbrev cX1_kindOf : ByteArray := prog_3_method_6_code
def yX1_kindOf : MethodName := ⟨RX1, "kindOf", "(I)I"⟩
abbrev cX1_isState : ByteArray := prog_3_method_7_code
def yX1_isState : MethodName := ⟨RX1, "isState", "(I)Z"⟩
abbrev cX1_isSymbol : ByteArray := prog_3_method_8_code
def yX1_isSymbol : MethodName := ⟨RX1, "isSymbol", "(I)Z"⟩
def RX2 : String := "EditedScanner$Text"
def TX2 : u_T := fun k => match k with
  | 0 => ("EditedScanner$Text", "row", "[I", true)
  | _ => ("EditedScanner$Text", "size", "I", false)
def tyX2 : Nat → FieldType := fun k => match k with
  | 0 => .array .int
  | _ => .int
abbrev wsX20 : List Cond := u_ws RX2 TX2 2
theorem nmX2 : ∀ a, a < 2 → ∀ b, b < 2 → a ≠ b → (TX2 a).2.1 ≠ (TX2 b).2.1 := by decide +kernel
theorem tyX2_ok : ∀ k, k < 2 → parseFieldDescriptor (TX2 k).2.2.1 = some (tyX2 k) := by decide +kernel
abbrev cX2_init : ByteArray := prog_4_method_1_code
def yX2_init : MethodName := ⟨RX2, "<init>", "()V"⟩
abbrev cX2_forget : ByteArray := prog_4_method_2_code
def yX2_forget : MethodName := ⟨RX2, "forget", "()V"⟩
abbrev cX2_size : ByteArray := prog_4_method_3_code
def yX2_size : MethodName := ⟨RX2, "size", "()I"⟩
abbrev cX2_isEmpty : ByteArray := prog_4_method_4_code
def yX2_isEmpty : MethodName := ⟨RX2, "isEmpty", "()Z"⟩
abbrev cX2_at : ByteArray := prog_4_method_5_code
def yX2_at : MethodName := ⟨RX2, "at", "(I)I"⟩
abbrev cX2_canReplace : ByteArray := prog_4_method_6_code
def yX2_canReplace : MethodName := ⟨RX2, "canReplace", "(III)Z"⟩
abbrev cX2_replace : ByteArray := prog_4_method_7_code
def yX2_replace : MethodName := ⟨RX2, "replace", "(IIJI)V"⟩
def RX3 : String := "EditedScanner"
def TX3 : u_T := fun k => match k with
  | 0 => ("EditedScanner", "table", "LEditedScanner$Table;", true)
  | 1 => ("EditedScanner", "text", "LEditedScanner$Text;", true)
  | 2 => ("EditedScanner", "found", "LEditedScanner$Findings;", false)
  | 3 => ("EditedScanner", "spare", "LEditedScanner$Findings;", false)
  | 4 => ("EditedScanner", "readByLast", "I", false)
  | 5 => ("EditedScanner", "scannedByLast", "I", false)
  | _ => ("EditedScanner", "edits", "I", false)
def tyX3 : Nat → FieldType := fun k => match k with
  | 0 => .object "EditedScanner$Table"
  | 1 => .object "EditedScanner$Text"
  | 2 => .object "EditedScanner$Findings"
  | 3 => .object "EditedScanner$Findings"
  | 4 => .int
  | 5 => .int
  | _ => .int
abbrev wsX30 : List Cond := u_ws RX3 TX3 7
theorem nmX3 : ∀ a, a < 7 → ∀ b, b < 7 → a ≠ b → (TX3 a).2.1 ≠ (TX3 b).2.1 := by decide +kernel
theorem tyX3_ok : ∀ k, k < 7 → parseFieldDescriptor (TX3 k).2.2.1 = some (tyX3 k) := by decide +kernel
abbrev cX3_init : ByteArray := prog_1_method_1_code
def yX3_init : MethodName := ⟨RX3, "<init>", "()V"⟩
abbrev cX3_arrow : ByteArray := prog_1_method_2_code
def yX3_arrow : MethodName := ⟨RX3, "arrow", "(III)Z"⟩
abbrev cX3_kind : ByteArray := prog_1_method_3_code
def yX3_kind : MethodName := ⟨RX3, "kind", "(II)Z"⟩
abbrev cX3_edit : ByteArray := prog_1_method_4_code
def yX3_edit : MethodName := ⟨RX3, "edit", "(IIJI)I"⟩
abbrev cX3_token : ByteArray := prog_1_method_5_code
def yX3_token : MethodName := ⟨RX3, "token", "(II)I"⟩
abbrev cX3_tokenAt : ByteArray := prog_1_method_6_code
def yX3_tokenAt : MethodName := ⟨RX3, "tokenAt", "(I)I"⟩
abbrev cX3_symbol : ByteArray := prog_1_method_7_code
def yX3_symbol : MethodName := ⟨RX3, "symbol", "(I)I"⟩
abbrev cX3_count : ByteArray := prog_1_method_8_code
def yX3_count : MethodName := ⟨RX3, "count", "(I)I"⟩
abbrev cX3_clear : ByteArray := prog_1_method_9_code
def yX3_clear : MethodName := ⟨RX3, "clear", "()I"⟩
abbrev cX3_areSymbols : ByteArray := prog_1_method_10_code
def yX3_areSymbols : MethodName := ⟨RX3, "areSymbols", "(JI)Z"⟩
abbrev cX3_unpack : ByteArray := prog_1_method_11_code
def yX3_unpack : MethodName := ⟨RX3, "unpack", "(JII)I"⟩
abbrev cX3_scanAnew : ByteArray := prog_1_method_12_code
def yX3_scanAnew : MethodName := ⟨RX3, "scanAnew", "(III)V"⟩
abbrev cX3_scanOne : ByteArray := prog_1_method_13_code
def yX3_scanOne : MethodName := ⟨RX3, "scanOne", "(I)V"⟩
def RX4 : String := "EditedScannerModel"
def TX4 : u_T := fun k => match k with
  | 0 => ("EditedScannerModel", "arrows", "[I", true)
  | 1 => ("EditedScannerModel", "kinds", "[I", true)
  | 2 => ("EditedScannerModel", "text", "[I", true)
  | 3 => ("EditedScannerModel", "size", "I", false)
  | 4 => ("EditedScannerModel", "tokens", "I", false)
  | 5 => ("EditedScannerModel", "begins", "[I", true)
  | 6 => ("EditedScannerModel", "sizes", "[I", true)
  | 7 => ("EditedScannerModel", "sorts", "[I", true)
  | 8 => ("EditedScannerModel", "looks", "[I", true)
  | 9 => ("EditedScannerModel", "failed", "I", false)
  | 10 => ("EditedScannerModel", "failedLook", "I", false)
  | 11 => ("EditedScannerModel", "oldTokens", "I", false)
  | 12 => ("EditedScannerModel", "oldBegins", "[I", true)
  | 13 => ("EditedScannerModel", "oldFailed", "I", false)
  | 14 => ("EditedScannerModel", "oldSize", "I", false)
  | 15 => ("EditedScannerModel", "read", "I", false)
  | 16 => ("EditedScannerModel", "scanned", "I", false)
  | 17 => ("EditedScannerModel", "edits", "I", false)
  | 18 => ("EditedScannerModel", "tokenSize", "I", false)
  | 19 => ("EditedScannerModel", "tokenKind", "I", false)
  | _ => ("EditedScannerModel", "tokenLook", "I", false)
def tyX4 : Nat → FieldType := fun k => match k with
  | 0 => .array .int
  | 1 => .array .int
  | 2 => .array .int
  | 3 => .int
  | 4 => .int
  | 5 => .array .int
  | 6 => .array .int
  | 7 => .array .int
  | 8 => .array .int
  | 9 => .int
  | 10 => .int
  | 11 => .int
  | 12 => .array .int
  | 13 => .int
  | 14 => .int
  | 15 => .int
  | 16 => .int
  | 17 => .int
  | 18 => .int
  | 19 => .int
  | _ => .int
abbrev wsX40 : List Cond := u_ws RX4 TX4 21
theorem nmX4 : ∀ a, a < 21 → ∀ b, b < 21 → a ≠ b → (TX4 a).2.1 ≠ (TX4 b).2.1 := by decide +kernel
theorem tyX4_ok : ∀ k, k < 21 → parseFieldDescriptor (TX4 k).2.2.1 = some (tyX4 k) := by decide +kernel
abbrev cX4_init : ByteArray := prog_6_method_1_code
def yX4_init : MethodName := ⟨RX4, "<init>", "()V"⟩
abbrev cX4_forget : ByteArray := prog_6_method_2_code
def yX4_forget : MethodName := ⟨RX4, "forget", "()V"⟩
abbrev cX4_arrow : ByteArray := prog_6_method_3_code
def yX4_arrow : MethodName := ⟨RX4, "arrow", "(III)Z"⟩
abbrev cX4_kind : ByteArray := prog_6_method_4_code
def yX4_kind : MethodName := ⟨RX4, "kind", "(II)Z"⟩
abbrev cX4_scan : ByteArray := prog_6_method_5_code
def yX4_scan : MethodName := ⟨RX4, "scan", "(I)Z"⟩
abbrev cX4_scanAll : ByteArray := prog_6_method_6_code
def yX4_scanAll : MethodName := ⟨RX4, "scanAll", "()V"⟩
abbrev cX4_began : ByteArray := prog_6_method_7_code
def yX4_began : MethodName := ⟨RX4, "began", "(I)Z"⟩
abbrev cX4_edit : ByteArray := prog_6_method_8_code
def yX4_edit : MethodName := ⟨RX4, "edit", "(IIJI)I"⟩
abbrev cX4_change : ByteArray := prog_6_method_9_code
def yX4_change : MethodName := ⟨RX4, "change", "(IIJI)V"⟩
abbrev cX4_goOver : ByteArray := prog_6_method_10_code
def yX4_goOver : MethodName := ⟨RX4, "goOver", "(IIII)V"⟩
abbrev cX4_token : ByteArray := prog_6_method_11_code
def yX4_token : MethodName := ⟨RX4, "token", "(II)I"⟩
abbrev cX4_tokenAt : ByteArray := prog_6_method_12_code
def yX4_tokenAt : MethodName := ⟨RX4, "tokenAt", "(I)I"⟩
abbrev cX4_symbol : ByteArray := prog_6_method_13_code
def yX4_symbol : MethodName := ⟨RX4, "symbol", "(I)I"⟩
abbrev cX4_count : ByteArray := prog_6_method_14_code
def yX4_count : MethodName := ⟨RX4, "count", "(I)I"⟩
abbrev cX4_clear : ByteArray := prog_6_method_15_code
def yX4_clear : MethodName := ⟨RX4, "clear", "()I"⟩
def RJ9 : String := "java/lang/Math"
def TJ9 : u_T := fun k => match k with
  | _ => ("", "", "", false)
def tyJ9 : Nat → FieldType := fun k => match k with
  | _ => .int
abbrev wsJ90 : List Cond := u_ws RJ9 TJ9 0
theorem nmJ9 : ∀ a, a < 0 → ∀ b, b < 0 → a ≠ b → (TJ9 a).2.1 ≠ (TJ9 b).2.1 := by decide +kernel
theorem tyJ9_ok : ∀ k, k < 0 → parseFieldDescriptor (TJ9 k).2.2.1 = some (tyJ9 k) := by decide +kernel
abbrev cJ9_max_7cf53 : ByteArray := prog_7_method_65_code
def yJ9_max_7cf53 : MethodName := ⟨RJ9, "max", "(II)I"⟩
def RJ10 : String := "java/lang/System"
def TJ10 : u_T := fun k => match k with
  | _ => ("", "", "", false)
def tyJ10 : Nat → FieldType := fun k => match k with
  | _ => .int
abbrev wsJ100 : List Cond := u_ws RJ10 TJ10 0
theorem nmJ10 : ∀ a, a < 0 → ∀ b, b < 0 → a ≠ b → (TJ10 a).2.1 ≠ (TJ10 b).2.1 := by decide +kernel
theorem tyJ10_ok : ∀ k, k < 0 → parseFieldDescriptor (TJ10 k).2.2.1 = some (tyJ10 k) := by decide +kernel
def RJ7 : String := "java/util/Arrays"
def TJ7 : u_T := fun k => match k with
  | _ => ("", "", "", false)
def tyJ7 : Nat → FieldType := fun k => match k with
  | _ => .int
abbrev wsJ70 : List Cond := u_ws RJ7 TJ7 0
theorem nmJ7 : ∀ a, a < 0 → ∀ b, b < 0 → a ≠ b → (TJ7 a).2.1 ≠ (TJ7 b).2.1 := by decide +kernel
theorem tyJ7_ok : ∀ k, k < 0 → parseFieldDescriptor (TJ7 k).2.2.1 = some (tyJ7 k) := by decide +kernel
abbrev cJ7_fill_53178 : ByteArray := prog_9_method_103_code
def yJ7_fill_53178 : MethodName := ⟨RJ7, "fill", "([II)V"⟩
def RL : String := "EditedScannerLaw"
abbrev cL_law : ByteArray := code
def yL_law : MethodName := ⟨RL, "law", "([I)Z"⟩
abbrev vwCl : List vw_C := [(RX0, TX0, 5), (RX1, TX1, 2), (RX2, TX2, 2), (RX3, TX3, 7), (RX4, TX4, 21)]
