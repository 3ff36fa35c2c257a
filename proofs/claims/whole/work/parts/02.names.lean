-- names, out of claim/NAMES.whole.lean.txt (printed by program for pasting): classes, fields, methods
def RX0 : String := "TicketChain$Chain"
def TX0 : u_T := fun k => match k with
  | 0 => ("TicketChain$Chain", "rows", "Ljava/util/ArrayList;", true)
  | 1 => ("TicketChain$Chain", "sum", "LTicketChain$Sum;", true)
  | _ => ("TicketChain$Chain", "level", "[B", true)
def tyX0 : Nat → FieldType := fun k => match k with
  | 0 => .object "java/util/ArrayList"
  | 1 => .object "TicketChain$Sum"
  | _ => .array .byte
abbrev wsX00 : List Cond := u_ws RX0 TX0 3
theorem nmX0 : ∀ a, a < 3 → ∀ b, b < 3 → a ≠ b → (TX0 a).2.1 ≠ (TX0 b).2.1 := by decide +kernel
theorem tyX0_ok : ∀ k, k < 3 → parseFieldDescriptor (TX0 k).2.2.1 = some (tyX0 k) := by decide +kernel
def RX1 : String := "TicketChain$Form"
def TX1 : u_T := fun k => match k with
  | 0 => ("TicketChain$Form", "signs", "[B", true)
  | _ => ("TicketChain$Form", "length", "I", false)
def tyX1 : Nat → FieldType := fun k => match k with
  | 0 => .array .byte
  | _ => .int
abbrev wsX10 : List Cond := u_ws RX1 TX1 2
theorem nmX1 : ∀ a, a < 2 → ∀ b, b < 2 → a ≠ b → (TX1 a).2.1 ≠ (TX1 b).2.1 := by decide +kernel
theorem tyX1_ok : ∀ k, k < 2 → parseFieldDescriptor (TX1 k).2.2.1 = some (tyX1 k) := by decide +kernel
def RX2 : String := "TicketChain$Row"
def TX2 : u_T := fun k => match k with
  | 0 => ("TicketChain$Row", "bytes", "[B", true)
  | 1 => ("TicketChain$Row", "day", "I", true)
  | _ => ("TicketChain$Row", "written", "I", false)
def tyX2 : Nat → FieldType := fun k => match k with
  | 0 => .array .byte
  | 1 => .int
  | _ => .int
abbrev wsX20 : List Cond := u_ws RX2 TX2 3
theorem nmX2 : ∀ a, a < 3 → ∀ b, b < 3 → a ≠ b → (TX2 a).2.1 ≠ (TX2 b).2.1 := by decide +kernel
theorem tyX2_ok : ∀ k, k < 3 → parseFieldDescriptor (TX2 k).2.2.1 = some (tyX2 k) := by decide +kernel
def RX3 : String := "TicketChain$Sum"
def TX3 : u_T := fun k => match k with
  | 0 => ("TicketChain$Sum", "message", "[B", true)
  | 1 => ("TicketChain$Sum", "words", "[I", true)
  | 2 => ("TicketChain$Sum", "state", "[I", true)
  | _ => ("TicketChain$Sum", "filled", "I", false)
def tyX3 : Nat → FieldType := fun k => match k with
  | 0 => .array .byte
  | 1 => .array .int
  | 2 => .array .int
  | _ => .int
abbrev wsX30 : List Cond := u_ws RX3 TX3 4
theorem nmX3 : ∀ a, a < 4 → ∀ b, b < 4 → a ≠ b → (TX3 a).2.1 ≠ (TX3 b).2.1 := by decide +kernel
theorem tyX3_ok : ∀ k, k < 4 → parseFieldDescriptor (TX3 k).2.2.1 = some (tyX3 k) := by decide +kernel
def RX4 : String := "TicketChain$Tare"
def TX4 : u_T := fun k => match k with
  | 0 => ("TicketChain$Tare", "day", "I", true)
  | 1 => ("TicketChain$Tare", "vehicle", "I", true)
  | _ => ("TicketChain$Tare", "weight", "J", false)
def tyX4 : Nat → FieldType := fun k => match k with
  | 0 => .int
  | 1 => .int
  | _ => .long
abbrev wsX40 : List Cond := u_ws RX4 TX4 3
theorem nmX4 : ∀ a, a < 3 → ∀ b, b < 3 → a ≠ b → (TX4 a).2.1 ≠ (TX4 b).2.1 := by decide +kernel
theorem tyX4_ok : ∀ k, k < 3 → parseFieldDescriptor (TX4 k).2.2.1 = some (tyX4 k) := by decide +kernel
def RX5 : String := "TicketChain$TareBook"
def TX5 : u_T := fun k => match k with
  | _ => ("TicketChain$TareBook", "told", "Ljava/util/ArrayList;", true)
def tyX5 : Nat → FieldType := fun k => match k with
  | _ => .object "java/util/ArrayList"
abbrev wsX50 : List Cond := u_ws RX5 TX5 1
theorem nmX5 : ∀ a, a < 1 → ∀ b, b < 1 → a ≠ b → (TX5 a).2.1 ≠ (TX5 b).2.1 := by decide +kernel
theorem tyX5_ok : ∀ k, k < 1 → parseFieldDescriptor (TX5 k).2.2.1 = some (tyX5 k) := by decide +kernel
def RX6 : String := "TicketChain$Ticket"
def TX6 : u_T := fun k => match k with
  | 0 => ("TicketChain$Ticket", "fields", "[J", true)
  | _ => ("TicketChain$Ticket", "weights", "[J", true)
def tyX6 : Nat → FieldType := fun k => match k with
  | 0 => .array .long
  | _ => .array .long
abbrev wsX60 : List Cond := u_ws RX6 TX6 2
theorem nmX6 : ∀ a, a < 2 → ∀ b, b < 2 → a ≠ b → (TX6 a).2.1 ≠ (TX6 b).2.1 := by decide +kernel
theorem tyX6_ok : ∀ k, k < 2 → parseFieldDescriptor (TX6 k).2.2.1 = some (tyX6 k) := by decide +kernel
def RX7 : String := "TicketChain"
def TX7 : u_T := fun k => match k with
  | 0 => ("TicketChain", "tares", "LTicketChain$TareBook;", true)
  | 1 => ("TicketChain", "tickets", "Ljava/util/ArrayList;", true)
  | 2 => ("TicketChain", "spoiled", "[I", true)
  | 3 => ("TicketChain", "spoiledCount", "I", false)
  | 4 => ("TicketChain", "numbersUsed", "I", false)
  | 5 => ("TicketChain", "chain", "LTicketChain$Chain;", true)
  | _ => ("TicketChain", "form", "LTicketChain$Form;", true)
def tyX7 : Nat → FieldType := fun k => match k with
  | 0 => .object "TicketChain$TareBook"
  | 1 => .object "java/util/ArrayList"
  | 2 => .array .int
  | 3 => .int
  | 4 => .int
  | 5 => .object "TicketChain$Chain"
  | _ => .object "TicketChain$Form"
abbrev wsX70 : List Cond := u_ws RX7 TX7 7
theorem nmX7 : ∀ a, a < 7 → ∀ b, b < 7 → a ≠ b → (TX7 a).2.1 ≠ (TX7 b).2.1 := by decide +kernel
theorem tyX7_ok : ∀ k, k < 7 → parseFieldDescriptor (TX7 k).2.2.1 = some (tyX7 k) := by decide +kernel
def RX8 : String := "TicketChainModel"
def TX8 : u_T := fun k => match k with
  | 0 => ("TicketChainModel", "cubes", "[I", true)
  | 1 => ("TicketChainModel", "squares", "[I", true)
  | 2 => ("TicketChainModel", "toldDay", "[I", true)
  | 3 => ("TicketChainModel", "toldVehicle", "[I", true)
  | 4 => ("TicketChainModel", "toldTare", "[I", true)
  | 5 => ("TicketChainModel", "toldCount", "I", false)
  | 6 => ("TicketChainModel", "fields", "[J", true)
  | 7 => ("TicketChainModel", "weights", "[I", true)
  | 8 => ("TicketChainModel", "tickets", "I", false)
  | 9 => ("TicketChainModel", "numbers", "I", false)
  | 10 => ("TicketChainModel", "gaps", "[I", true)
  | 11 => ("TicketChainModel", "gapCount", "I", false)
  | 12 => ("TicketChainModel", "bytes", "[B", true)
  | 13 => ("TicketChainModel", "rowDay", "[I", true)
  | 14 => ("TicketChainModel", "rowCount", "I", false)
  | 15 => ("TicketChainModel", "fault", "I", false)
  | 16 => ("TicketChainModel", "row", "[B", true)
  | 17 => ("TicketChainModel", "rowSize", "I", false)
  | 18 => ("TicketChainModel", "result", "[B", true)
  | 19 => ("TicketChainModel", "state", "[I", true)
  | 20 => ("TicketChainModel", "now", "[I", true)
  | 21 => ("TicketChainModel", "words", "[I", true)
  | 22 => ("TicketChainModel", "level", "[B", true)
  | 23 => ("TicketChainModel", "form", "[B", true)
  | _ => ("TicketChainModel", "formSize", "I", false)
def tyX8 : Nat → FieldType := fun k => match k with
  | 0 => .array .int
  | 1 => .array .int
  | 2 => .array .int
  | 3 => .array .int
  | 4 => .array .int
  | 5 => .int
  | 6 => .array .long
  | 7 => .array .int
  | 8 => .int
  | 9 => .int
  | 10 => .array .int
  | 11 => .int
  | 12 => .array .byte
  | 13 => .array .int
  | 14 => .int
  | 15 => .int
  | 16 => .array .byte
  | 17 => .int
  | 18 => .array .byte
  | 19 => .array .int
  | 20 => .array .int
  | 21 => .array .int
  | 22 => .array .byte
  | 23 => .array .byte
  | _ => .int
abbrev wsX80 : List Cond := u_ws RX8 TX8 25
theorem nmX8 : ∀ a, a < 25 → ∀ b, b < 25 → a ≠ b → (TX8 a).2.1 ≠ (TX8 b).2.1 := by decide +kernel
theorem tyX8_ok : ∀ k, k < 25 → parseFieldDescriptor (TX8 k).2.2.1 = some (tyX8 k) := by decide +kernel
def RJx4a65c : String := "java/util/ArrayList"
def TJx4a65c : u_T := fun k => match k with
  | 0 => ("java/util/AbstractList", "modCount", "I", false)
  | 1 => ("java/util/ArrayList", "elementData", "[Ljava/lang/Object;", false)
  | _ => ("java/util/ArrayList", "size", "I", false)
def tyJx4a65c : Nat → FieldType := fun k => match k with
  | 0 => .int
  | 1 => .array (.object "java/lang/Object")
  | _ => .int
abbrev wsJx4a65c0 : List Cond := u_ws RJx4a65c TJx4a65c 3
theorem nmJx4a65c : ∀ a, a < 3 → ∀ b, b < 3 → a ≠ b → (TJx4a65c a).2.1 ≠ (TJx4a65c b).2.1 := by decide +kernel
theorem tyJx4a65c_ok : ∀ k, k < 3 → parseFieldDescriptor (TJx4a65c k).2.2.1 = some (tyJx4a65c k) := by decide +kernel
def RJx145de : String := "java/io/Serializable"
def RJx00060 : String := "java/lang/ArrayIndexOutOfBoundsException"
def RJx9f9b0 : String := "java/lang/CharSequence"
def RJx8e188 : String := "java/lang/Cloneable"
def RJxb160c : String := "java/lang/Comparable"
def RJxab1ab : String := "java/lang/Iterable"
def RJ9 : String := "java/lang/Math"
def RJ0 : String := "java/lang/String"
def RJ1 : String := "java/lang/StringLatin1"
def RJ2 : String := "java/lang/StringUTF16"
def RJ10 : String := "java/lang/System"
def RJxfd54e : String := "java/lang/constant/Constable"
def RJx3cf43 : String := "java/lang/constant/ConstantDesc"
def RJxa1e45 : String := "java/util/AbstractCollection"
def RJxc12de : String := "java/util/AbstractList"
def RJ7 : String := "java/util/Arrays"
def RJx5ef63 : String := "java/util/Collection"
def RJxbd725 : String := "java/util/List"
def RJ15 : String := "java/util/Objects"
def RJxf0a74 : String := "java/util/RandomAccess"
def RJxa66e6 : String := "java/util/SequencedCollection"
def RJ8 : String := "jdk/internal/util/ArraysSupport"
def RJ3 : String := "jdk/internal/util/Preconditions"
def RL : String := "TicketChainLaw"
abbrev cX0_init : ByteArray := prog_2_method_1_code
def yX0_init : MethodName := ⟨RX0, "<init>", "()V"⟩
abbrev cX0_count : ByteArray := prog_2_method_2_code
def yX0_count : MethodName := ⟨RX0, "count", "()I"⟩
abbrev cX0_isFull : ByteArray := prog_2_method_3_code
def yX0_isFull : MethodName := ⟨RX0, "isFull", "()Z"⟩
abbrev cX0_find : ByteArray := prog_2_method_4_code
def yX0_find : MethodName := ⟨RX0, "find", "(I)LTicketChain$Row;"⟩
abbrev cX0_append : ByteArray := prog_2_method_5_code
def yX0_append : MethodName := ⟨RX0, "append", "(LTicketChain$Row;)I"⟩
abbrev cX0_firstBroken : ByteArray := prog_2_method_6_code
def yX0_firstBroken : MethodName := ⟨RX0, "firstBroken", "(I)I"⟩
abbrev cX0_rootByte : ByteArray := prog_2_method_7_code
def yX0_rootByte : MethodName := ⟨RX0, "rootByte", "(II)I"⟩
abbrev cX0_sumRow : ByteArray := prog_2_method_8_code
def yX0_sumRow : MethodName := ⟨RX0, "sumRow", "(LTicketChain$Row;LTicketChain$Row;)V"⟩
abbrev cX0_gather : ByteArray := prog_2_method_9_code
def yX0_gather : MethodName := ⟨RX0, "gather", "(I)I"⟩
abbrev cX0_pairUp : ByteArray := prog_2_method_10_code
def yX0_pairUp : MethodName := ⟨RX0, "pairUp", "(I)V"⟩
abbrev cX1_init : ByteArray := prog_3_method_1_code
def yX1_init : MethodName := ⟨RX1, "<init>", "()V"⟩
abbrev cX1_fill : ByteArray := prog_3_method_2_code
def yX1_fill : MethodName := ⟨RX1, "fill", "(LTicketChain$Ticket;)V"⟩
abbrev cX1_sign : ByteArray := prog_3_method_3_code
def yX1_sign : MethodName := ⟨RX1, "sign", "(I)I"⟩
abbrev cX1_add : ByteArray := prog_3_method_4_code
def yX1_add : MethodName := ⟨RX1, "add", "(C)V"⟩
abbrev cX1_addDecimals : ByteArray := prog_3_method_5_code
def yX1_addDecimals : MethodName := ⟨RX1, "addDecimals", "(J)V"⟩
abbrev cX2_init : ByteArray := prog_4_method_1_code
def yX2_init : MethodName := ⟨RX2, "<init>", "(I)V"⟩
abbrev cX2_write : ByteArray := prog_4_method_2_code
def yX2_write : MethodName := ⟨RX2, "write", "(JI)V"⟩
abbrev cX2_has : ByteArray := prog_4_method_3_code
def yX2_has : MethodName := ⟨RX2, "has", "(I)Z"⟩
abbrev cX2_value : ByteArray := prog_4_method_4_code
def yX2_value : MethodName := ⟨RX2, "value", "(I)I"⟩
abbrev cX2_change : ByteArray := prog_4_method_5_code
def yX2_change : MethodName := ⟨RX2, "change", "(II)Z"⟩
abbrev cX3_init : ByteArray := prog_5_method_1_code
def yX3_init : MethodName := ⟨RX3, "<init>", "()V"⟩
abbrev cX3_start : ByteArray := prog_5_method_2_code
def yX3_start : MethodName := ⟨RX3, "start", "()V"⟩
abbrev cX3_add : ByteArray := prog_5_method_3_code
def yX3_add : MethodName := ⟨RX3, "add", "([BII)V"⟩
abbrev cX3_addZeros : ByteArray := prog_5_method_4_code
def yX3_addZeros : MethodName := ⟨RX3, "addZeros", "(I)V"⟩
abbrev cX3_finish : ByteArray := prog_5_method_5_code
def yX3_finish : MethodName := ⟨RX3, "finish", "()V"⟩
abbrev cX3_copyTo : ByteArray := prog_5_method_6_code
def yX3_copyTo : MethodName := ⟨RX3, "copyTo", "([BI)V"⟩
abbrev cX3_isAt : ByteArray := prog_5_method_7_code
def yX3_isAt : MethodName := ⟨RX3, "isAt", "([BI)Z"⟩
abbrev cX3_sumByte : ByteArray := prog_5_method_8_code
def yX3_sumByte : MethodName := ⟨RX3, "sumByte", "(I)B"⟩
abbrev cX3_addByte : ByteArray := prog_5_method_9_code
def yX3_addByte : MethodName := ⟨RX3, "addByte", "(I)V"⟩
abbrev cX3_readWords : ByteArray := prog_5_method_10_code
def yX3_readWords : MethodName := ⟨RX3, "readWords", "(I)V"⟩
abbrev cX3_mixWords : ByteArray := prog_5_method_11_code
def yX3_mixWords : MethodName := ⟨RX3, "mixWords", "()V"⟩
abbrev cX3_earlyWord : ByteArray := prog_5_method_12_code
def yX3_earlyWord : MethodName := ⟨RX3, "earlyWord", "(I)I"⟩
abbrev cX3_lateWord : ByteArray := prog_5_method_13_code
def yX3_lateWord : MethodName := ⟨RX3, "lateWord", "(I)I"⟩
abbrev cX3_turn : ByteArray := prog_5_method_14_code
def yX3_turn : MethodName := ⟨RX3, "turn", "(II)I"⟩
abbrev cX4_init : ByteArray := prog_6_method_1_code
def yX4_init : MethodName := ⟨RX4, "<init>", "(IIJ)V"⟩
abbrev cX5_init : ByteArray := prog_7_method_1_code
def yX5_init : MethodName := ⟨RX5, "<init>", "()V"⟩
abbrev cX5_tell : ByteArray := prog_7_method_2_code
def yX5_tell : MethodName := ⟨RX5, "tell", "(IIJ)Z"⟩
abbrev cX5_tareOn : ByteArray := prog_7_method_3_code
def yX5_tareOn : MethodName := ⟨RX5, "tareOn", "(II)J"⟩
abbrev cX5_lastUpTo : ByteArray := prog_7_method_4_code
def yX5_lastUpTo : MethodName := ⟨RX5, "lastUpTo", "(II)LTicketChain$Tare;"⟩
abbrev cX6_init : ByteArray := prog_8_method_1_code
def yX6_init : MethodName := ⟨RX6, "<init>", "(IIIJJJI)V"⟩
abbrev cX6_field : ByteArray := prog_8_method_2_code
def yX6_field : MethodName := ⟨RX6, "field", "(I)J"⟩
abbrev cX6_isVoid : ByteArray := prog_8_method_3_code
def yX6_isVoid : MethodName := ⟨RX6, "isVoid", "()Z"⟩
abbrev cX6_keepsNet : ByteArray := prog_8_method_4_code
def yX6_keepsNet : MethodName := ⟨RX6, "keepsNet", "(IJ)Z"⟩
abbrev cX6_put : ByteArray := prog_8_method_5_code
def yX6_put : MethodName := ⟨RX6, "put", "(IJ)V"⟩
abbrev cX6_weigh : ByteArray := prog_8_method_6_code
def yX6_weigh : MethodName := ⟨RX6, "weigh", "(IJ)Z"⟩
abbrev cX6_shareOf : ByteArray := prog_8_method_7_code
def yX6_shareOf : MethodName := ⟨RX6, "shareOf", "(I)J"⟩
abbrev cX6_totalWeight : ByteArray := prog_8_method_8_code
def yX6_totalWeight : MethodName := ⟨RX6, "totalWeight", "()J"⟩
abbrev cX7_init : ByteArray := prog_1_method_1_code
def yX7_init : MethodName := ⟨RX7, "<init>", "()V"⟩
abbrev cX7_follows : ByteArray := prog_1_method_2_code
def yX7_follows : MethodName := ⟨RX7, "follows", "(IIJ)Z"⟩
abbrev cX7_ticket : ByteArray := prog_1_method_3_code
def yX7_ticket : MethodName := ⟨RX7, "ticket", "(IIJJJI)I"⟩
abbrev cX7_correct : ByteArray := prog_1_method_4_code
def yX7_correct : MethodName := ⟨RX7, "correct", "(IIJI)I"⟩
abbrev cX7_voids : ByteArray := prog_1_method_5_code
def yX7_voids : MethodName := ⟨RX7, "voids", "(II)I"⟩
abbrev cX7_at : ByteArray := prog_1_method_6_code
def yX7_at : MethodName := ⟨RX7, "at", "(II)J"⟩
abbrev cX7_number : ByteArray := prog_1_method_7_code
def yX7_number : MethodName := ⟨RX7, "number", "(I)I"⟩
abbrev cX7_gap : ByteArray := prog_1_method_8_code
def yX7_gap : MethodName := ⟨RX7, "gap", "(I)I"⟩
abbrev cX7_rows : ByteArray := prog_1_method_9_code
def yX7_rows : MethodName := ⟨RX7, "rows", "()I"⟩
abbrev cX7_made : ByteArray := prog_1_method_10_code
def yX7_made : MethodName := ⟨RX7, "made", "()I"⟩
abbrev cX7_split : ByteArray := prog_1_method_11_code
def yX7_split : MethodName := ⟨RX7, "split", "(IIJ)Z"⟩
abbrev cX7_share : ByteArray := prog_1_method_12_code
def yX7_share : MethodName := ⟨RX7, "share", "(II)J"⟩
abbrev cX7_print : ByteArray := prog_1_method_13_code
def yX7_print : MethodName := ⟨RX7, "print", "(II)I"⟩
abbrev cX7_poke : ByteArray := prog_1_method_14_code
def yX7_poke : MethodName := ⟨RX7, "poke", "(III)Z"⟩
abbrev cX7_byteAt : ByteArray := prog_1_method_15_code
def yX7_byteAt : MethodName := ⟨RX7, "byteAt", "(II)I"⟩
abbrev cX7_digest : ByteArray := prog_1_method_16_code
def yX7_digest : MethodName := ⟨RX7, "digest", "(II)I"⟩
abbrev cX7_check : ByteArray := prog_1_method_17_code
def yX7_check : MethodName := ⟨RX7, "check", "(I)I"⟩
abbrev cX7_root : ByteArray := prog_1_method_18_code
def yX7_root : MethodName := ⟨RX7, "root", "(II)I"⟩
abbrev cX7_find : ByteArray := prog_1_method_19_code
def yX7_find : MethodName := ⟨RX7, "find", "(I)LTicketChain$Ticket;"⟩
abbrev cX7_spoilNumber : ByteArray := prog_1_method_20_code
def yX7_spoilNumber : MethodName := ⟨RX7, "spoilNumber", "()I"⟩
abbrev cX7_fits : ByteArray := prog_1_method_21_code
def yX7_fits : MethodName := ⟨RX7, "fits", "(IJ)Z"⟩
abbrev cX7_greatest : ByteArray := prog_1_method_22_code
def yX7_greatest : MethodName := ⟨RX7, "greatest", "(I)J"⟩
abbrev cX7_dayOf : ByteArray := prog_1_method_23_code
def yX7_dayOf : MethodName := ⟨RX7, "dayOf", "(J)I"⟩
abbrev cX7_ticketRow : ByteArray := prog_1_method_24_code
def yX7_ticketRow : MethodName := ⟨RX7, "ticketRow", "(LTicketChain$Ticket;)LTicketChain$Row;"⟩
abbrev cX7_correctionRow : ByteArray := prog_1_method_25_code
def yX7_correctionRow : MethodName := ⟨RX7, "correctionRow", "(LTicketChain$Ticket;IJI)LTicketChain$Row;"⟩
abbrev cX7_voidRow : ByteArray := prog_1_method_26_code
def yX7_voidRow : MethodName := ⟨RX7, "voidRow", "(LTicketChain$Ticket;I)LTicketChain$Row;"⟩
abbrev cX8_init : ByteArray := prog_10_method_1_code
def yX8_init : MethodName := ⟨RX8, "<init>", "()V"⟩
abbrev cX8_thrown : ByteArray := prog_10_method_2_code
def yX8_thrown : MethodName := ⟨RX8, "thrown", "()I"⟩
abbrev cX8_isAtMost : ByteArray := prog_10_method_3_code
def yX8_isAtMost : MethodName := ⟨RX8, "isAtMost", "(JIZ)Z"⟩
abbrev cX8_rootOf : ByteArray := prog_10_method_4_code
def yX8_rootOf : MethodName := ⟨RX8, "rootOf", "(IZ)I"⟩
abbrev cX8_rot : ByteArray := prog_10_method_5_code
def yX8_rot : MethodName := ⟨RX8, "rot", "(II)I"⟩
abbrev cX8_lay : ByteArray := prog_10_method_6_code
def yX8_lay : MethodName := ⟨RX8, "lay", "(I)V"⟩
abbrev cX8_reckon : ByteArray := prog_10_method_7_code
def yX8_reckon : MethodName := ⟨RX8, "reckon", "()V"⟩
abbrev cX8_mix : ByteArray := prog_10_method_8_code
def yX8_mix : MethodName := ⟨RX8, "mix", "(I)V"⟩
abbrev cX8_write : ByteArray := prog_10_method_9_code
def yX8_write : MethodName := ⟨RX8, "write", "(IJI)I"⟩
abbrev cX8_digestOf : ByteArray := prog_10_method_10_code
def yX8_digestOf : MethodName := ⟨RX8, "digestOf", "(I)V"⟩
abbrev cX8_close : ByteArray := prog_10_method_11_code
def yX8_close : MethodName := ⟨RX8, "close", "(I)I"⟩
abbrev cX8_open : ByteArray := prog_10_method_12_code
def yX8_open : MethodName := ⟨RX8, "open", "(II)I"⟩
abbrev cX8_isIn : ByteArray := prog_10_method_13_code
def yX8_isIn : MethodName := ⟨RX8, "isIn", "(JJ)Z"⟩
abbrev cX8_isTicket : ByteArray := prog_10_method_14_code
def yX8_isTicket : MethodName := ⟨RX8, "isTicket", "(I)Z"⟩
abbrev cX8_dayOf : ByteArray := prog_10_method_15_code
def yX8_dayOf : MethodName := ⟨RX8, "dayOf", "(J)I"⟩
abbrev cX8_canBe : ByteArray := prog_10_method_16_code
def yX8_canBe : MethodName := ⟨RX8, "canBe", "(IJ)Z"⟩
abbrev cX8_follows : ByteArray := prog_10_method_17_code
def yX8_follows : MethodName := ⟨RX8, "follows", "(IIJ)Z"⟩
abbrev cX8_tareOf : ByteArray := prog_10_method_18_code
def yX8_tareOf : MethodName := ⟨RX8, "tareOf", "(II)J"⟩
abbrev cX8_ticket : ByteArray := prog_10_method_19_code
def yX8_ticket : MethodName := ⟨RX8, "ticket", "(IIJJJI)I"⟩
abbrev cX8_isVoid : ByteArray := prog_10_method_20_code
def yX8_isVoid : MethodName := ⟨RX8, "isVoid", "(I)Z"⟩
abbrev cX8_correct : ByteArray := prog_10_method_21_code
def yX8_correct : MethodName := ⟨RX8, "correct", "(IIJI)I"⟩
abbrev cX8_voids : ByteArray := prog_10_method_22_code
def yX8_voids : MethodName := ⟨RX8, "voids", "(II)I"⟩
abbrev cX8_at : ByteArray := prog_10_method_23_code
def yX8_at : MethodName := ⟨RX8, "at", "(II)J"⟩
abbrev cX8_number : ByteArray := prog_10_method_24_code
def yX8_number : MethodName := ⟨RX8, "number", "(I)I"⟩
abbrev cX8_gap : ByteArray := prog_10_method_25_code
def yX8_gap : MethodName := ⟨RX8, "gap", "(I)I"⟩
abbrev cX8_rows : ByteArray := prog_10_method_26_code
def yX8_rows : MethodName := ⟨RX8, "rows", "()I"⟩
abbrev cX8_made : ByteArray := prog_10_method_27_code
def yX8_made : MethodName := ⟨RX8, "made", "()I"⟩
abbrev cX8_split : ByteArray := prog_10_method_28_code
def yX8_split : MethodName := ⟨RX8, "split", "(IIJ)Z"⟩
abbrev cX8_share : ByteArray := prog_10_method_29_code
def yX8_share : MethodName := ⟨RX8, "share", "(II)J"⟩
abbrev cX8_put : ByteArray := prog_10_method_30_code
def yX8_put : MethodName := ⟨RX8, "put", "(I)V"⟩
abbrev cX8_putNumber : ByteArray := prog_10_method_31_code
def yX8_putNumber : MethodName := ⟨RX8, "putNumber", "(J)V"⟩
abbrev cX8_print : ByteArray := prog_10_method_32_code
def yX8_print : MethodName := ⟨RX8, "print", "(II)I"⟩
abbrev cX8_isRow : ByteArray := prog_10_method_33_code
def yX8_isRow : MethodName := ⟨RX8, "isRow", "(I)Z"⟩
abbrev cX8_poke : ByteArray := prog_10_method_34_code
def yX8_poke : MethodName := ⟨RX8, "poke", "(III)Z"⟩
abbrev cX8_byteAt : ByteArray := prog_10_method_35_code
def yX8_byteAt : MethodName := ⟨RX8, "byteAt", "(II)I"⟩
abbrev cX8_digest : ByteArray := prog_10_method_36_code
def yX8_digest : MethodName := ⟨RX8, "digest", "(II)I"⟩
abbrev cX8_check : ByteArray := prog_10_method_37_code
def yX8_check : MethodName := ⟨RX8, "check", "(I)I"⟩
abbrev cX8_root : ByteArray := prog_10_method_38_code
def yX8_root : MethodName := ⟨RX8, "root", "(II)I"⟩
abbrev cX8_pair : ByteArray := prog_10_method_39_code
def yX8_pair : MethodName := ⟨RX8, "pair", "(IIZ)V"⟩
abbrev cJx00060_init_a7421 : ByteArray := prog_12_method_2_code
def yJx00060_init_a7421 : MethodName := ⟨RJx00060, "<init>", "(Ljava/lang/String;)V"⟩
abbrev cJ9_max_7cf53 : ByteArray := prog_19_method_65_code
def yJ9_max_7cf53 : MethodName := ⟨RJ9, "max", "(II)I"⟩
abbrev cJ9_min_7cf53 : ByteArray := prog_19_method_69_code
def yJ9_min_7cf53 : MethodName := ⟨RJ9, "min", "(II)I"⟩
abbrev cJ0_length_8abf5 : ByteArray := prog_21_method_54_code
def yJ0_length_8abf5 : MethodName := ⟨RJ0, "length", "()I"⟩
abbrev cJ0_charAt_5068e : ByteArray := prog_21_method_56_code
def yJ0_charAt_5068e : MethodName := ⟨RJ0, "charAt", "(I)C"⟩
abbrev cJ0_coder_7d493 : ByteArray := prog_21_method_152_code
def yJ0_coder_7d493 : MethodName := ⟨RJ0, "coder", "()B"⟩
abbrev cJ0_isLatin1_aae02 : ByteArray := prog_21_method_154_code
def yJ0_isLatin1_aae02 : MethodName := ⟨RJ0, "isLatin1", "()Z"⟩
abbrev cJ0_checkIndex_df160 : ByteArray := prog_21_method_155_code
def yJ0_checkIndex_df160 : MethodName := ⟨RJ0, "checkIndex", "(II)V"⟩
abbrev cJ1_charAt_3b067 : ByteArray := prog_22_method_2_code
def yJ1_charAt_3b067 : MethodName := ⟨RJ1, "charAt", "([BI)C"⟩
abbrev cJ2_getChar_3b067 : ByteArray := prog_23_method_5_code
def yJ2_getChar_3b067 : MethodName := ⟨RJ2, "getChar", "([BI)C"⟩
abbrev cJ2_length_9d52b : ByteArray := prog_23_method_6_code
def yJ2_length_9d52b : MethodName := ⟨RJ2, "length", "([B)I"⟩
abbrev cJ2_charAt_3b067 : ByteArray := prog_23_method_83_code
def yJ2_charAt_3b067 : MethodName := ⟨RJ2, "charAt", "([BI)C"⟩
abbrev cJ2_checkIndex_2214a : ByteArray := prog_23_method_91_code
def yJ2_checkIndex_2214a : MethodName := ⟨RJ2, "checkIndex", "(I[B)V"⟩
abbrev cJxa1e45_init_da8c8 : ByteArray := prog_28_method_1_code
def yJxa1e45_init_da8c8 : MethodName := ⟨RJxa1e45, "<init>", "()V"⟩
abbrev cJxc12de_init_da8c8 : ByteArray := prog_29_method_1_code
def yJxc12de_init_da8c8 : MethodName := ⟨RJxc12de, "<init>", "()V"⟩
abbrev cJx4a65c_init_da8c8 : ByteArray := prog_30_method_2_code
def yJx4a65c_init_da8c8 : MethodName := ⟨RJx4a65c, "<init>", "()V"⟩
abbrev cJx4a65c_grow_92f84 : ByteArray := prog_30_method_6_code
def yJx4a65c_grow_92f84 : MethodName := ⟨RJx4a65c, "grow", "(I)[Ljava/lang/Object;"⟩
abbrev cJx4a65c_grow_d5877 : ByteArray := prog_30_method_7_code
def yJx4a65c_grow_d5877 : MethodName := ⟨RJx4a65c, "grow", "()[Ljava/lang/Object;"⟩
abbrev cJx4a65c_size_8abf5 : ByteArray := prog_30_method_8_code
def yJx4a65c_size_8abf5 : MethodName := ⟨RJx4a65c, "size", "()I"⟩
abbrev cJx4a65c_elementData_915e3 : ByteArray := prog_30_method_18_code
def yJx4a65c_elementData_915e3 : MethodName := ⟨RJx4a65c, "elementData", "(I)Ljava/lang/Object;"⟩
abbrev cJx4a65c_get_915e3 : ByteArray := prog_30_method_20_code
def yJx4a65c_get_915e3 : MethodName := ⟨RJx4a65c, "get", "(I)Ljava/lang/Object;"⟩
abbrev cJx4a65c_add_72be8 : ByteArray := prog_30_method_24_code
def yJx4a65c_add_72be8 : MethodName := ⟨RJx4a65c, "add", "(Ljava/lang/Object;[Ljava/lang/Object;I)V"⟩
abbrev cJx4a65c_add_9ea2d : ByteArray := prog_30_method_25_code
def yJx4a65c_add_9ea2d : MethodName := ⟨RJx4a65c, "add", "(Ljava/lang/Object;)Z"⟩
abbrev cJ7_copyOf_1904c : ByteArray := prog_31_method_119_code
def yJ7_copyOf_1904c : MethodName := ⟨RJ7, "copyOf", "([Ljava/lang/Object;I)[Ljava/lang/Object;"⟩
abbrev cJ7_copyOf_6403c : ByteArray := prog_31_method_120_code
def yJ7_copyOf_6403c : MethodName := ⟨RJ7, "copyOf", "([Ljava/lang/Object;ILjava/lang/Class;)[Ljava/lang/Object;"⟩
abbrev cJ15_checkIndex_7cf53 : ByteArray := prog_34_method_17_code
def yJ15_checkIndex_7cf53 : MethodName := ⟨RJ15, "checkIndex", "(II)I"⟩
abbrev cJ8_newLength_cabcc : ByteArray := prog_37_method_27_code
def yJ8_newLength_cabcc : MethodName := ⟨RJ8, "newLength", "(III)I"⟩
abbrev cJ8_hugeLength_7cf53 : ByteArray := prog_37_method_28_code
def yJ8_hugeLength_7cf53 : MethodName := ⟨RJ8, "hugeLength", "(II)I"⟩
abbrev cJ3_checkIndex_8e157 : ByteArray := prog_38_method_11_code
def yJ3_checkIndex_8e157 : MethodName := ⟨RJ3, "checkIndex", "(IILjava/util/function/BiFunction;)I"⟩
abbrev cL_byteAt : ByteArray := method_3_code
def yL_byteAt : MethodName := ⟨RL, "byteAt", "(LTicketChain;II[J)I"⟩
abbrev cL_law : ByteArray := code
def yL_law : MethodName := ⟨RL, "law", "([I)Z"⟩
/-- the classes of the objects in a world -/
abbrev classes : List vw_C := [(RX0, TX0, 3), (RX1, TX1, 2), (RX2, TX2, 3), (RX3, TX3, 4), (RX4, TX4, 3), (RX5, TX5, 1), (RX6, TX6, 2), (RX7, TX7, 7), (RX8, TX8, 25), (RJx4a65c, TJx4a65c, 3)]
def kSqL : List Int32 := [1779033703, -1150833019, 1013904242, -1521486534, 1359893119, -1694144372, 528734635, 1541459225]
def kCuL : List Int32 := [1116352408, 1899447441, -1245643825, -373957723, 961987163, 1508970993, -1841331548, -1424204075, -670586216, 310598401, 607225278, 1426881987, 1925078388, -2132889090, -1680079193, -1046744716, -459576895, -272742522, 264347078, 604807628, 770255983, 1249150122, 1555081692, 1996064986, -1740746414, -1473132947, -1341970488, -1084653625, -958395405, -710438585, 113926993, 338241895, 666307205, 773529912, 1294757372, 1396182291, 1695183700, 1986661051, -2117940946, -1838011259, -1564481375, -1474664885, -1035236496, -949202525, -778901479, -694614492, -200395387, 275423344, 430227734, 506948616, 659060556, 883997877, 958139571, 1322822218, 1537002063, 1747873779, 1955562222, 2024104815, -2067236844, -1933114872, -1866530822, -1538233109, -1090935817, -965641998]
def kVoL : List Int32 := [32, 86, 79, 73, 68, 32]
def kSq (j : Nat) : Int32 := kSqL.getD j 0
def kCu (j : Nat) : Int32 := kCuL.getD j 0
def kVo (j : Nat) : Int32 := kVoL.getD j 0
set_option maxRecDepth 20000 in
theorem iwX0 : ∀ w ∈ u_ws RX0 TX0 3, w ∈ GW := by
  intro w hw
  refine List.mem_filter.mpr ⟨?_, ?_⟩
  · exact List.mem_append_right _ ((show ∀ w ∈ u_ws RX0 TX0 3, w ∈ tables_1 by decide +kernel) w hw)
  · exact (show ∀ w ∈ u_ws RX0 TX0 3, goodWord w = true by decide +kernel) w hw
set_option maxRecDepth 20000 in
theorem iwX1 : ∀ w ∈ u_ws RX1 TX1 2, w ∈ GW := by
  intro w hw
  refine List.mem_filter.mpr ⟨?_, ?_⟩
  · exact List.mem_append_right _ ((show ∀ w ∈ u_ws RX1 TX1 2, w ∈ tables_1 by decide +kernel) w hw)
  · exact (show ∀ w ∈ u_ws RX1 TX1 2, goodWord w = true by decide +kernel) w hw
set_option maxRecDepth 20000 in
theorem iwX2 : ∀ w ∈ u_ws RX2 TX2 3, w ∈ GW := by
  intro w hw
  refine List.mem_filter.mpr ⟨?_, ?_⟩
  · exact List.mem_append_right _ ((show ∀ w ∈ u_ws RX2 TX2 3, w ∈ tables_1 by decide +kernel) w hw)
  · exact (show ∀ w ∈ u_ws RX2 TX2 3, goodWord w = true by decide +kernel) w hw
set_option maxRecDepth 20000 in
theorem iwX3 : ∀ w ∈ u_ws RX3 TX3 4, w ∈ GW := by
  intro w hw
  refine List.mem_filter.mpr ⟨?_, ?_⟩
  · exact List.mem_append_right _ ((show ∀ w ∈ u_ws RX3 TX3 4, w ∈ tables_1 by decide +kernel) w hw)
  · exact (show ∀ w ∈ u_ws RX3 TX3 4, goodWord w = true by decide +kernel) w hw
set_option maxRecDepth 20000 in
theorem iwX4 : ∀ w ∈ u_ws RX4 TX4 3, w ∈ GW := by
  intro w hw
  refine List.mem_filter.mpr ⟨?_, ?_⟩
  · exact List.mem_append_right _ ((show ∀ w ∈ u_ws RX4 TX4 3, w ∈ tables_1 by decide +kernel) w hw)
  · exact (show ∀ w ∈ u_ws RX4 TX4 3, goodWord w = true by decide +kernel) w hw
set_option maxRecDepth 20000 in
theorem iwX5 : ∀ w ∈ u_ws RX5 TX5 1, w ∈ GW := by
  intro w hw
  refine List.mem_filter.mpr ⟨?_, ?_⟩
  · exact List.mem_append_right _ ((show ∀ w ∈ u_ws RX5 TX5 1, w ∈ tables_1 by decide +kernel) w hw)
  · exact (show ∀ w ∈ u_ws RX5 TX5 1, goodWord w = true by decide +kernel) w hw
set_option maxRecDepth 20000 in
theorem iwX6 : ∀ w ∈ u_ws RX6 TX6 2, w ∈ GW := by
  intro w hw
  refine List.mem_filter.mpr ⟨?_, ?_⟩
  · exact List.mem_append_right _ ((show ∀ w ∈ u_ws RX6 TX6 2, w ∈ tables_1 by decide +kernel) w hw)
  · exact (show ∀ w ∈ u_ws RX6 TX6 2, goodWord w = true by decide +kernel) w hw
set_option maxRecDepth 20000 in
theorem iwX7 : ∀ w ∈ u_ws RX7 TX7 7, w ∈ GW := by
  intro w hw
  refine List.mem_filter.mpr ⟨?_, ?_⟩
  · exact List.mem_append_right _ ((show ∀ w ∈ u_ws RX7 TX7 7, w ∈ tables_1 by decide +kernel) w hw)
  · exact (show ∀ w ∈ u_ws RX7 TX7 7, goodWord w = true by decide +kernel) w hw
set_option maxRecDepth 20000 in
theorem iwX8 : ∀ w ∈ u_ws RX8 TX8 25, w ∈ GW := by
  intro w hw
  refine List.mem_filter.mpr ⟨?_, ?_⟩
  · exact List.mem_append_right _ ((show ∀ w ∈ u_ws RX8 TX8 25, w ∈ tables_1 by decide +kernel) w hw)
  · exact (show ∀ w ∈ u_ws RX8 TX8 25, goodWord w = true by decide +kernel) w hw
set_option maxRecDepth 20000 in
theorem iwJx4a65c : ∀ w ∈ u_ws RJx4a65c TJx4a65c 3, w ∈ GW := by
  intro w hw
  refine List.mem_filter.mpr ⟨?_, ?_⟩
  · exact List.mem_append_right _ ((show ∀ w ∈ u_ws RJx4a65c TJx4a65c 3, w ∈ tables_1 by decide +kernel) w hw)
  · exact (show ∀ w ∈ u_ws RJx4a65c TJx4a65c 3, goodWord w = true by decide +kernel) w hw
