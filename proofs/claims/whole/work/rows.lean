section
-- ===== PART A: goes FIRST, ahead of the names: the tables' words, and 'selects' of the private methods out of them =====
/-- a private method of a class that the tables say can be made, by its rows of tables_1 -/
def lw_okq (q : MethodName × Nat) : Prop := (q.1.cls ≠ "java/lang/invoke/MethodHandle" ∧ q.1.cls ≠ "java/lang/invoke/VarHandle") ∧ Cond.instantiable q.1.cls q.2 ∈ tables_1 ∧ Cond.privateMethod q.1 ∈ tables_1 ∧ Cond.instanceMethod q.1 ∈ tables_1
theorem lw_p0 : lw_okq (⟨"TicketChain$TareBook", "lastUpTo", "(II)LTicketChain$Tare;"⟩, 1) := ⟨⟨by decide +kernel, by decide +kernel⟩, List.mem_of_getElem? (i := 36) (by decide +kernel), List.mem_of_getElem? (i := 169) (by decide +kernel), List.mem_of_getElem? (i := 170) (by decide +kernel)⟩
theorem lw_p1 : lw_okq (⟨"java/util/ArrayList", "add", "(Ljava/lang/Object;[Ljava/lang/Object;I)V"⟩, 3) := ⟨⟨by decide +kernel, by decide +kernel⟩, List.mem_of_getElem? (i := 42) (by decide +kernel), List.mem_of_getElem? (i := 214) (by decide +kernel), List.mem_of_getElem? (i := 215) (by decide +kernel)⟩
theorem lw_p2 : lw_okq (⟨"java/util/ArrayList", "grow", "()[Ljava/lang/Object;"⟩, 3) := ⟨⟨by decide +kernel, by decide +kernel⟩, List.mem_of_getElem? (i := 42) (by decide +kernel), List.mem_of_getElem? (i := 218) (by decide +kernel), List.mem_of_getElem? (i := 219) (by decide +kernel)⟩
theorem lw_p3 : lw_okq (⟨"java/util/ArrayList", "grow", "(I)[Ljava/lang/Object;"⟩, 3) := ⟨⟨by decide +kernel, by decide +kernel⟩, List.mem_of_getElem? (i := 42) (by decide +kernel), List.mem_of_getElem? (i := 222) (by decide +kernel), List.mem_of_getElem? (i := 223) (by decide +kernel)⟩
theorem lw_p4 : lw_okq (⟨"TicketChain", "spoilNumber", "()I"⟩, 7) := ⟨⟨by decide +kernel, by decide +kernel⟩, List.mem_of_getElem? (i := 28) (by decide +kernel), List.mem_of_getElem? (i := 286) (by decide +kernel), List.mem_of_getElem? (i := 287) (by decide +kernel)⟩
theorem lw_p5 : lw_okq (⟨"TicketChain$Chain", "sumRow", "(LTicketChain$Row;LTicketChain$Row;)V"⟩, 3) := ⟨⟨by decide +kernel, by decide +kernel⟩, List.mem_of_getElem? (i := 74) (by decide +kernel), List.mem_of_getElem? (i := 345) (by decide +kernel), List.mem_of_getElem? (i := 346) (by decide +kernel)⟩
theorem lw_p6 : lw_okq (⟨"TicketChain$Sum", "addByte", "(I)V"⟩, 4) := ⟨⟨by decide +kernel, by decide +kernel⟩, List.mem_of_getElem? (i := 82) (by decide +kernel), List.mem_of_getElem? (i := 357) (by decide +kernel), List.mem_of_getElem? (i := 358) (by decide +kernel)⟩
theorem lw_p7 : lw_okq (⟨"TicketChain$Sum", "readWords", "(I)V"⟩, 4) := ⟨⟨by decide +kernel, by decide +kernel⟩, List.mem_of_getElem? (i := 82) (by decide +kernel), List.mem_of_getElem? (i := 373) (by decide +kernel), List.mem_of_getElem? (i := 374) (by decide +kernel)⟩
theorem lw_p8 : lw_okq (⟨"TicketChain$Sum", "mixWords", "()V"⟩, 4) := ⟨⟨by decide +kernel, by decide +kernel⟩, List.mem_of_getElem? (i := 82) (by decide +kernel), List.mem_of_getElem? (i := 386) (by decide +kernel), List.mem_of_getElem? (i := 387) (by decide +kernel)⟩
theorem lw_p9 : lw_okq (⟨"TicketChain$Sum", "sumByte", "(I)B"⟩, 4) := ⟨⟨by decide +kernel, by decide +kernel⟩, List.mem_of_getElem? (i := 82) (by decide +kernel), List.mem_of_getElem? (i := 396) (by decide +kernel), List.mem_of_getElem? (i := 397) (by decide +kernel)⟩
theorem lw_p10 : lw_okq (⟨"TicketChain", "find", "(I)LTicketChain$Ticket;"⟩, 7) := ⟨⟨by decide +kernel, by decide +kernel⟩, List.mem_of_getElem? (i := 28) (by decide +kernel), List.mem_of_getElem? (i := 406) (by decide +kernel), List.mem_of_getElem? (i := 407) (by decide +kernel)⟩
theorem lw_p11 : lw_okq (⟨"TicketChain$Ticket", "totalWeight", "()J"⟩, 2) := ⟨⟨by decide +kernel, by decide +kernel⟩, List.mem_of_getElem? (i := 290) (by decide +kernel), List.mem_of_getElem? (i := 476) (by decide +kernel), List.mem_of_getElem? (i := 477) (by decide +kernel)⟩
theorem lw_p12 : lw_okq (⟨"TicketChain$Form", "add", "(C)V"⟩, 2) := ⟨⟨by decide +kernel, by decide +kernel⟩, List.mem_of_getElem? (i := 113) (by decide +kernel), List.mem_of_getElem? (i := 489) (by decide +kernel), List.mem_of_getElem? (i := 490) (by decide +kernel)⟩
theorem lw_p13 : lw_okq (⟨"TicketChain$Form", "addDecimals", "(J)V"⟩, 2) := ⟨⟨by decide +kernel, by decide +kernel⟩, List.mem_of_getElem? (i := 113) (by decide +kernel), List.mem_of_getElem? (i := 494) (by decide +kernel), List.mem_of_getElem? (i := 495) (by decide +kernel)⟩
theorem lw_p14 : lw_okq (⟨"TicketChain$Chain", "gather", "(I)I"⟩, 3) := ⟨⟨by decide +kernel, by decide +kernel⟩, List.mem_of_getElem? (i := 74) (by decide +kernel), List.mem_of_getElem? (i := 593) (by decide +kernel), List.mem_of_getElem? (i := 594) (by decide +kernel)⟩
theorem lw_p15 : lw_okq (⟨"TicketChain$Chain", "pairUp", "(I)V"⟩, 3) := ⟨⟨by decide +kernel, by decide +kernel⟩, List.mem_of_getElem? (i := 74) (by decide +kernel), List.mem_of_getElem? (i := 598) (by decide +kernel), List.mem_of_getElem? (i := 599) (by decide +kernel)⟩
def lw_privs_1 : List (MethodName × Nat) := [(⟨"TicketChain$TareBook", "lastUpTo", "(II)LTicketChain$Tare;"⟩, 1), (⟨"java/util/ArrayList", "add", "(Ljava/lang/Object;[Ljava/lang/Object;I)V"⟩, 3), (⟨"java/util/ArrayList", "grow", "()[Ljava/lang/Object;"⟩, 3), (⟨"java/util/ArrayList", "grow", "(I)[Ljava/lang/Object;"⟩, 3), (⟨"TicketChain", "spoilNumber", "()I"⟩, 7), (⟨"TicketChain$Chain", "sumRow", "(LTicketChain$Row;LTicketChain$Row;)V"⟩, 3), (⟨"TicketChain$Sum", "addByte", "(I)V"⟩, 4), (⟨"TicketChain$Sum", "readWords", "(I)V"⟩, 4), (⟨"TicketChain$Sum", "mixWords", "()V"⟩, 4), (⟨"TicketChain$Sum", "sumByte", "(I)B"⟩, 4), (⟨"TicketChain", "find", "(I)LTicketChain$Ticket;"⟩, 7), (⟨"TicketChain$Ticket", "totalWeight", "()J"⟩, 2), (⟨"TicketChain$Form", "add", "(C)V"⟩, 2), (⟨"TicketChain$Form", "addDecimals", "(J)V"⟩, 2), (⟨"TicketChain$Chain", "gather", "(I)I"⟩, 3), (⟨"TicketChain$Chain", "pairUp", "(I)V"⟩, 3)]
theorem lw_r1 : ∀ q ∈ lw_privs_1, lw_okq q := List.forall_mem_cons.mpr ⟨lw_p0, List.forall_mem_cons.mpr ⟨lw_p1, List.forall_mem_cons.mpr ⟨lw_p2, List.forall_mem_cons.mpr ⟨lw_p3, List.forall_mem_cons.mpr ⟨lw_p4, List.forall_mem_cons.mpr ⟨lw_p5, List.forall_mem_cons.mpr ⟨lw_p6, List.forall_mem_cons.mpr ⟨lw_p7, List.forall_mem_cons.mpr ⟨lw_p8, List.forall_mem_cons.mpr ⟨lw_p9, List.forall_mem_cons.mpr ⟨lw_p10, List.forall_mem_cons.mpr ⟨lw_p11, List.forall_mem_cons.mpr ⟨lw_p12, List.forall_mem_cons.mpr ⟨lw_p13, List.forall_mem_cons.mpr ⟨lw_p14, List.forall_mem_cons.mpr ⟨lw_p15, fun _ h => absurd h List.not_mem_nil⟩⟩⟩⟩⟩⟩⟩⟩⟩⟩⟩⟩⟩⟩⟩⟩
theorem lw_p16 : lw_okq (⟨"java/lang/Throwable", "fillInStackTrace", "(I)Ljava/lang/Throwable;"⟩, 6) := ⟨⟨by decide +kernel, by decide +kernel⟩, List.mem_of_getElem? (i := 633) (by decide +kernel), List.mem_of_getElem? (i := 631) (by decide +kernel), List.mem_of_getElem? (i := 632) (by decide +kernel)⟩
theorem lw_p17 : lw_okq (⟨"TicketChainModel", "tareOf", "(II)J"⟩, 25) := ⟨⟨by decide +kernel, by decide +kernel⟩, List.mem_of_getElem? (i := 686) (by decide +kernel), List.mem_of_getElem? (i := 806) (by decide +kernel), List.mem_of_getElem? (i := 807) (by decide +kernel)⟩
theorem lw_p18 : lw_okq (⟨"TicketChainModel", "open", "(II)I"⟩, 25) := ⟨⟨by decide +kernel, by decide +kernel⟩, List.mem_of_getElem? (i := 686) (by decide +kernel), List.mem_of_getElem? (i := 810) (by decide +kernel), List.mem_of_getElem? (i := 811) (by decide +kernel)⟩
theorem lw_p19 : lw_okq (⟨"TicketChainModel", "write", "(IJI)I"⟩, 25) := ⟨⟨by decide +kernel, by decide +kernel⟩, List.mem_of_getElem? (i := 686) (by decide +kernel), List.mem_of_getElem? (i := 814) (by decide +kernel), List.mem_of_getElem? (i := 815) (by decide +kernel)⟩
theorem lw_p20 : lw_okq (⟨"TicketChainModel", "close", "(I)I"⟩, 25) := ⟨⟨by decide +kernel, by decide +kernel⟩, List.mem_of_getElem? (i := 686) (by decide +kernel), List.mem_of_getElem? (i := 818) (by decide +kernel), List.mem_of_getElem? (i := 819) (by decide +kernel)⟩
theorem lw_p21 : lw_okq (⟨"TicketChainModel", "digestOf", "(I)V"⟩, 25) := ⟨⟨by decide +kernel, by decide +kernel⟩, List.mem_of_getElem? (i := 686) (by decide +kernel), List.mem_of_getElem? (i := 822) (by decide +kernel), List.mem_of_getElem? (i := 823) (by decide +kernel)⟩
theorem lw_p22 : lw_okq (⟨"TicketChainModel", "lay", "(I)V"⟩, 25) := ⟨⟨by decide +kernel, by decide +kernel⟩, List.mem_of_getElem? (i := 686) (by decide +kernel), List.mem_of_getElem? (i := 826) (by decide +kernel), List.mem_of_getElem? (i := 827) (by decide +kernel)⟩
theorem lw_p23 : lw_okq (⟨"TicketChainModel", "reckon", "()V"⟩, 25) := ⟨⟨by decide +kernel, by decide +kernel⟩, List.mem_of_getElem? (i := 686) (by decide +kernel), List.mem_of_getElem? (i := 830) (by decide +kernel), List.mem_of_getElem? (i := 831) (by decide +kernel)⟩
theorem lw_p24 : lw_okq (⟨"TicketChainModel", "mix", "(I)V"⟩, 25) := ⟨⟨by decide +kernel, by decide +kernel⟩, List.mem_of_getElem? (i := 686) (by decide +kernel), List.mem_of_getElem? (i := 834) (by decide +kernel), List.mem_of_getElem? (i := 835) (by decide +kernel)⟩
theorem lw_p25 : lw_okq (⟨"TicketChainModel", "isTicket", "(I)Z"⟩, 25) := ⟨⟨by decide +kernel, by decide +kernel⟩, List.mem_of_getElem? (i := 686) (by decide +kernel), List.mem_of_getElem? (i := 845) (by decide +kernel), List.mem_of_getElem? (i := 846) (by decide +kernel)⟩
theorem lw_p26 : lw_okq (⟨"TicketChainModel", "isVoid", "(I)Z"⟩, 25) := ⟨⟨by decide +kernel, by decide +kernel⟩, List.mem_of_getElem? (i := 686) (by decide +kernel), List.mem_of_getElem? (i := 849) (by decide +kernel), List.mem_of_getElem? (i := 850) (by decide +kernel)⟩
theorem lw_p27 : lw_okq (⟨"TicketChainModel", "put", "(I)V"⟩, 25) := ⟨⟨by decide +kernel, by decide +kernel⟩, List.mem_of_getElem? (i := 686) (by decide +kernel), List.mem_of_getElem? (i := 892) (by decide +kernel), List.mem_of_getElem? (i := 893) (by decide +kernel)⟩
theorem lw_p28 : lw_okq (⟨"TicketChainModel", "putNumber", "(J)V"⟩, 25) := ⟨⟨by decide +kernel, by decide +kernel⟩, List.mem_of_getElem? (i := 686) (by decide +kernel), List.mem_of_getElem? (i := 896) (by decide +kernel), List.mem_of_getElem? (i := 897) (by decide +kernel)⟩
theorem lw_p29 : lw_okq (⟨"TicketChainModel", "isRow", "(I)Z"⟩, 25) := ⟨⟨by decide +kernel, by decide +kernel⟩, List.mem_of_getElem? (i := 686) (by decide +kernel), List.mem_of_getElem? (i := 906) (by decide +kernel), List.mem_of_getElem? (i := 907) (by decide +kernel)⟩
theorem lw_p30 : lw_okq (⟨"TicketChainModel", "pair", "(IIZ)V"⟩, 25) := ⟨⟨by decide +kernel, by decide +kernel⟩, List.mem_of_getElem? (i := 686) (by decide +kernel), List.mem_of_getElem? (i := 928) (by decide +kernel), List.mem_of_getElem? (i := 929) (by decide +kernel)⟩
def lw_privs_2 : List (MethodName × Nat) := [(⟨"java/lang/Throwable", "fillInStackTrace", "(I)Ljava/lang/Throwable;"⟩, 6), (⟨"TicketChainModel", "tareOf", "(II)J"⟩, 25), (⟨"TicketChainModel", "open", "(II)I"⟩, 25), (⟨"TicketChainModel", "write", "(IJI)I"⟩, 25), (⟨"TicketChainModel", "close", "(I)I"⟩, 25), (⟨"TicketChainModel", "digestOf", "(I)V"⟩, 25), (⟨"TicketChainModel", "lay", "(I)V"⟩, 25), (⟨"TicketChainModel", "reckon", "()V"⟩, 25), (⟨"TicketChainModel", "mix", "(I)V"⟩, 25), (⟨"TicketChainModel", "isTicket", "(I)Z"⟩, 25), (⟨"TicketChainModel", "isVoid", "(I)Z"⟩, 25), (⟨"TicketChainModel", "put", "(I)V"⟩, 25), (⟨"TicketChainModel", "putNumber", "(J)V"⟩, 25), (⟨"TicketChainModel", "isRow", "(I)Z"⟩, 25), (⟨"TicketChainModel", "pair", "(IIZ)V"⟩, 25)]
theorem lw_r2 : ∀ q ∈ lw_privs_2, lw_okq q := List.forall_mem_cons.mpr ⟨lw_p16, List.forall_mem_cons.mpr ⟨lw_p17, List.forall_mem_cons.mpr ⟨lw_p18, List.forall_mem_cons.mpr ⟨lw_p19, List.forall_mem_cons.mpr ⟨lw_p20, List.forall_mem_cons.mpr ⟨lw_p21, List.forall_mem_cons.mpr ⟨lw_p22, List.forall_mem_cons.mpr ⟨lw_p23, List.forall_mem_cons.mpr ⟨lw_p24, List.forall_mem_cons.mpr ⟨lw_p25, List.forall_mem_cons.mpr ⟨lw_p26, List.forall_mem_cons.mpr ⟨lw_p27, List.forall_mem_cons.mpr ⟨lw_p28, List.forall_mem_cons.mpr ⟨lw_p29, List.forall_mem_cons.mpr ⟨lw_p30, fun _ h => absurd h List.not_mem_nil⟩⟩⟩⟩⟩⟩⟩⟩⟩⟩⟩⟩⟩⟩⟩
def lw_privs : List (MethodName × Nat) := lw_privs_1 ++ (lw_privs_2)
def lw_tbl : List Cond := k2_sels lw_privs ++ tables_1
theorem lw_privs_ok : ∀ q ∈ lw_privs, lw_okq q := by
  show ∀ q ∈ lw_privs_1 ++ (lw_privs_2), lw_okq q
  exact List.forall_mem_append.mpr ⟨lw_r1, lw_r2⟩
-- the tables' words that a callee may be given, in one list for all methods
def GW : List Cond := lw_tbl.filter goodWord
theorem gw_t {w : Cond} (i : Nat) (h : tables_1[i]? = some w) (hg : goodWord w = true) : w ∈ GW := List.mem_filter.mpr ⟨List.mem_append_right _ (List.mem_of_getElem? h), hg⟩
theorem gw_p {q : MethodName × Nat} (i : Nat) (h : lw_privs[i]? = some q) : Cond.selects q.1.cls q.1 q.1 ∈ GW := List.mem_filter.mpr ⟨List.mem_append_left _ (List.mem_map.mpr ⟨q, List.mem_of_getElem? h, rfl⟩), rfl⟩
theorem gw_good {w : Cond} (h : w ∈ GW) : (w.onTables && w.keeps) = true ∨ ∃ ty, w = .arrayClass ty := good_of_word (List.mem_filter.mp h).2
end
section
-- names, out of claim/NAMES.whole.lean.txt (printed by program for pasting): classes, fields, methods
def RX0 : String := "TicketChain$Chain"
def TX0 : u_T := fun k => match k with
  | 0 => ("TicketChain$Chain", "rows", "Ljava/util/ArrayList;", true)
  | 1 => ("TicketChain$Chain", "sum", "LTicketChain$Sum;", true)
  | _ => ("TicketChain$Chain", "level", "[B", true)
def tyX0 : Nat → FieldType := fun k => match k with
  | 0 => .object "java/util/ArrayList"
  | 1 => .object "TicketChain$Sum"
  | _ => .array .byte
abbrev wsX00 : List Cond := u_ws RX0 TX0 3
theorem nmX0 : ∀ a, a < 3 → ∀ b, b < 3 → a ≠ b → (TX0 a).2.1 ≠ (TX0 b).2.1 := by decide +kernel
theorem tyX0_ok : ∀ k, k < 3 → parseFieldDescriptor (TX0 k).2.2.1 = some (tyX0 k) := by decide +kernel
def RX1 : String := "TicketChain$Form"
def TX1 : u_T := fun k => match k with
  | 0 => ("TicketChain$Form", "signs", "[B", true)
  | _ => ("TicketChain$Form", "length", "I", false)
def tyX1 : Nat → FieldType := fun k => match k with
  | 0 => .array .byte
  | _ => .int
abbrev wsX10 : List Cond := u_ws RX1 TX1 2
theorem nmX1 : ∀ a, a < 2 → ∀ b, b < 2 → a ≠ b → (TX1 a).2.1 ≠ (TX1 b).2.1 := by decide +kernel
theorem tyX1_ok : ∀ k, k < 2 → parseFieldDescriptor (TX1 k).2.2.1 = some (tyX1 k) := by decide +kernel
def RX2 : String := "TicketChain$Row"
def TX2 : u_T := fun k => match k with
  | 0 => ("TicketChain$Row", "bytes", "[B", true)
  | 1 => ("TicketChain$Row", "day", "I", true)
  | _ => ("TicketChain$Row", "written", "I", false)
def tyX2 : Nat → FieldType := fun k => match k with
  | 0 => .array .byte
  | 1 => .int
  | _ => .int
abbrev wsX20 : List Cond := u_ws RX2 TX2 3
theorem nmX2 : ∀ a, a < 3 → ∀ b, b < 3 → a ≠ b → (TX2 a).2.1 ≠ (TX2 b).2.1 := by decide +kernel
theorem tyX2_ok : ∀ k, k < 3 → parseFieldDescriptor (TX2 k).2.2.1 = some (tyX2 k) := by decide +kernel
def RX3 : String := "TicketChain$Sum"
def TX3 : u_T := fun k => match k with
  | 0 => ("TicketChain$Sum", "message", "[B", true)
  | 1 => ("TicketChain$Sum", "words", "[I", true)
  | 2 => ("TicketChain$Sum", "state", "[I", true)
  | _ => ("TicketChain$Sum", "filled", "I", false)
def tyX3 : Nat → FieldType := fun k => match k with
  | 0 => .array .byte
  | 1 => .array .int
  | 2 => .array .int
  | _ => .int
abbrev wsX30 : List Cond := u_ws RX3 TX3 4
theorem nmX3 : ∀ a, a < 4 → ∀ b, b < 4 → a ≠ b → (TX3 a).2.1 ≠ (TX3 b).2.1 := by decide +kernel
theorem tyX3_ok : ∀ k, k < 4 → parseFieldDescriptor (TX3 k).2.2.1 = some (tyX3 k) := by decide +kernel
def RX4 : String := "TicketChain$Tare"
def TX4 : u_T := fun k => match k with
  | 0 => ("TicketChain$Tare", "day", "I", true)
  | 1 => ("TicketChain$Tare", "vehicle", "I", true)
  | _ => ("TicketChain$Tare", "weight", "J", false)
def tyX4 : Nat → FieldType := fun k => match k with
  | 0 => .int
  | 1 => .int
  | _ => .long
abbrev wsX40 : List Cond := u_ws RX4 TX4 3
theorem nmX4 : ∀ a, a < 3 → ∀ b, b < 3 → a ≠ b → (TX4 a).2.1 ≠ (TX4 b).2.1 := by decide +kernel
theorem tyX4_ok : ∀ k, k < 3 → parseFieldDescriptor (TX4 k).2.2.1 = some (tyX4 k) := by decide +kernel
def RX5 : String := "TicketChain$TareBook"
def TX5 : u_T := fun k => match k with
  | _ => ("TicketChain$TareBook", "told", "Ljava/util/ArrayList;", true)
def tyX5 : Nat → FieldType := fun k => match k with
  | _ => .object "java/util/ArrayList"
abbrev wsX50 : List Cond := u_ws RX5 TX5 1
theorem nmX5 : ∀ a, a < 1 → ∀ b, b < 1 → a ≠ b → (TX5 a).2.1 ≠ (TX5 b).2.1 := by decide +kernel
theorem tyX5_ok : ∀ k, k < 1 → parseFieldDescriptor (TX5 k).2.2.1 = some (tyX5 k) := by decide +kernel
def RX6 : String := "TicketChain$Ticket"
def TX6 : u_T := fun k => match k with
  | 0 => ("TicketChain$Ticket", "fields", "[J", true)
  | _ => ("TicketChain$Ticket", "weights", "[J", true)
def tyX6 : Nat → FieldType := fun k => match k with
  | 0 => .array .long
  | _ => .array .long
abbrev wsX60 : List Cond := u_ws RX6 TX6 2
theorem nmX6 : ∀ a, a < 2 → ∀ b, b < 2 → a ≠ b → (TX6 a).2.1 ≠ (TX6 b).2.1 := by decide +kernel
theorem tyX6_ok : ∀ k, k < 2 → parseFieldDescriptor (TX6 k).2.2.1 = some (tyX6 k) := by decide +kernel
def RX7 : String := "TicketChain"
def TX7 : u_T := fun k => match k with
  | 0 => ("TicketChain", "tares", "LTicketChain$TareBook;", true)
  | 1 => ("TicketChain", "tickets", "Ljava/util/ArrayList;", true)
  | 2 => ("TicketChain", "spoiled", "[I", true)
  | 3 => ("TicketChain", "spoiledCount", "I", false)
  | 4 => ("TicketChain", "numbersUsed", "I", false)
  | 5 => ("TicketChain", "chain", "LTicketChain$Chain;", true)
  | _ => ("TicketChain", "form", "LTicketChain$Form;", true)
def tyX7 : Nat → FieldType := fun k => match k with
  | 0 => .object "TicketChain$TareBook"
  | 1 => .object "java/util/ArrayList"
  | 2 => .array .int
  | 3 => .int
  | 4 => .int
  | 5 => .object "TicketChain$Chain"
  | _ => .object "TicketChain$Form"
abbrev wsX70 : List Cond := u_ws RX7 TX7 7
theorem nmX7 : ∀ a, a < 7 → ∀ b, b < 7 → a ≠ b → (TX7 a).2.1 ≠ (TX7 b).2.1 := by decide +kernel
theorem tyX7_ok : ∀ k, k < 7 → parseFieldDescriptor (TX7 k).2.2.1 = some (tyX7 k) := by decide +kernel
def RX8 : String := "TicketChainModel"
def TX8 : u_T := fun k => match k with
  | 0 => ("TicketChainModel", "cubes", "[I", true)
  | 1 => ("TicketChainModel", "squares", "[I", true)
  | 2 => ("TicketChainModel", "toldDay", "[I", true)
  | 3 => ("TicketChainModel", "toldVehicle", "[I", true)
  | 4 => ("TicketChainModel", "toldTare", "[I", true)
  | 5 => ("TicketChainModel", "toldCount", "I", false)
  | 6 => ("TicketChainModel", "fields", "[J", true)
  | 7 => ("TicketChainModel", "weights", "[I", true)
  | 8 => ("TicketChainModel", "tickets", "I", false)
  | 9 => ("TicketChainModel", "numbers", "I", false)
  | 10 => ("TicketChainModel", "gaps", "[I", true)
  | 11 => ("TicketChainModel", "gapCount", "I", false)
  | 12 => ("TicketChainModel", "bytes", "[B", true)
  | 13 => ("TicketChainModel", "rowDay", "[I", true)
  | 14 => ("TicketChainModel", "rowCount", "I", false)
  | 15 => ("TicketChainModel", "fault", "I", false)
  | 16 => ("TicketChainModel", "row", "[B", true)
  | 17 => ("TicketChainModel", "rowSize", "I", false)
  | 18 => ("TicketChainModel", "result", "[B", true)
  | 19 => ("TicketChainModel", "state", "[I", true)
  | 20 => ("TicketChainModel", "now", "[I", true)
  | 21 => ("TicketChainModel", "words", "[I", true)
  | 22 => ("TicketChainModel", "level", "[B", true)
  | 23 => ("TicketChainModel", "form", "[B", true)
  | _ => ("TicketChainModel", "formSize", "I", false)
def tyX8 : Nat → FieldType := fun k => match k with
  | 0 => .array .int
  | 1 => .array .int
  | 2 => .array .int
  | 3 => .array .int
  | 4 => .array .int
  | 5 => .int
  | 6 => .array .long
  | 7 => .array .int
  | 8 => .int
  | 9 => .int
  | 10 => .array .int
  | 11 => .int
  | 12 => .array .byte
  | 13 => .array .int
  | 14 => .int
  | 15 => .int
  | 16 => .array .byte
  | 17 => .int
  | 18 => .array .byte
  | 19 => .array .int
  | 20 => .array .int
  | 21 => .array .int
  | 22 => .array .byte
  | 23 => .array .byte
  | _ => .int
abbrev wsX80 : List Cond := u_ws RX8 TX8 25
theorem nmX8 : ∀ a, a < 25 → ∀ b, b < 25 → a ≠ b → (TX8 a).2.1 ≠ (TX8 b).2.1 := by decide +kernel
theorem tyX8_ok : ∀ k, k < 25 → parseFieldDescriptor (TX8 k).2.2.1 = some (tyX8 k) := by decide +kernel
def RJx4a65c : String := "java/util/ArrayList"
def TJx4a65c : u_T := fun k => match k with
  | 0 => ("java/util/AbstractList", "modCount", "I", false)
  | 1 => ("java/util/ArrayList", "elementData", "[Ljava/lang/Object;", false)
  | _ => ("java/util/ArrayList", "size", "I", false)
def tyJx4a65c : Nat → FieldType := fun k => match k with
  | 0 => .int
  | 1 => .array (.object "java/lang/Object")
  | _ => .int
abbrev wsJx4a65c0 : List Cond := u_ws RJx4a65c TJx4a65c 3
theorem nmJx4a65c : ∀ a, a < 3 → ∀ b, b < 3 → a ≠ b → (TJx4a65c a).2.1 ≠ (TJx4a65c b).2.1 := by decide +kernel
theorem tyJx4a65c_ok : ∀ k, k < 3 → parseFieldDescriptor (TJx4a65c k).2.2.1 = some (tyJx4a65c k) := by decide +kernel
def RJx145de : String := "java/io/Serializable"
def RJx00060 : String := "java/lang/ArrayIndexOutOfBoundsException"
def RJx9f9b0 : String := "java/lang/CharSequence"
def RJx8e188 : String := "java/lang/Cloneable"
def RJxb160c : String := "java/lang/Comparable"
def RJxab1ab : String := "java/lang/Iterable"
def RJ9 : String := "java/lang/Math"
def RJ0 : String := "java/lang/String"
def RJ1 : String := "java/lang/StringLatin1"
def RJ2 : String := "java/lang/StringUTF16"
def RJ10 : String := "java/lang/System"
def RJxfd54e : String := "java/lang/constant/Constable"
def RJx3cf43 : String := "java/lang/constant/ConstantDesc"
def RJxa1e45 : String := "java/util/AbstractCollection"
def RJxc12de : String := "java/util/AbstractList"
def RJ7 : String := "java/util/Arrays"
def RJx5ef63 : String := "java/util/Collection"
def RJxbd725 : String := "java/util/List"
def RJ15 : String := "java/util/Objects"
def RJxf0a74 : String := "java/util/RandomAccess"
def RJxa66e6 : String := "java/util/SequencedCollection"
def RJ8 : String := "jdk/internal/util/ArraysSupport"
def RJ3 : String := "jdk/internal/util/Preconditions"
def RL : String := "TicketChainLaw"
abbrev cX0_init : ByteArray := prog_2_method_1_code
def yX0_init : MethodName := ⟨RX0, "<init>", "()V"⟩
abbrev cX0_count : ByteArray := prog_2_method_2_code
def yX0_count : MethodName := ⟨RX0, "count", "()I"⟩
abbrev cX0_isFull : ByteArray := prog_2_method_3_code
def yX0_isFull : MethodName := ⟨RX0, "isFull", "()Z"⟩
abbrev cX0_find : ByteArray := prog_2_method_4_code
def yX0_find : MethodName := ⟨RX0, "find", "(I)LTicketChain$Row;"⟩
abbrev cX0_append : ByteArray := prog_2_method_5_code
def yX0_append : MethodName := ⟨RX0, "append", "(LTicketChain$Row;)I"⟩
abbrev cX0_firstBroken : ByteArray := prog_2_method_6_code
def yX0_firstBroken : MethodName := ⟨RX0, "firstBroken", "(I)I"⟩
abbrev cX0_rootByte : ByteArray := prog_2_method_7_code
def yX0_rootByte : MethodName := ⟨RX0, "rootByte", "(II)I"⟩
abbrev cX0_sumRow : ByteArray := prog_2_method_8_code
def yX0_sumRow : MethodName := ⟨RX0, "sumRow", "(LTicketChain$Row;LTicketChain$Row;)V"⟩
abbrev cX0_gather : ByteArray := prog_2_method_9_code
def yX0_gather : MethodName := ⟨RX0, "gather", "(I)I"⟩
abbrev cX0_pairUp : ByteArray := prog_2_method_10_code
def yX0_pairUp : MethodName := ⟨RX0, "pairUp", "(I)V"⟩
abbrev cX1_init : ByteArray := prog_3_method_1_code
def yX1_init : MethodName := ⟨RX1, "<init>", "()V"⟩
abbrev cX1_fill : ByteArray := prog_3_method_2_code
def yX1_fill : MethodName := ⟨RX1, "fill", "(LTicketChain$Ticket;)V"⟩
abbrev cX1_sign : ByteArray := prog_3_method_3_code
def yX1_sign : MethodName := ⟨RX1, "sign", "(I)I"⟩
abbrev cX1_add : ByteArray := prog_3_method_4_code
def yX1_add : MethodName := ⟨RX1, "add", "(C)V"⟩
abbrev cX1_addDecimals : ByteArray := prog_3_method_5_code
def yX1_addDecimals : MethodName := ⟨RX1, "addDecimals", "(J)V"⟩
abbrev cX2_init : ByteArray := prog_4_method_1_code
def yX2_init : MethodName := ⟨RX2, "<init>", "(I)V"⟩
abbrev cX2_write : ByteArray := prog_4_method_2_code
def yX2_write : MethodName := ⟨RX2, "write", "(JI)V"⟩
abbrev cX2_has : ByteArray := prog_4_method_3_code
def yX2_has : MethodName := ⟨RX2, "has", "(I)Z"⟩
abbrev cX2_value : ByteArray := prog_4_method_4_code
def yX2_value : MethodName := ⟨RX2, "value", "(I)I"⟩
abbrev cX2_change : ByteArray := prog_4_method_5_code
def yX2_change : MethodName := ⟨RX2, "change", "(II)Z"⟩
abbrev cX3_init : ByteArray := prog_5_method_1_code
def yX3_init : MethodName := ⟨RX3, "<init>", "()V"⟩
abbrev cX3_start : ByteArray := prog_5_method_2_code
def yX3_start : MethodName := ⟨RX3, "start", "()V"⟩
abbrev cX3_add : ByteArray := prog_5_method_3_code
def yX3_add : MethodName := ⟨RX3, "add", "([BII)V"⟩
abbrev cX3_addZeros : ByteArray := prog_5_method_4_code
def yX3_addZeros : MethodName := ⟨RX3, "addZeros", "(I)V"⟩
abbrev cX3_finish : ByteArray := prog_5_method_5_code
def yX3_finish : MethodName := ⟨RX3, "finish", "()V"⟩
abbrev cX3_copyTo : ByteArray := prog_5_method_6_code
def yX3_copyTo : MethodName := ⟨RX3, "copyTo", "([BI)V"⟩
abbrev cX3_isAt : ByteArray := prog_5_method_7_code
def yX3_isAt : MethodName := ⟨RX3, "isAt", "([BI)Z"⟩
abbrev cX3_sumByte : ByteArray := prog_5_method_8_code
def yX3_sumByte : MethodName := ⟨RX3, "sumByte", "(I)B"⟩
abbrev cX3_addByte : ByteArray := prog_5_method_9_code
def yX3_addByte : MethodName := ⟨RX3, "addByte", "(I)V"⟩
abbrev cX3_readWords : ByteArray := prog_5_method_10_code
def yX3_readWords : MethodName := ⟨RX3, "readWords", "(I)V"⟩
abbrev cX3_mixWords : ByteArray := prog_5_method_11_code
def yX3_mixWords : MethodName := ⟨RX3, "mixWords", "()V"⟩
abbrev cX3_earlyWord : ByteArray := prog_5_method_12_code
def yX3_earlyWord : MethodName := ⟨RX3, "earlyWord", "(I)I"⟩
abbrev cX3_lateWord : ByteArray := prog_5_method_13_code
def yX3_lateWord : MethodName := ⟨RX3, "lateWord", "(I)I"⟩
abbrev cX3_turn : ByteArray := prog_5_method_14_code
def yX3_turn : MethodName := ⟨RX3, "turn", "(II)I"⟩
abbrev cX4_init : ByteArray := prog_6_method_1_code
def yX4_init : MethodName := ⟨RX4, "<init>", "(IIJ)V"⟩
abbrev cX5_init : ByteArray := prog_7_method_1_code
def yX5_init : MethodName := ⟨RX5, "<init>", "()V"⟩
abbrev cX5_tell : ByteArray := prog_7_method_2_code
def yX5_tell : MethodName := ⟨RX5, "tell", "(IIJ)Z"⟩
abbrev cX5_tareOn : ByteArray := prog_7_method_3_code
def yX5_tareOn : MethodName := ⟨RX5, "tareOn", "(II)J"⟩
abbrev cX5_lastUpTo : ByteArray := prog_7_method_4_code
def yX5_lastUpTo : MethodName := ⟨RX5, "lastUpTo", "(II)LTicketChain$Tare;"⟩
abbrev cX6_init : ByteArray := prog_8_method_1_code
def yX6_init : MethodName := ⟨RX6, "<init>", "(IIIJJJI)V"⟩
abbrev cX6_field : ByteArray := prog_8_method_2_code
def yX6_field : MethodName := ⟨RX6, "field", "(I)J"⟩
abbrev cX6_isVoid : ByteArray := prog_8_method_3_code
def yX6_isVoid : MethodName := ⟨RX6, "isVoid", "()Z"⟩
abbrev cX6_keepsNet : ByteArray := prog_8_method_4_code
def yX6_keepsNet : MethodName := ⟨RX6, "keepsNet", "(IJ)Z"⟩
abbrev cX6_put : ByteArray := prog_8_method_5_code
def yX6_put : MethodName := ⟨RX6, "put", "(IJ)V"⟩
abbrev cX6_weigh : ByteArray := prog_8_method_6_code
def yX6_weigh : MethodName := ⟨RX6, "weigh", "(IJ)Z"⟩
abbrev cX6_shareOf : ByteArray := prog_8_method_7_code
def yX6_shareOf : MethodName := ⟨RX6, "shareOf", "(I)J"⟩
abbrev cX6_totalWeight : ByteArray := prog_8_method_8_code
def yX6_totalWeight : MethodName := ⟨RX6, "totalWeight", "()J"⟩
abbrev cX7_init : ByteArray := prog_1_method_1_code
def yX7_init : MethodName := ⟨RX7, "<init>", "()V"⟩
abbrev cX7_follows : ByteArray := prog_1_method_2_code
def yX7_follows : MethodName := ⟨RX7, "follows", "(IIJ)Z"⟩
abbrev cX7_ticket : ByteArray := prog_1_method_3_code
def yX7_ticket : MethodName := ⟨RX7, "ticket", "(IIJJJI)I"⟩
abbrev cX7_correct : ByteArray := prog_1_method_4_code
def yX7_correct : MethodName := ⟨RX7, "correct", "(IIJI)I"⟩
abbrev cX7_voids : ByteArray := prog_1_method_5_code
def yX7_voids : MethodName := ⟨RX7, "voids", "(II)I"⟩
abbrev cX7_at : ByteArray := prog_1_method_6_code
def yX7_at : MethodName := ⟨RX7, "at", "(II)J"⟩
abbrev cX7_number : ByteArray := prog_1_method_7_code
def yX7_number : MethodName := ⟨RX7, "number", "(I)I"⟩
abbrev cX7_gap : ByteArray := prog_1_method_8_code
def yX7_gap : MethodName := ⟨RX7, "gap", "(I)I"⟩
abbrev cX7_rows : ByteArray := prog_1_method_9_code
def yX7_rows : MethodName := ⟨RX7, "rows", "()I"⟩
abbrev cX7_made : ByteArray := prog_1_method_10_code
def yX7_made : MethodName := ⟨RX7, "made", "()I"⟩
abbrev cX7_split : ByteArray := prog_1_method_11_code
def yX7_split : MethodName := ⟨RX7, "split", "(IIJ)Z"⟩
abbrev cX7_share : ByteArray := prog_1_method_12_code
def yX7_share : MethodName := ⟨RX7, "share", "(II)J"⟩
abbrev cX7_print : ByteArray := prog_1_method_13_code
def yX7_print : MethodName := ⟨RX7, "print", "(II)I"⟩
abbrev cX7_poke : ByteArray := prog_1_method_14_code
def yX7_poke : MethodName := ⟨RX7, "poke", "(III)Z"⟩
abbrev cX7_byteAt : ByteArray := prog_1_method_15_code
def yX7_byteAt : MethodName := ⟨RX7, "byteAt", "(II)I"⟩
abbrev cX7_digest : ByteArray := prog_1_method_16_code
def yX7_digest : MethodName := ⟨RX7, "digest", "(II)I"⟩
abbrev cX7_check : ByteArray := prog_1_method_17_code
def yX7_check : MethodName := ⟨RX7, "check", "(I)I"⟩
abbrev cX7_root : ByteArray := prog_1_method_18_code
def yX7_root : MethodName := ⟨RX7, "root", "(II)I"⟩
abbrev cX7_find : ByteArray := prog_1_method_19_code
def yX7_find : MethodName := ⟨RX7, "find", "(I)LTicketChain$Ticket;"⟩
abbrev cX7_spoilNumber : ByteArray := prog_1_method_20_code
def yX7_spoilNumber : MethodName := ⟨RX7, "spoilNumber", "()I"⟩
abbrev cX7_fits : ByteArray := prog_1_method_21_code
def yX7_fits : MethodName := ⟨RX7, "fits", "(IJ)Z"⟩
abbrev cX7_greatest : ByteArray := prog_1_method_22_code
def yX7_greatest : MethodName := ⟨RX7, "greatest", "(I)J"⟩
abbrev cX7_dayOf : ByteArray := prog_1_method_23_code
def yX7_dayOf : MethodName := ⟨RX7, "dayOf", "(J)I"⟩
abbrev cX7_ticketRow : ByteArray := prog_1_method_24_code
def yX7_ticketRow : MethodName := ⟨RX7, "ticketRow", "(LTicketChain$Ticket;)LTicketChain$Row;"⟩
abbrev cX7_correctionRow : ByteArray := prog_1_method_25_code
def yX7_correctionRow : MethodName := ⟨RX7, "correctionRow", "(LTicketChain$Ticket;IJI)LTicketChain$Row;"⟩
abbrev cX7_voidRow : ByteArray := prog_1_method_26_code
def yX7_voidRow : MethodName := ⟨RX7, "voidRow", "(LTicketChain$Ticket;I)LTicketChain$Row;"⟩
abbrev cX8_init : ByteArray := prog_10_method_1_code
def yX8_init : MethodName := ⟨RX8, "<init>", "()V"⟩
abbrev cX8_thrown : ByteArray := prog_10_method_2_code
def yX8_thrown : MethodName := ⟨RX8, "thrown", "()I"⟩
abbrev cX8_isAtMost : ByteArray := prog_10_method_3_code
def yX8_isAtMost : MethodName := ⟨RX8, "isAtMost", "(JIZ)Z"⟩
abbrev cX8_rootOf : ByteArray := prog_10_method_4_code
def yX8_rootOf : MethodName := ⟨RX8, "rootOf", "(IZ)I"⟩
abbrev cX8_rot : ByteArray := prog_10_method_5_code
def yX8_rot : MethodName := ⟨RX8, "rot", "(II)I"⟩
abbrev cX8_lay : ByteArray := prog_10_method_6_code
def yX8_lay : MethodName := ⟨RX8, "lay", "(I)V"⟩
abbrev cX8_reckon : ByteArray := prog_10_method_7_code
def yX8_reckon : MethodName := ⟨RX8, "reckon", "()V"⟩
abbrev cX8_mix : ByteArray := prog_10_method_8_code
def yX8_mix : MethodName := ⟨RX8, "mix", "(I)V"⟩
abbrev cX8_write : ByteArray := prog_10_method_9_code
def yX8_write : MethodName := ⟨RX8, "write", "(IJI)I"⟩
abbrev cX8_digestOf : ByteArray := prog_10_method_10_code
def yX8_digestOf : MethodName := ⟨RX8, "digestOf", "(I)V"⟩
abbrev cX8_close : ByteArray := prog_10_method_11_code
def yX8_close : MethodName := ⟨RX8, "close", "(I)I"⟩
abbrev cX8_open : ByteArray := prog_10_method_12_code
def yX8_open : MethodName := ⟨RX8, "open", "(II)I"⟩
abbrev cX8_isIn : ByteArray := prog_10_method_13_code
def yX8_isIn : MethodName := ⟨RX8, "isIn", "(JJ)Z"⟩
abbrev cX8_isTicket : ByteArray := prog_10_method_14_code
def yX8_isTicket : MethodName := ⟨RX8, "isTicket", "(I)Z"⟩
abbrev cX8_dayOf : ByteArray := prog_10_method_15_code
def yX8_dayOf : MethodName := ⟨RX8, "dayOf", "(J)I"⟩
abbrev cX8_canBe : ByteArray := prog_10_method_16_code
def yX8_canBe : MethodName := ⟨RX8, "canBe", "(IJ)Z"⟩
abbrev cX8_follows : ByteArray := prog_10_method_17_code
def yX8_follows : MethodName := ⟨RX8, "follows", "(IIJ)Z"⟩
abbrev cX8_tareOf : ByteArray := prog_10_method_18_code
def yX8_tareOf : MethodName := ⟨RX8, "tareOf", "(II)J"⟩
abbrev cX8_ticket : ByteArray := prog_10_method_19_code
def yX8_ticket : MethodName := ⟨RX8, "ticket", "(IIJJJI)I"⟩
abbrev cX8_isVoid : ByteArray := prog_10_method_20_code
def yX8_isVoid : MethodName := ⟨RX8, "isVoid", "(I)Z"⟩
abbrev cX8_correct : ByteArray := prog_10_method_21_code
def yX8_correct : MethodName := ⟨RX8, "correct", "(IIJI)I"⟩
abbrev cX8_voids : ByteArray := prog_10_method_22_code
def yX8_voids : MethodName := ⟨RX8, "voids", "(II)I"⟩
abbrev cX8_at : ByteArray := prog_10_method_23_code
def yX8_at : MethodName := ⟨RX8, "at", "(II)J"⟩
abbrev cX8_number : ByteArray := prog_10_method_24_code
def yX8_number : MethodName := ⟨RX8, "number", "(I)I"⟩
abbrev cX8_gap : ByteArray := prog_10_method_25_code
def yX8_gap : MethodName := ⟨RX8, "gap", "(I)I"⟩
abbrev cX8_rows : ByteArray := prog_10_method_26_code
def yX8_rows : MethodName := ⟨RX8, "rows", "()I"⟩
abbrev cX8_made : ByteArray := prog_10_method_27_code
def yX8_made : MethodName := ⟨RX8, "made", "()I"⟩
abbrev cX8_split : ByteArray := prog_10_method_28_code
def yX8_split : MethodName := ⟨RX8, "split", "(IIJ)Z"⟩
abbrev cX8_share : ByteArray := prog_10_method_29_code
def yX8_share : MethodName := ⟨RX8, "share", "(II)J"⟩
abbrev cX8_put : ByteArray := prog_10_method_30_code
def yX8_put : MethodName := ⟨RX8, "put", "(I)V"⟩
abbrev cX8_putNumber : ByteArray := prog_10_method_31_code
def yX8_putNumber : MethodName := ⟨RX8, "putNumber", "(J)V"⟩
abbrev cX8_print : ByteArray := prog_10_method_32_code
def yX8_print : MethodName := ⟨RX8, "print", "(II)I"⟩
abbrev cX8_isRow : ByteArray := prog_10_method_33_code
def yX8_isRow : MethodName := ⟨RX8, "isRow", "(I)Z"⟩
abbrev cX8_poke : ByteArray := prog_10_method_34_code
def yX8_poke : MethodName := ⟨RX8, "poke", "(III)Z"⟩
abbrev cX8_byteAt : ByteArray := prog_10_method_35_code
def yX8_byteAt : MethodName := ⟨RX8, "byteAt", "(II)I"⟩
abbrev cX8_digest : ByteArray := prog_10_method_36_code
def yX8_digest : MethodName := ⟨RX8, "digest", "(II)I"⟩
abbrev cX8_check : ByteArray := prog_10_method_37_code
def yX8_check : MethodName := ⟨RX8, "check", "(I)I"⟩
abbrev cX8_root : ByteArray := prog_10_method_38_code
def yX8_root : MethodName := ⟨RX8, "root", "(II)I"⟩
abbrev cX8_pair : ByteArray := prog_10_method_39_code
def yX8_pair : MethodName := ⟨RX8, "pair", "(IIZ)V"⟩
abbrev cJx00060_init_a7421 : ByteArray := prog_12_method_2_code
def yJx00060_init_a7421 : MethodName := ⟨RJx00060, "<init>", "(Ljava/lang/String;)V"⟩
abbrev cJ9_max_7cf53 : ByteArray := prog_19_method_65_code
def yJ9_max_7cf53 : MethodName := ⟨RJ9, "max", "(II)I"⟩
abbrev cJ9_min_7cf53 : ByteArray := prog_19_method_69_code
def yJ9_min_7cf53 : MethodName := ⟨RJ9, "min", "(II)I"⟩
abbrev cJ0_length_8abf5 : ByteArray := prog_21_method_54_code
def yJ0_length_8abf5 : MethodName := ⟨RJ0, "length", "()I"⟩
abbrev cJ0_charAt_5068e : ByteArray := prog_21_method_56_code
def yJ0_charAt_5068e : MethodName := ⟨RJ0, "charAt", "(I)C"⟩
abbrev cJ0_coder_7d493 : ByteArray := prog_21_method_152_code
def yJ0_coder_7d493 : MethodName := ⟨RJ0, "coder", "()B"⟩
abbrev cJ0_isLatin1_aae02 : ByteArray := prog_21_method_154_code
def yJ0_isLatin1_aae02 : MethodName := ⟨RJ0, "isLatin1", "()Z"⟩
abbrev cJ0_checkIndex_df160 : ByteArray := prog_21_method_155_code
def yJ0_checkIndex_df160 : MethodName := ⟨RJ0, "checkIndex", "(II)V"⟩
abbrev cJ1_charAt_3b067 : ByteArray := prog_22_method_2_code
def yJ1_charAt_3b067 : MethodName := ⟨RJ1, "charAt", "([BI)C"⟩
abbrev cJ2_getChar_3b067 : ByteArray := prog_23_method_5_code
def yJ2_getChar_3b067 : MethodName := ⟨RJ2, "getChar", "([BI)C"⟩
abbrev cJ2_length_9d52b : ByteArray := prog_23_method_6_code
def yJ2_length_9d52b : MethodName := ⟨RJ2, "length", "([B)I"⟩
abbrev cJ2_charAt_3b067 : ByteArray := prog_23_method_83_code
def yJ2_charAt_3b067 : MethodName := ⟨RJ2, "charAt", "([BI)C"⟩
abbrev cJ2_checkIndex_2214a : ByteArray := prog_23_method_91_code
def yJ2_checkIndex_2214a : MethodName := ⟨RJ2, "checkIndex", "(I[B)V"⟩
abbrev cJxa1e45_init_da8c8 : ByteArray := prog_28_method_1_code
def yJxa1e45_init_da8c8 : MethodName := ⟨RJxa1e45, "<init>", "()V"⟩
abbrev cJxc12de_init_da8c8 : ByteArray := prog_29_method_1_code
def yJxc12de_init_da8c8 : MethodName := ⟨RJxc12de, "<init>", "()V"⟩
abbrev cJx4a65c_init_da8c8 : ByteArray := prog_30_method_2_code
def yJx4a65c_init_da8c8 : MethodName := ⟨RJx4a65c, "<init>", "()V"⟩
abbrev cJx4a65c_grow_92f84 : ByteArray := prog_30_method_6_code
def yJx4a65c_grow_92f84 : MethodName := ⟨RJx4a65c, "grow", "(I)[Ljava/lang/Object;"⟩
abbrev cJx4a65c_grow_d5877 : ByteArray := prog_30_method_7_code
def yJx4a65c_grow_d5877 : MethodName := ⟨RJx4a65c, "grow", "()[Ljava/lang/Object;"⟩
abbrev cJx4a65c_size_8abf5 : ByteArray := prog_30_method_8_code
def yJx4a65c_size_8abf5 : MethodName := ⟨RJx4a65c, "size", "()I"⟩
abbrev cJx4a65c_elementData_915e3 : ByteArray := prog_30_method_18_code
def yJx4a65c_elementData_915e3 : MethodName := ⟨RJx4a65c, "elementData", "(I)Ljava/lang/Object;"⟩
abbrev cJx4a65c_get_915e3 : ByteArray := prog_30_method_20_code
def yJx4a65c_get_915e3 : MethodName := ⟨RJx4a65c, "get", "(I)Ljava/lang/Object;"⟩
abbrev cJx4a65c_add_72be8 : ByteArray := prog_30_method_24_code
def yJx4a65c_add_72be8 : MethodName := ⟨RJx4a65c, "add", "(Ljava/lang/Object;[Ljava/lang/Object;I)V"⟩
abbrev cJx4a65c_add_9ea2d : ByteArray := prog_30_method_25_code
def yJx4a65c_add_9ea2d : MethodName := ⟨RJx4a65c, "add", "(Ljava/lang/Object;)Z"⟩
abbrev cJ7_copyOf_1904c : ByteArray := prog_31_method_119_code
def yJ7_copyOf_1904c : MethodName := ⟨RJ7, "copyOf", "([Ljava/lang/Object;I)[Ljava/lang/Object;"⟩
abbrev cJ7_copyOf_6403c : ByteArray := prog_31_method_120_code
def yJ7_copyOf_6403c : MethodName := ⟨RJ7, "copyOf", "([Ljava/lang/Object;ILjava/lang/Class;)[Ljava/lang/Object;"⟩
abbrev cJ15_checkIndex_7cf53 : ByteArray := prog_34_method_17_code
def yJ15_checkIndex_7cf53 : MethodName := ⟨RJ15, "checkIndex", "(II)I"⟩
abbrev cJ8_newLength_cabcc : ByteArray := prog_37_method_27_code
def yJ8_newLength_cabcc : MethodName := ⟨RJ8, "newLength", "(III)I"⟩
abbrev cJ8_hugeLength_7cf53 : ByteArray := prog_37_method_28_code
def yJ8_hugeLength_7cf53 : MethodName := ⟨RJ8, "hugeLength", "(II)I"⟩
abbrev cJ3_checkIndex_8e157 : ByteArray := prog_38_method_11_code
def yJ3_checkIndex_8e157 : MethodName := ⟨RJ3, "checkIndex", "(IILjava/util/function/BiFunction;)I"⟩
abbrev cL_byteAt : ByteArray := method_3_code
def yL_byteAt : MethodName := ⟨RL, "byteAt", "(LTicketChain;II[J)I"⟩
abbrev cL_law : ByteArray := code
def yL_law : MethodName := ⟨RL, "law", "([I)Z"⟩
/-- the classes of the objects in a world -/
abbrev classes : List vw_C := [(RX0, TX0, 3), (RX1, TX1, 2), (RX2, TX2, 3), (RX3, TX3, 4), (RX4, TX4, 3), (RX5, TX5, 1), (RX6, TX6, 2), (RX7, TX7, 7), (RX8, TX8, 25), (RJx4a65c, TJx4a65c, 3)]
def kSqL : List Int32 := [1779033703, -1150833019, 1013904242, -1521486534, 1359893119, -1694144372, 528734635, 1541459225]
def kCuL : List Int32 := [1116352408, 1899447441, -1245643825, -373957723, 961987163, 1508970993, -1841331548, -1424204075, -670586216, 310598401, 607225278, 1426881987, 1925078388, -2132889090, -1680079193, -1046744716, -459576895, -272742522, 264347078, 604807628, 770255983, 1249150122, 1555081692, 1996064986, -1740746414, -1473132947, -1341970488, -1084653625, -958395405, -710438585, 113926993, 338241895, 666307205, 773529912, 1294757372, 1396182291, 1695183700, 1986661051, -2117940946, -1838011259, -1564481375, -1474664885, -1035236496, -949202525, -778901479, -694614492, -200395387, 275423344, 430227734, 506948616, 659060556, 883997877, 958139571, 1322822218, 1537002063, 1747873779, 1955562222, 2024104815, -2067236844, -1933114872, -1866530822, -1538233109, -1090935817, -965641998]
def kVoL : List Int32 := [32, 86, 79, 73, 68, 32]
def kSq (j : Nat) : Int32 := kSqL.getD j 0
def kCu (j : Nat) : Int32 := kCuL.getD j 0
def kVo (j : Nat) : Int32 := kVoL.getD j 0
set_option maxRecDepth 20000 in
theorem iwX0 : ∀ w ∈ u_ws RX0 TX0 3, w ∈ GW := by
  intro w hw
  refine List.mem_filter.mpr ⟨?_, ?_⟩
  · exact List.mem_append_right _ ((show ∀ w ∈ u_ws RX0 TX0 3, w ∈ tables_1 by decide +kernel) w hw)
  · exact (show ∀ w ∈ u_ws RX0 TX0 3, goodWord w = true by decide +kernel) w hw
set_option maxRecDepth 20000 in
theorem iwX1 : ∀ w ∈ u_ws RX1 TX1 2, w ∈ GW := by
  intro w hw
  refine List.mem_filter.mpr ⟨?_, ?_⟩
  · exact List.mem_append_right _ ((show ∀ w ∈ u_ws RX1 TX1 2, w ∈ tables_1 by decide +kernel) w hw)
  · exact (show ∀ w ∈ u_ws RX1 TX1 2, goodWord w = true by decide +kernel) w hw
set_option maxRecDepth 20000 in
theorem iwX2 : ∀ w ∈ u_ws RX2 TX2 3, w ∈ GW := by
  intro w hw
  refine List.mem_filter.mpr ⟨?_, ?_⟩
  · exact List.mem_append_right _ ((show ∀ w ∈ u_ws RX2 TX2 3, w ∈ tables_1 by decide +kernel) w hw)
  · exact (show ∀ w ∈ u_ws RX2 TX2 3, goodWord w = true by decide +kernel) w hw
set_option maxRecDepth 20000 in
theorem iwX3 : ∀ w ∈ u_ws RX3 TX3 4, w ∈ GW := by
  intro w hw
  refine List.mem_filter.mpr ⟨?_, ?_⟩
  · exact List.mem_append_right _ ((show ∀ w ∈ u_ws RX3 TX3 4, w ∈ tables_1 by decide +kernel) w hw)
  · exact (show ∀ w ∈ u_ws RX3 TX3 4, goodWord w = true by decide +kernel) w hw
set_option maxRecDepth 20000 in
theorem iwX4 : ∀ w ∈ u_ws RX4 TX4 3, w ∈ GW := by
  intro w hw
  refine List.mem_filter.mpr ⟨?_, ?_⟩
  · exact List.mem_append_right _ ((show ∀ w ∈ u_ws RX4 TX4 3, w ∈ tables_1 by decide +kernel) w hw)
  · exact (show ∀ w ∈ u_ws RX4 TX4 3, goodWord w = true by decide +kernel) w hw
set_option maxRecDepth 20000 in
theorem iwX5 : ∀ w ∈ u_ws RX5 TX5 1, w ∈ GW := by
  intro w hw
  refine List.mem_filter.mpr ⟨?_, ?_⟩
  · exact List.mem_append_right _ ((show ∀ w ∈ u_ws RX5 TX5 1, w ∈ tables_1 by decide +kernel) w hw)
  · exact (show ∀ w ∈ u_ws RX5 TX5 1, goodWord w = true by decide +kernel) w hw
set_option maxRecDepth 20000 in
theorem iwX6 : ∀ w ∈ u_ws RX6 TX6 2, w ∈ GW := by
  intro w hw
  refine List.mem_filter.mpr ⟨?_, ?_⟩
  · exact List.mem_append_right _ ((show ∀ w ∈ u_ws RX6 TX6 2, w ∈ tables_1 by decide +kernel) w hw)
  · exact (show ∀ w ∈ u_ws RX6 TX6 2, goodWord w = true by decide +kernel) w hw
set_option maxRecDepth 20000 in
theorem iwX7 : ∀ w ∈ u_ws RX7 TX7 7, w ∈ GW := by
  intro w hw
  refine List.mem_filter.mpr ⟨?_, ?_⟩
  · exact List.mem_append_right _ ((show ∀ w ∈ u_ws RX7 TX7 7, w ∈ tables_1 by decide +kernel) w hw)
  · exact (show ∀ w ∈ u_ws RX7 TX7 7, goodWord w = true by decide +kernel) w hw
set_option maxRecDepth 20000 in
theorem iwX8 : ∀ w ∈ u_ws RX8 TX8 25, w ∈ GW := by
  intro w hw
  refine List.mem_filter.mpr ⟨?_, ?_⟩
  · exact List.mem_append_right _ ((show ∀ w ∈ u_ws RX8 TX8 25, w ∈ tables_1 by decide +kernel) w hw)
  · exact (show ∀ w ∈ u_ws RX8 TX8 25, goodWord w = true by decide +kernel) w hw
set_option maxRecDepth 20000 in
theorem iwJx4a65c : ∀ w ∈ u_ws RJx4a65c TJx4a65c 3, w ∈ GW := by
  intro w hw
  refine List.mem_filter.mpr ⟨?_, ?_⟩
  · exact List.mem_append_right _ ((show ∀ w ∈ u_ws RJx4a65c TJx4a65c 3, w ∈ tables_1 by decide +kernel) w hw)
  · exact (show ∀ w ∈ u_ws RJx4a65c TJx4a65c 3, goodWord w = true by decide +kernel) w hw
end
section
/-! WORLDS BY TAGS: a world gives a tag its address and what the cell holds; the judgement V of a frame over a world; one word list GW for all methods -/
abbrev wd_T : Type := Nat → Option (Nat × va_E)
def wd_set (w : wd_T) (t a : Nat) (e : va_E) : wd_T := fun j => if j = t then some (a, e) else w j
theorem wd_eq {w : wd_T} {t a : Nat} {e : va_E} : wd_set w t a e t = some (a, e) := if_pos rfl
theorem wd_ne {w : wd_T} {t a j : Nat} {e : va_E} (h : j ≠ t) : wd_set w t a e j = w j := if_neg h
theorem wd_ss {w : wd_T} {t a b : Nat} {e f : va_E} : wd_set (wd_set w t a e) t b f = wd_set w t b f := by
  funext j
  by_cases h : j = t
  · subst h; rw [wd_eq, wd_eq]
  · rw [wd_ne h, wd_ne h, wd_ne h]
theorem wd_sw {w : wd_T} {t u a b : Nat} {e f : va_E} (h : t ≠ u) : wd_set (wd_set w t a e) u b f = wd_set (wd_set w u b f) t a e := by
  funext j
  by_cases h1 : j = t
  · subst h1; rw [wd_eq, wd_ne h, wd_eq]
  · rw [wd_ne h1]
    by_cases h2 : j = u
    · subst h2; rw [wd_eq, wd_eq]
    · rw [wd_ne h2, wd_ne h2, wd_ne h1]
/-- a cell that is written anew with what it holds -/
theorem wd_id {w : wd_T} {t a : Nat} {e : va_E} (h : w t = some (a, e)) : wd_set w t a e = w := by
  funext j
  by_cases h1 : j = t
  · subst h1; rw [wd_eq, h]
  · rw [wd_ne h1]
/-- what the whole run knows: the classes' numbers, the array classes (byte, int, long, Object), the statics' cells, the heap at the law's start -/
abbrev cx_G : Type := va_G × (ClassId × ClassId × ClassId × ClassId) × (Nat × Nat × Nat × Nat × Nat × Nat × Nat) × Heap
abbrev gB (g : cx_G) : ClassId := g.2.1.1
abbrev gI (g : cx_G) : ClassId := g.2.1.2.1
abbrev gL (g : cx_G) : ClassId := g.2.1.2.2.1
abbrev gO (g : cx_G) : ClassId := g.2.1.2.2.2
abbrev gsS (g : cx_G) : Nat := g.2.2.1.1
abbrev gsC (g : cx_G) : Nat := g.2.2.1.2.1
abbrev gsE (g : cx_G) : Nat := g.2.2.1.2.2.1
abbrev gsV (g : cx_G) : Nat := g.2.2.1.2.2.2.1
abbrev gsW (g : cx_G) : Nat := g.2.2.1.2.2.2.2.1
abbrev gsX (g : cx_G) : Nat := g.2.2.1.2.2.2.2.2.1
abbrev gsM (g : cx_G) : Nat := g.2.2.1.2.2.2.2.2.2
abbrev gH (g : cx_G) : Heap := g.2.2.2
def cx_A (g : cx_G) : Nat → Prop := fun q => (gH g).size ≤ q
abbrev cx_tys (g : cx_G) : List (ClassId × FieldType) := [(gB g, .byte), (gI g, .int), (gL g, .long), (gO g, .object "java/lang/Object")]
abbrev aB (g : cx_G) (n : Nat) (f : Nat → Int32) : va_E := .inl (gB g, n, .inl f)
abbrev aI (g : cx_G) (n : Nat) (f : Nat → Int32) : va_E := .inl (gI g, n, .inl f)
abbrev aL (g : cx_G) (n : Nat) (f : Nat → Int64) : va_E := .inl (gL g, n, .inr (.inl f))
abbrev aO (g : cx_G) (n : Nat) (f : Nat → Option Nat) : va_E := .inl (gO g, n, .inr (.inr (.inr (.inr f))))
abbrev ob (ci : Nat) (fs : List Value) : va_E := .inr (ci, fs)
def wl_ok (w : wd_T) (ws : va_W) : Prop := (∀ t a e, w t = some (a, e) → ∃ k : Nat, ws[k]? = some (a, e)) ∧ ∀ t1 t2 a e1 e2, w t1 = some (a, e1) → w t2 = some (a, e2) → t1 = t2
def hp_ok (g : cx_G) (w : wd_T) (H : Heap) : Prop := ∃ ws : va_W, va_P g.1 classes ws H ∧ va_D (cx_A g) ws ∧ wl_ok w ws ∧ va_S (cx_A g) (gH g) H []
theorem wl_set {w : wd_T} {ws : va_W} {A : Nat → Prop} {t a k : Nat} {e0 e : va_E} (h : wl_ok w ws) (hD : va_D A ws) (ht : w t = some (a, e0)) (hk : ws[k]? = some (a, e0)) : wl_ok (wd_set w t a e) (ws.set k (a, e)) := by
  have hl := (List.getElem?_eq_some_iff.mp hk).1
  refine ⟨fun j b f hj => ?_, fun t1 t2 b e1 e2 h1 h2 => ?_⟩
  · by_cases hjt : j = t
    · subst hjt
      rw [wd_eq] at hj
      cases hj
      exact ⟨k, List.getElem?_set_self hl⟩
    · rw [wd_ne hjt] at hj
      obtain ⟨i, hi⟩ := h.1 j b f hj
      refine ⟨i, ?_⟩
      have hne : k ≠ i := fun z => by
        subst z
        rw [hk] at hi
        cases hi
        exact hjt (h.2 j t a _ _ hj ht)
      rw [List.getElem?_set_ne hne]
      exact hi
  · by_cases q1 : t1 = t
    · by_cases q2 : t2 = t
      · rw [q1, q2]
      · subst q1
        rw [wd_eq] at h1
        rw [wd_ne q2] at h2
        cases h1
        exact h.2 _ _ _ _ _ ht h2
    · rw [wd_ne q1] at h1
      by_cases q2 : t2 = t
      · subst q2
        rw [wd_eq] at h2
        cases h2
        exact h.2 _ _ _ _ _ h1 ht
      · rw [wd_ne q2] at h2
        exact h.2 _ _ _ _ _ h1 h2
/-- a new cell; the tag may have named another one, which is let go -/
theorem wl_new {w : wd_T} {ws : va_W} {A : Nat → Prop} {t q : Nat} {e : va_E} (h : wl_ok w ws) (hD : va_D A (ws ++ [(q, e)])) : wl_ok (wd_set w t q e) (ws ++ [(q, e)]) := by
  have hlast : (ws ++ [(q, e)])[ws.length]? = some (q, e) := by rw [List.getElem?_append_right (Nat.le_refl _), Nat.sub_self]; rfl
  have old : ∀ (j b : Nat) (f : va_E), w j = some (b, f) → ∃ i, i < ws.length ∧ (ws ++ [(q, e)])[i]? = some (b, f) := by
    intro j b f hj
    obtain ⟨i, hi⟩ := h.1 j b f hj
    have hl := (List.getElem?_eq_some_iff.mp hi).1
    exact ⟨i, hl, by rw [List.getElem?_append_left hl]; exact hi⟩
  have fresh : ∀ (j b : Nat) (f : va_E), w j = some (b, f) → b ≠ q := by
    intro j b f hj z
    obtain ⟨i, hl, hi⟩ := old j b f hj
    have := hD.1 i ws.length _ _ hi hlast z
    omega
  refine ⟨fun j b f hj => ?_, fun t1 t2 b e1 e2 h1 h2 => ?_⟩
  · by_cases hjt : j = t
    · subst hjt
      rw [wd_eq] at hj
      cases hj
      exact ⟨_, hlast⟩
    · rw [wd_ne hjt] at hj
      obtain ⟨i, -, hi⟩ := old j b f hj
      exact ⟨i, hi⟩
  · by_cases q1 : t1 = t
    · by_cases q2 : t2 = t
      · rw [q1, q2]
      · subst q1
        rw [wd_eq] at h1
        rw [wd_ne q2] at h2
        cases h1
        exact absurd rfl (fresh _ _ _ h2)
    · rw [wd_ne q1] at h1
      by_cases q2 : t2 = t
      · subst q2
        rw [wd_eq] at h2
        cases h2
        exact absurd rfl (fresh _ _ _ h1)
      · rw [wd_ne q2] at h2
        exact h.2 _ _ _ _ _ h1 h2
theorem S_locs {A : Nat → Prop} {H0 H : Heap} {locs : List Loc} (h : va_S A H0 H []) (hL : ∀ z ∈ locs, A z.base) : va_S A H0 H locs := ⟨h.1, h.2.1, hL⟩
theorem S_nil {A : Nat → Prop} {H0 H : Heap} {locs : List Loc} (h : va_S A H0 H locs) : va_S A H0 H [] := ⟨h.1, h.2.1, fun _ q => nomatch q⟩
/-- statics: what they hold at the law's start, and for good (nobody writes them) -/
def ks_ok (g : cx_G) (s : State) : Prop :=
  va_Z "TicketChain" "SQUARE_ROOTS" "[I" (.ref (gsS g)) (cx_A g) s (gH g) ∧ va_T .int (gsS g) 8 (fun j => .int (kSq j)) (cx_A g) s (gH g) ∧
  va_Z "TicketChain" "CUBE_ROOTS" "[I" (.ref (gsC g)) (cx_A g) s (gH g) ∧ va_T .int (gsC g) 64 (fun j => .int (kCu j)) (cx_A g) s (gH g) ∧
  va_Z "java/util/ArrayList" "DEFAULTCAPACITY_EMPTY_ELEMENTDATA" "[Ljava/lang/Object;" (.ref (gsE g)) (cx_A g) s (gH g) ∧ va_T (.object "java/lang/Object") (gsE g) 0 (fun _ => .null) (cx_A g) s (gH g) ∧
  vk_R "TicketChain$Form" 37 " VOID " (gsV g) s ∧ va_O "java/lang/String" (gsV g) (cx_A g) s (gH g) ∧ va_OF "java/lang/String" "coder" "B" (.int 0) (gsV g) (cx_A g) s (gH g) ∧ va_OF "java/lang/String" "value" "[B" (.ref (gsW g)) (gsV g) (cx_A g) s (gH g) ∧ va_T .byte (gsW g) 6 (fun j => .int (kVo j)) (cx_A g) s (gH g) ∧
  va_Z "java/lang/String" "COMPACT_STRINGS" "Z" (.int 1) (cx_A g) s (gH g) ∧
  vk_R "TicketChain" 155 "no such byte of a row" (gsX g) s ∧
  va_Zq "java/lang/Throwable" "UNASSIGNED_STACK" "[Ljava/lang/StackTraceElement;" (cx_A g) s (gH g) ∧ va_Zq "java/lang/Throwable" "SUPPRESSED_SENTINEL" "Ljava/util/List;" (cx_A g) s (gH g) ∧
  va_Mi "[Ljava/lang/Object;" (gsM g) s ∧ va_AO "java/lang/Object" s
theorem va_Mi.moved9 {C : String} {mi : Nat} {u U : State} (hvm : u.vm.Alike U.vm) (h : va_Mi C mi u) : va_Mi C mi U := by
  obtain ⟨c, k, h1, h2, h3⟩ := h
  obtain ⟨k', hk', he⟩ := hvm.2.2 _ _ h2
  exact ⟨c, k', by rw [hvm.findClass]; exact h1, hk', by rw [he]; exact h3⟩
theorem ks_ok.warm {g : cx_G} {s U : State} (hW : s.WarmedH U.vm) (h : ks_ok g s) : ks_ok g U := by
  have a := hW.alike
  obtain ⟨h1, h2, h3, h4, h5, h6, h7, h8, h9, h10, h11, h12, h13, h14, h15, h16, h17⟩ := h
  exact ⟨h1.moved a, h2.moved a, h3.moved a, h4.moved a, h5.moved a, h6.moved a, h7.warm hW, va_O.moved a h8, va_OF.moved a h9, va_OF.moved a h10, h11.moved a, h12.moved a, h13.warm hW, va_Zq.moved a h14, va_Zq.moved a h15, h16.moved9 a, h17.moved a⟩
theorem ks_ok.same {g : cx_G} {u U : State} (hv : U.vm = u.vm) (h : ks_ok g u) : ks_ok g U := by
  have a : u.vm.Alike U.vm := by rw [hv]; exact Vm.Alike.refl u.vm
  obtain ⟨h1, h2, h3, h4, h5, h6, h7, h8, h9, h10, h11, h12, h13, h14, h15, h16, h17⟩ := h
  exact ⟨h1.moved a, h2.moved a, h3.moved a, h4.moved a, h5.moved a, h6.moved a, h7.same hv, va_O.moved a h8, va_OF.moved a h9, va_OF.moved a h10, h11.moved a, h12.moved a, h13.same hv, va_Zq.moved a h14, va_Zq.moved a h15, h16.moved9 a, h17.moved a⟩
/-- words that keep by laws of their own -/
def nw_ok : Cond → Bool
  | .fieldLinkNest .. => true
  | .methodLinkNest .. => true
  | .castable .. => true
  | .declares .. => true
  | _ => false
theorem nw_warm {w : Cond} {s U : State} (h : nw_ok w = true) (hW : s.WarmedH U.vm) (hZ : va_Nw w s) : va_Nw w U := by
  cases w <;> first
    | exact va_Nw.warmF hW hZ
    | exact va_Nw.warmM hW hZ
    | exact va_Nw.warmC hW hZ
    | exact va_Nw.warmD hW hZ
    | (exfalso; revert h; simp [nw_ok]; done)
theorem nw_onT {w : Cond} (h : nw_ok w = true) : w.onTables = true := by
  cases w <;> first
    | rfl
    | (exfalso; revert h; simp [nw_ok]; done)
def NW : List Cond := tables_1.filter nw_ok
theorem nw_t {w : Cond} (i : Nat) (h : tables_1[i]? = some w) (hg : nw_ok w = true) : w ∈ NW := List.mem_filter.mpr ⟨List.mem_of_getElem? h, hg⟩
theorem nw_in {w : Cond} (h : w ∈ NW) : nw_ok w = true := (List.mem_filter.mp h).2
def kn_ok (g : cx_G) (s : State) : Prop := va_K g.1 classes (cx_tys g) s ∧ ks_ok g s ∧ ∀ w ∈ NW, va_Nw w s
theorem kn_ok.warm {g : cx_G} {s U : State} (hW : s.WarmedH U.vm) (h : kn_ok g s) : kn_ok g U := ⟨h.1.moved hW.alike, h.2.1.warm hW, fun w hw => nw_warm (nw_in hw) hW (h.2.2 w hw)⟩
theorem kn_ok.same {g : cx_G} {u U : State} (hv : U.vm = u.vm) (h : kn_ok g u) : kn_ok g U := ⟨h.1.moved (by rw [hv]; exact Vm.Alike.refl u.vm), h.2.1.same hv, fun w hw => va_Nw.same (nw_onT (nw_in hw)) hv.symm (h.2.2 w hw)⟩
/-- what the tables say of a class of a world -/
def KO (ci : Nat) (CN : String) (T : u_T) (N : Nat) (ty : Nat → FieldType) : Prop := classes[ci]? = some (CN, T, N) ∧ (∀ w ∈ u_ws CN T N, w ∈ GW) ∧ (∀ k, k < N → parseFieldDescriptor (T k).2.2.1 = some (ty k)) ∧ ∀ a, a < N → ∀ b, b < N → a ≠ b → (T a).2.1 ≠ (T b).2.1
/-- a frame's surroundings -/
abbrev kx_T : Type := Program × Launch × Env × Room × State × MethodId × Array Value × List Frame × Method × Code
abbrev kxp (k : kx_T) := k.1
abbrev kxl (k : kx_T) := k.2.1
abbrev kxe (k : kx_T) := k.2.2.1
abbrev kxR (k : kx_T) := k.2.2.2.1
abbrev kxs (k : kx_T) := k.2.2.2.2.1
abbrev kxm (k : kx_T) := k.2.2.2.2.2.1
abbrev kxa (k : kx_T) := k.2.2.2.2.2.2.1
abbrev kxb (k : kx_T) := k.2.2.2.2.2.2.2.1
abbrev kxM (k : kx_T) := k.2.2.2.2.2.2.2.2.1
abbrev kxc (k : kx_T) := k.2.2.2.2.2.2.2.2.2
def Cx (g : cx_G) (k : kx_T) (own : String) (cc : ByteArray) (nL : Nat) (rt : Option FieldType) (d mc ms : Nat) : Prop :=
  (kxp k).tables.exec = Jvm.exec ∧ (kxc k).code = cc ∧ (kxc k).maxLocals = nL ∧ (kxs k).vm.findClass own = some (kxm k).cls ∧ (∀ w ∈ GW, w.before (kxa k) (kxs k) = true) ∧
  (kxM k).locks = false ∧ kn_ok g (kxs k) ∧ (kxM k).sig.returnType = rt ∧ d ≤ (kxR k).frames ∧ 40 * d ≤ (kxR k).locals ∧ mc ≤ (kxR k).cells ∧ ms ≤ (kxR k).slots
def V (g : cx_G) (k : kx_T) (nL : Nat) (w : wd_T) (cells slots : Nat) (Q : State → Prop) (pc : Nat) (lv : List (Nat × Value)) (st : List Value) : Prop :=
  ∀ (H : Heap) (locs : List Loc) (ls : Array Slot), hp_ok g w H → (∀ z ∈ locs, cx_A g z.base) → lv_has ls nL lv → W (kxp k) (kxl k) (kxe k) (kxR k) (kxs k) (kxm k) (kxa k) (kxb k) (kxM k) (kxc k) H locs cells slots Q (F0 (kxm k) pc ls st)
section RW
variable {g : cx_G} {k : kx_T} {own : String} {cc : ByteArray} {nL : Nat} {rt : Option FieldType} {d mc ms : Nat} {w w' : wd_T} {cells slots : Nat} {Q : State → Prop} {pc q : Nat} {lv lv' : List (Nat × Value)} {st : List Value}

theorem r_iadd (C : Cx g k own cc nL rt d mc ms) {x y : Int32} (dg : decode cc pc = .ok (.iadd, 1))  (e : pc + 1 = q) (kk : V g k nL w cells slots Q q lv (.int (y + x) :: st)) : V g k nL w cells slots Q pc lv (.int x :: .int y :: st) := by
  subst e
  exact fun H locs ls h1 h2 h3 => lv_iadd C.1 C.2.1 dg (kk H locs ls h1 h2 h3)
theorem r_isub (C : Cx g k own cc nL rt d mc ms) {x y : Int32} (dg : decode cc pc = .ok (.isub, 1))  (e : pc + 1 = q) (kk : V g k nL w cells slots Q q lv (.int (y - x) :: st)) : V g k nL w cells slots Q pc lv (.int x :: .int y :: st) := by
  subst e
  exact fun H locs ls h1 h2 h3 => lv_isub C.1 C.2.1 dg (kk H locs ls h1 h2 h3)
theorem r_imul (C : Cx g k own cc nL rt d mc ms) {x y : Int32} (dg : decode cc pc = .ok (.imul, 1))  (e : pc + 1 = q) (kk : V g k nL w cells slots Q q lv (.int (y * x) :: st)) : V g k nL w cells slots Q pc lv (.int x :: .int y :: st) := by
  subst e
  exact fun H locs ls h1 h2 h3 => lv_imul C.1 C.2.1 dg (kk H locs ls h1 h2 h3)
theorem r_iand (C : Cx g k own cc nL rt d mc ms) {x y : Int32} (dg : decode cc pc = .ok (.iand, 1))  (e : pc + 1 = q) (kk : V g k nL w cells slots Q q lv (.int (y &&& x) :: st)) : V g k nL w cells slots Q pc lv (.int x :: .int y :: st) := by
  subst e
  exact fun H locs ls h1 h2 h3 => lv_iand C.1 C.2.1 dg (kk H locs ls h1 h2 h3)
theorem r_ior (C : Cx g k own cc nL rt d mc ms) {x y : Int32} (dg : decode cc pc = .ok (.ior, 1))  (e : pc + 1 = q) (kk : V g k nL w cells slots Q q lv (.int (y ||| x) :: st)) : V g k nL w cells slots Q pc lv (.int x :: .int y :: st) := by
  subst e
  exact fun H locs ls h1 h2 h3 => lv_ior C.1 C.2.1 dg (kk H locs ls h1 h2 h3)
theorem r_ixor (C : Cx g k own cc nL rt d mc ms) {x y : Int32} (dg : decode cc pc = .ok (.ixor, 1))  (e : pc + 1 = q) (kk : V g k nL w cells slots Q q lv (.int (y ^^^ x) :: st)) : V g k nL w cells slots Q pc lv (.int x :: .int y :: st) := by
  subst e
  exact fun H locs ls h1 h2 h3 => lv_ixor C.1 C.2.1 dg (kk H locs ls h1 h2 h3)
theorem r_ishl (C : Cx g k own cc nL rt d mc ms) {x y : Int32} (dg : decode cc pc = .ok (.ishl, 1))  (e : pc + 1 = q) (kk : V g k nL w cells slots Q q lv (.int (y <<< (x &&& 31)) :: st)) : V g k nL w cells slots Q pc lv (.int x :: .int y :: st) := by
  subst e
  exact fun H locs ls h1 h2 h3 => lv_ishl C.1 C.2.1 dg (kk H locs ls h1 h2 h3)
theorem r_ishr (C : Cx g k own cc nL rt d mc ms) {x y : Int32} (dg : decode cc pc = .ok (.ishr, 1))  (e : pc + 1 = q) (kk : V g k nL w cells slots Q q lv (.int (y >>> (x &&& 31)) :: st)) : V g k nL w cells slots Q pc lv (.int x :: .int y :: st) := by
  subst e
  exact fun H locs ls h1 h2 h3 => lv_ishr C.1 C.2.1 dg (kk H locs ls h1 h2 h3)
theorem r_ladd (C : Cx g k own cc nL rt d mc ms) {x y : Int64} (dg : decode cc pc = .ok (.ladd, 1))  (e : pc + 1 = q) (kk : V g k nL w cells slots Q q lv (.long (y + x) :: st)) : V g k nL w cells slots Q pc lv (.long x :: .long y :: st) := by
  subst e
  exact fun H locs ls h1 h2 h3 => lv_ladd C.1 C.2.1 dg (kk H locs ls h1 h2 h3)
theorem r_lsub (C : Cx g k own cc nL rt d mc ms) {x y : Int64} (dg : decode cc pc = .ok (.lsub, 1))  (e : pc + 1 = q) (kk : V g k nL w cells slots Q q lv (.long (y - x) :: st)) : V g k nL w cells slots Q pc lv (.long x :: .long y :: st) := by
  subst e
  exact fun H locs ls h1 h2 h3 => lv_lsub C.1 C.2.1 dg (kk H locs ls h1 h2 h3)
theorem r_lmul (C : Cx g k own cc nL rt d mc ms) {x y : Int64} (dg : decode cc pc = .ok (.lmul, 1))  (e : pc + 1 = q) (kk : V g k nL w cells slots Q q lv (.long (y * x) :: st)) : V g k nL w cells slots Q pc lv (.long x :: .long y :: st) := by
  subst e
  exact fun H locs ls h1 h2 h3 => lv_lmul C.1 C.2.1 dg (kk H locs ls h1 h2 h3)
theorem r_land (C : Cx g k own cc nL rt d mc ms) {x y : Int64} (dg : decode cc pc = .ok (.land, 1))  (e : pc + 1 = q) (kk : V g k nL w cells slots Q q lv (.long (y &&& x) :: st)) : V g k nL w cells slots Q pc lv (.long x :: .long y :: st) := by
  subst e
  exact fun H locs ls h1 h2 h3 => lv_land C.1 C.2.1 dg (kk H locs ls h1 h2 h3)
theorem r_lor (C : Cx g k own cc nL rt d mc ms) {x y : Int64} (dg : decode cc pc = .ok (.lor, 1))  (e : pc + 1 = q) (kk : V g k nL w cells slots Q q lv (.long (y ||| x) :: st)) : V g k nL w cells slots Q pc lv (.long x :: .long y :: st) := by
  subst e
  exact fun H locs ls h1 h2 h3 => lv_lor C.1 C.2.1 dg (kk H locs ls h1 h2 h3)
theorem r_idiv (C : Cx g k own cc nL rt d mc ms) {x y : Int32} (dg : decode cc pc = .ok (.idiv, 1)) (hne : ¬ x = 0) (e : pc + 1 = q) (kk : V g k nL w cells slots Q q lv (.int (y / x) :: st)) : V g k nL w cells slots Q pc lv (.int x :: .int y :: st) := by
  subst e
  exact fun H locs ls h1 h2 h3 => lv_idiv C.1 C.2.1 dg hne (kk H locs ls h1 h2 h3)
theorem r_irem (C : Cx g k own cc nL rt d mc ms) {x y : Int32} (dg : decode cc pc = .ok (.irem, 1)) (hne : ¬ x = 0) (e : pc + 1 = q) (kk : V g k nL w cells slots Q q lv (.int (y - y / x * x) :: st)) : V g k nL w cells slots Q pc lv (.int x :: .int y :: st) := by
  subst e
  exact fun H locs ls h1 h2 h3 => lv_irem C.1 C.2.1 dg hne (kk H locs ls h1 h2 h3)
theorem r_ldiv (C : Cx g k own cc nL rt d mc ms) {x y : Int64} (dg : decode cc pc = .ok (.ldiv, 1)) (hne : ¬ x = 0) (e : pc + 1 = q) (kk : V g k nL w cells slots Q q lv (.long (y / x) :: st)) : V g k nL w cells slots Q pc lv (.long x :: .long y :: st) := by
  subst e
  exact fun H locs ls h1 h2 h3 => lv_ldiv C.1 C.2.1 dg hne (kk H locs ls h1 h2 h3)
theorem r_lrem (C : Cx g k own cc nL rt d mc ms) {x y : Int64} (dg : decode cc pc = .ok (.lrem, 1)) (hne : ¬ x = 0) (e : pc + 1 = q) (kk : V g k nL w cells slots Q q lv (.long (y - y / x * x) :: st)) : V g k nL w cells slots Q pc lv (.long x :: .long y :: st) := by
  subst e
  exact fun H locs ls h1 h2 h3 => lv_lrem C.1 C.2.1 dg hne (kk H locs ls h1 h2 h3)
theorem r_iushr (C : Cx g k own cc nL rt d mc ms) {x y : Int32} (dg : decode cc pc = .ok (.iushr, 1))  (e : pc + 1 = q) (kk : V g k nL w cells slots Q q lv (.int (y.toUInt32 >>> (x.toUInt32 &&& Int32.toUInt32 31)).toInt32 :: st)) : V g k nL w cells slots Q pc lv (.int x :: .int y :: st) := by
  subst e
  exact fun H locs ls h1 h2 h3 => lv_iushr C.1 C.2.1 dg rfl (kk H locs ls h1 h2 h3)
theorem r_lushr (C : Cx g k own cc nL rt d mc ms) {x : Int32} {y : Int64} (dg : decode cc pc = .ok (.lushr, 1))  (e : pc + 1 = q) (kk : V g k nL w cells slots Q q lv (.long (y.toUInt64 >>> (x.toInt64.toUInt64 &&& Int64.toUInt64 63)).toInt64 :: st)) : V g k nL w cells slots Q pc lv (.int x :: .long y :: st) := by
  subst e
  exact fun H locs ls h1 h2 h3 => lv_lushr C.1 C.2.1 dg rfl (kk H locs ls h1 h2 h3)
theorem r_lshl (C : Cx g k own cc nL rt d mc ms) {x : Int32} {y : Int64} (dg : decode cc pc = .ok (.lshl, 1))  (e : pc + 1 = q) (kk : V g k nL w cells slots Q q lv (.long (y <<< (x.toInt64 &&& 63)) :: st)) : V g k nL w cells slots Q pc lv (.int x :: .long y :: st) := by
  subst e
  exact fun H locs ls h1 h2 h3 => lv_lshl C.1 C.2.1 dg rfl (kk H locs ls h1 h2 h3)
theorem r_lshr (C : Cx g k own cc nL rt d mc ms) {x : Int32} {y : Int64} (dg : decode cc pc = .ok (.lshr, 1))  (e : pc + 1 = q) (kk : V g k nL w cells slots Q q lv (.long (y >>> (x.toInt64 &&& 63)) :: st)) : V g k nL w cells slots Q pc lv (.int x :: .long y :: st) := by
  subst e
  exact fun H locs ls h1 h2 h3 => lv_lshr C.1 C.2.1 dg rfl (kk H locs ls h1 h2 h3)
theorem r_i2l (C : Cx g k own cc nL rt d mc ms) {x : Int32} (dg : decode cc pc = .ok (.i2l, 1))  (e : pc + 1 = q) (kk : V g k nL w cells slots Q q lv (.long x.toInt64 :: st)) : V g k nL w cells slots Q pc lv (.int x :: st) := by
  subst e
  exact fun H locs ls h1 h2 h3 => lv_i2l C.1 C.2.1 dg rfl (kk H locs ls h1 h2 h3)
theorem r_l2i (C : Cx g k own cc nL rt d mc ms) {x : Int64} (dg : decode cc pc = .ok (.l2i, 1))  (e : pc + 1 = q) (kk : V g k nL w cells slots Q q lv (.int x.toInt32 :: st)) : V g k nL w cells slots Q pc lv (.long x :: st) := by
  subst e
  exact fun H locs ls h1 h2 h3 => lv_l2i C.1 C.2.1 dg rfl (kk H locs ls h1 h2 h3)
theorem r_i2b (C : Cx g k own cc nL rt d mc ms) {x : Int32} (dg : decode cc pc = .ok (.i2b, 1))  (e : pc + 1 = q) (kk : V g k nL w cells slots Q q lv (.int x.toInt8.toInt32 :: st)) : V g k nL w cells slots Q pc lv (.int x :: st) := by
  subst e
  exact fun H locs ls h1 h2 h3 => lv_i2b C.1 C.2.1 dg rfl (kk H locs ls h1 h2 h3)
theorem r_i2c (C : Cx g k own cc nL rt d mc ms) {x : Int32} (dg : decode cc pc = .ok (.i2c, 1))  (e : pc + 1 = q) (kk : V g k nL w cells slots Q q lv (.int (x.toUInt32 % 65536).toInt32 :: st)) : V g k nL w cells slots Q pc lv (.int x :: st) := by
  subst e
  exact fun H locs ls h1 h2 h3 => lv_i2c C.1 C.2.1 dg rfl (kk H locs ls h1 h2 h3)
theorem r_iconst (C : Cx g k own cc nL rt d mc ms) {n : Int} (v : Int32) (dg : decode cc pc = .ok (.iconst n, 1)) (hv : Int32.ofInt n = v) (e : pc + 1 = q) (kk : V g k nL w cells slots Q q lv (.int v :: st)) : V g k nL w cells slots Q pc lv st := by
  subst e
  exact fun H locs ls h1 h2 h3 => lv_iconst C.1 C.2.1 dg hv (kk H locs ls h1 h2 h3)
theorem r_bipush (C : Cx g k own cc nL rt d mc ms) {n : Int} (v : Int32) (dg : decode cc pc = .ok (.bipush n, 2)) (hv : (Int8.ofInt n).toInt32 = v) (e : pc + 2 = q) (kk : V g k nL w cells slots Q q lv (.int v :: st)) : V g k nL w cells slots Q pc lv st := by
  subst e
  exact fun H locs ls h1 h2 h3 => lv_bipush C.1 C.2.1 dg hv (kk H locs ls h1 h2 h3)
theorem r_sipush (C : Cx g k own cc nL rt d mc ms) {n : Int} (v : Int32) (dg : decode cc pc = .ok (.sipush n, 3)) (hv : (Int16.ofInt n).toInt32 = v) (e : pc + 3 = q) (kk : V g k nL w cells slots Q q lv (.int v :: st)) : V g k nL w cells slots Q pc lv st := by
  subst e
  exact fun H locs ls h1 h2 h3 => lv_sipush C.1 C.2.1 dg hv (kk H locs ls h1 h2 h3)
theorem r_lconst (C : Cx g k own cc nL rt d mc ms) {n : Fin 2} (v : Int64) (dg : decode cc pc = .ok (.lconst n, 1)) (hv : Int64.ofNat (n : Nat) = v) (e : pc + 1 = q) (kk : V g k nL w cells slots Q q lv (.long v :: st)) : V g k nL w cells slots Q pc lv st := by
  subst e
  exact fun H locs ls h1 h2 h3 => lv_lconst C.1 C.2.1 dg hv (kk H locs ls h1 h2 h3)
theorem r_ldc (C : Cx g k own cc nL rt d mc ms) {ix : Nat} {v : Int32} (dg : decode cc pc = .ok (.ldc ix, 2)) (hc : Cond.constant own ix v ∈ GW) (e : pc + 2 = q) (kk : V g k nL w cells slots Q q lv (.int v :: st)) : V g k nL w cells slots Q pc lv st := by
  subst e
  exact fun H locs ls h1 h2 h3 => lv_ldc C.1 C.2.1 C.2.2.2.1 (C.2.2.2.2.1 _ hc) dg (kk H locs ls h1 h2 h3)
theorem r_ldc2 (C : Cx g k own cc nL rt d mc ms) {ix : Nat} {v : Int64} (dg : decode cc pc = .ok (.ldc2_w ix, 3)) (hc : Cond.constantLong own ix v ∈ GW) (e : pc + 3 = q) (kk : V g k nL w cells slots Q q lv (.long v :: st)) : V g k nL w cells slots Q pc lv st := by
  subst e
  exact fun H locs ls h1 h2 h3 => lv_ldc2 C.1 C.2.1 C.2.2.2.1 (C.2.2.2.2.1 _ hc) dg (kk H locs ls h1 h2 h3)
theorem r_null (C : Cx g k own cc nL rt d mc ms)  (dg : decode cc pc = .ok (.aconst_null, 1))  (e : pc + 1 = q) (kk : V g k nL w cells slots Q q lv (.null :: st)) : V g k nL w cells slots Q pc lv st := by
  subst e
  exact fun H locs ls h1 h2 h3 => lv_null C.1 C.2.1 dg (kk H locs ls h1 h2 h3)
theorem r_pop (C : Cx g k own cc nL rt d mc ms) {va : Value} (dg : decode cc pc = .ok (.pop, 1)) (hva : va.category = 1) (e : pc + 1 = q) (kk : V g k nL w cells slots Q q lv st) : V g k nL w cells slots Q pc lv (va :: st) := by
  subst e
  exact fun H locs ls h1 h2 h3 => lv_pop C.1 C.2.1 dg hva (kk H locs ls h1 h2 h3)
theorem r_dup (C : Cx g k own cc nL rt d mc ms) {va : Value} (dg : decode cc pc = .ok (.dup, 1)) (hva : va.category = 1) (e : pc + 1 = q) (kk : V g k nL w cells slots Q q lv (va :: va :: st)) : V g k nL w cells slots Q pc lv (va :: st) := by
  subst e
  exact fun H locs ls h1 h2 h3 => lv_dup C.1 C.2.1 dg hva (kk H locs ls h1 h2 h3)
theorem r_dup_x1 (C : Cx g k own cc nL rt d mc ms) {va vb : Value} (dg : decode cc pc = .ok (.dup_x1, 1)) (hva : va.category = 1) (hvb : vb.category = 1) (e : pc + 1 = q) (kk : V g k nL w cells slots Q q lv (va :: vb :: va :: st)) : V g k nL w cells slots Q pc lv (va :: vb :: st) := by
  subst e
  exact fun H locs ls h1 h2 h3 => lv_dup_x1 C.1 C.2.1 dg hva hvb (kk H locs ls h1 h2 h3)
theorem r_dup2 (C : Cx g k own cc nL rt d mc ms) {va vb : Value} (dg : decode cc pc = .ok (.dup2, 1)) (hva : va.category = 1) (hvb : vb.category = 1) (e : pc + 1 = q) (kk : V g k nL w cells slots Q q lv (va :: vb :: va :: vb :: st)) : V g k nL w cells slots Q pc lv (va :: vb :: st) := by
  subst e
  exact fun H locs ls h1 h2 h3 => lv_dup2_11 C.1 C.2.1 dg hva hvb (kk H locs ls h1 h2 h3)
theorem r_dup2l (C : Cx g k own cc nL rt d mc ms) {va : Value} (dg : decode cc pc = .ok (.dup2, 1)) (hva : va.category = 2) (e : pc + 1 = q) (kk : V g k nL w cells slots Q q lv (va :: va :: st)) : V g k nL w cells slots Q pc lv (va :: st) := by
  subst e
  exact fun H locs ls h1 h2 h3 => lv_dup2_2 C.1 C.2.1 dg hva (kk H locs ls h1 h2 h3)
theorem r_iload_n (C : Cx g k own cc nL rt d mc ms) {i : Fin 4} {x : Int32} (j : Nat) (dg : decode cc pc = .ok (.iload_n i, 1)) (hl : lv[j]? = some ((i : Nat), .int x)) (e : pc + 1 = q) (kk : V g k nL w cells slots Q q lv (.int x :: st)) : V g k nL w cells slots Q pc lv st := by
  subst e
  exact fun H locs ls h1 h2 h3 => lv_iload_n C.1 C.2.1 dg rfl (lv_at h3 j hl) (kk H locs ls h1 h2 h3)
theorem r_iload (C : Cx g k own cc nL rt d mc ms) {i : Nat} {x : Int32} (j : Nat) (dg : decode cc pc = .ok (.iload i, 2)) (hl : lv[j]? = some (i, .int x)) (e : pc + 2 = q) (kk : V g k nL w cells slots Q q lv (.int x :: st)) : V g k nL w cells slots Q pc lv st := by
  subst e
  exact fun H locs ls h1 h2 h3 => lv_iload C.1 C.2.1 dg (lv_at h3 j hl) (kk H locs ls h1 h2 h3)
theorem r_lload_n (C : Cx g k own cc nL rt d mc ms) {i : Fin 4} {x : Int64} (j : Nat) (dg : decode cc pc = .ok (.lload_n i, 1)) (hl : lv[j]? = some ((i : Nat), .long x)) (e : pc + 1 = q) (kk : V g k nL w cells slots Q q lv (.long x :: st)) : V g k nL w cells slots Q pc lv st := by
  subst e
  exact fun H locs ls h1 h2 h3 => lv_lload_n C.1 C.2.1 dg rfl (lv_at h3 j hl) (kk H locs ls h1 h2 h3)
theorem r_lload (C : Cx g k own cc nL rt d mc ms) {i : Nat} {x : Int64} (j : Nat) (dg : decode cc pc = .ok (.lload i, 2)) (hl : lv[j]? = some (i, .long x)) (e : pc + 2 = q) (kk : V g k nL w cells slots Q q lv (.long x :: st)) : V g k nL w cells slots Q pc lv st := by
  subst e
  exact fun H locs ls h1 h2 h3 => lv_lload C.1 C.2.1 dg (lv_at h3 j hl) (kk H locs ls h1 h2 h3)
theorem r_aload_n (C : Cx g k own cc nL rt d mc ms) {i : Fin 4} {x : Nat} (j : Nat) (dg : decode cc pc = .ok (.aload_n i, 1)) (hl : lv[j]? = some ((i : Nat), .ref x)) (e : pc + 1 = q) (kk : V g k nL w cells slots Q q lv (.ref x :: st)) : V g k nL w cells slots Q pc lv st := by
  subst e
  exact fun H locs ls h1 h2 h3 => lv_aload_n C.1 C.2.1 dg rfl (lv_at h3 j hl) (kk H locs ls h1 h2 h3)
theorem r_aload (C : Cx g k own cc nL rt d mc ms) {i : Nat} {x : Nat} (j : Nat) (dg : decode cc pc = .ok (.aload i, 2)) (hl : lv[j]? = some (i, .ref x)) (e : pc + 2 = q) (kk : V g k nL w cells slots Q q lv (.ref x :: st)) : V g k nL w cells slots Q pc lv st := by
  subst e
  exact fun H locs ls h1 h2 h3 => lv_aload C.1 C.2.1 dg (lv_at h3 j hl) (kk H locs ls h1 h2 h3)
theorem r_aload_nN (C : Cx g k own cc nL rt d mc ms) {i : Fin 4} (j : Nat) (dg : decode cc pc = .ok (.aload_n i, 1)) (hl : lv[j]? = some ((i : Nat), .null)) (e : pc + 1 = q) (kk : V g k nL w cells slots Q q lv (.null :: st)) : V g k nL w cells slots Q pc lv st := by
  subst e
  exact fun H locs ls h1 h2 h3 => lv_aload_nN C.1 C.2.1 dg rfl (lv_at h3 j hl) (kk H locs ls h1 h2 h3)
theorem r_aloadN (C : Cx g k own cc nL rt d mc ms) {i : Nat} (j : Nat) (dg : decode cc pc = .ok (.aload i, 2)) (hl : lv[j]? = some (i, .null)) (e : pc + 2 = q) (kk : V g k nL w cells slots Q q lv (.null :: st)) : V g k nL w cells slots Q pc lv st := by
  subst e
  exact fun H locs ls h1 h2 h3 => lv_aloadN C.1 C.2.1 dg (lv_at h3 j hl) (kk H locs ls h1 h2 h3)
theorem r_istore_n (C : Cx g k own cc nL rt d mc ms) {i : Fin 4} {x : Int32} (dg : decode cc pc = .ok (.istore_n i, 1)) (hn : (i : Nat) < nL) (hl : ((i : Nat), (.int x : Value)) :: lv.filter (fun z => !(z.1 == (i : Nat)) && !(z.1 + 1 == (i : Nat) && z.2.category == 2)) = lv') (e : pc + 1 = q) (kk : V g k nL w cells slots Q q lv' st) : V g k nL w cells slots Q pc lv (.int x :: st) := by
  subst e
  exact fun H locs ls h1 h2 h3 => lv_istore_n C.1 C.2.1 dg rfl h3 hn hl (fun ls9 h9 => kk H locs ls9 h1 h2 h9)
theorem r_istore (C : Cx g k own cc nL rt d mc ms) {i : Nat} {x : Int32} (dg : decode cc pc = .ok (.istore i, 2)) (hn : i < nL) (hl : ((i : Nat), (.int x : Value)) :: lv.filter (fun z => !(z.1 == (i : Nat)) && !(z.1 + 1 == (i : Nat) && z.2.category == 2)) = lv') (e : pc + 2 = q) (kk : V g k nL w cells slots Q q lv' st) : V g k nL w cells slots Q pc lv (.int x :: st) := by
  subst e
  exact fun H locs ls h1 h2 h3 => lv_istore C.1 C.2.1 dg h3 hn hl (fun ls9 h9 => kk H locs ls9 h1 h2 h9)
theorem r_lstore_n (C : Cx g k own cc nL rt d mc ms) {i : Fin 4} {x : Int64} (dg : decode cc pc = .ok (.lstore_n i, 1)) (hn : (i : Nat) + 1 < nL) (hl : ((i : Nat), (.long x : Value)) :: lv.filter (fun z => !(z.1 == (i : Nat)) && (!(z.1 == (i : Nat) + 1) && !(z.1 + 1 == (i : Nat) && z.2.category == 2))) = lv') (e : pc + 1 = q) (kk : V g k nL w cells slots Q q lv' st) : V g k nL w cells slots Q pc lv (.long x :: st) := by
  subst e
  exact fun H locs ls h1 h2 h3 => lv_lstore_n C.1 C.2.1 dg rfl h3 hn hl (fun ls9 h9 => kk H locs ls9 h1 h2 h9)
theorem r_lstore (C : Cx g k own cc nL rt d mc ms) {i : Nat} {x : Int64} (dg : decode cc pc = .ok (.lstore i, 2)) (hn : i + 1 < nL) (hl : ((i : Nat), (.long x : Value)) :: lv.filter (fun z => !(z.1 == (i : Nat)) && (!(z.1 == (i : Nat) + 1) && !(z.1 + 1 == (i : Nat) && z.2.category == 2))) = lv') (e : pc + 2 = q) (kk : V g k nL w cells slots Q q lv' st) : V g k nL w cells slots Q pc lv (.long x :: st) := by
  subst e
  exact fun H locs ls h1 h2 h3 => lv_lstore C.1 C.2.1 dg h3 hn hl (fun ls9 h9 => kk H locs ls9 h1 h2 h9)
theorem r_astore_n (C : Cx g k own cc nL rt d mc ms) {i : Fin 4} {x : Nat} (dg : decode cc pc = .ok (.astore_n i, 1)) (hn : (i : Nat) < nL) (hl : ((i : Nat), (.ref x : Value)) :: lv.filter (fun z => !(z.1 == (i : Nat)) && !(z.1 + 1 == (i : Nat) && z.2.category == 2)) = lv') (e : pc + 1 = q) (kk : V g k nL w cells slots Q q lv' st) : V g k nL w cells slots Q pc lv (.ref x :: st) := by
  subst e
  exact fun H locs ls h1 h2 h3 => lv_astore_n C.1 C.2.1 dg rfl h3 hn hl (fun ls9 h9 => kk H locs ls9 h1 h2 h9)
theorem r_astore (C : Cx g k own cc nL rt d mc ms) {i : Nat} {x : Nat} (dg : decode cc pc = .ok (.astore i, 2)) (hn : i < nL) (hl : ((i : Nat), (.ref x : Value)) :: lv.filter (fun z => !(z.1 == (i : Nat)) && !(z.1 + 1 == (i : Nat) && z.2.category == 2)) = lv') (e : pc + 2 = q) (kk : V g k nL w cells slots Q q lv' st) : V g k nL w cells slots Q pc lv (.ref x :: st) := by
  subst e
  exact fun H locs ls h1 h2 h3 => lv_astore C.1 C.2.1 dg h3 hn hl (fun ls9 h9 => kk H locs ls9 h1 h2 h9)
theorem r_astore_nN (C : Cx g k own cc nL rt d mc ms) {i : Fin 4}  (dg : decode cc pc = .ok (.astore_n i, 1)) (hn : (i : Nat) < nL) (hl : ((i : Nat), (.null : Value)) :: lv.filter (fun z => !(z.1 == (i : Nat)) && !(z.1 + 1 == (i : Nat) && z.2.category == 2)) = lv') (e : pc + 1 = q) (kk : V g k nL w cells slots Q q lv' st) : V g k nL w cells slots Q pc lv (.null :: st) := by
  subst e
  exact fun H locs ls h1 h2 h3 => lv_astore_nN C.1 C.2.1 dg rfl h3 hn hl (fun ls9 h9 => kk H locs ls9 h1 h2 h9)
theorem r_astoreN (C : Cx g k own cc nL rt d mc ms) {i : Nat}  (dg : decode cc pc = .ok (.astore i, 2)) (hn : i < nL) (hl : ((i : Nat), (.null : Value)) :: lv.filter (fun z => !(z.1 == (i : Nat)) && !(z.1 + 1 == (i : Nat) && z.2.category == 2)) = lv') (e : pc + 2 = q) (kk : V g k nL w cells slots Q q lv' st) : V g k nL w cells slots Q pc lv (.null :: st) := by
  subst e
  exact fun H locs ls h1 h2 h3 => lv_astoreN C.1 C.2.1 dg h3 hn hl (fun ls9 h9 => kk H locs ls9 h1 h2 h9)
theorem r_iinc (C : Cx g k own cc nL rt d mc ms) {i : Nat} {n : Int} {x v : Int32} (j : Nat) (dg : decode cc pc = .ok (.iinc i n, 3)) (hk : lv[j]? = some (i, .int x)) (hv : x + Int32.ofInt n = v) (hn : i < nL) (hl : (i, Value.int v) :: lv.filter (fun z => !(z.1 == i) && !(z.1 + 1 == i && z.2.category == 2)) = lv') (e : pc + 3 = q) (kk : V g k nL w cells slots Q q lv' st) : V g k nL w cells slots Q pc lv st := by
  subst e
  exact fun H locs ls h1 h2 h3 => lv_iinc C.1 C.2.1 dg h3 hk hv hn hl (fun ls9 h9 => kk H locs ls9 h1 h2 h9)
theorem r_icmp_eq (C : Cx g k own cc nL rt d mc ms) {off : Int} {tgt : Nat} {x y : Int32} (dg : decode cc pc = .ok (.if_icmp .eq off, 3)) (ht : (pc : Int) + off = (tgt : Int)) (e : pc + 3 = q) (kt : y = x → V g k nL w cells slots Q tgt lv st) (kf : ¬ y = x → V g k nL w cells slots Q q lv st) : V g k nL w cells slots Q pc lv (.int x :: .int y :: st) := by
  subst e
  exact fun H locs ls h1 h2 h3 => lv_icmp_eq C.1 C.2.1 dg ht (fun z => kt z H locs ls h1 h2 h3) (fun z => kf z H locs ls h1 h2 h3)
theorem r_icmp_eq_t (C : Cx g k own cc nL rt d mc ms) {off : Int} {tgt : Nat} {x y : Int32} (dg : decode cc pc = .ok (.if_icmp .eq off, 3)) (ht : (pc : Int) + off = (tgt : Int)) (z : y = x) (kt : V g k nL w cells slots Q tgt lv st) : V g k nL w cells slots Q pc lv (.int x :: .int y :: st) := r_icmp_eq C dg ht rfl (fun _ => kt) (fun z9 => absurd z (by first | exact z9 | exact fun zz => zz z9))
theorem r_icmp_eq_f (C : Cx g k own cc nL rt d mc ms) {off : Int} {tgt : Nat} {x y : Int32} (dg : decode cc pc = .ok (.if_icmp .eq off, 3)) (ht : (pc : Int) + off = (tgt : Int)) (e : pc + 3 = q) (z : ¬ y = x) (kf : V g k nL w cells slots Q q lv st) : V g k nL w cells slots Q pc lv (.int x :: .int y :: st) := r_icmp_eq C dg ht e (fun z9 => absurd z (by first | exact z9 | exact fun zz => zz z9)) (fun _ => kf)
theorem r_icmp_ne (C : Cx g k own cc nL rt d mc ms) {off : Int} {tgt : Nat} {x y : Int32} (dg : decode cc pc = .ok (.if_icmp .ne off, 3)) (ht : (pc : Int) + off = (tgt : Int)) (e : pc + 3 = q) (kt : ¬ y = x → V g k nL w cells slots Q tgt lv st) (kf : y = x → V g k nL w cells slots Q q lv st) : V g k nL w cells slots Q pc lv (.int x :: .int y :: st) := by
  subst e
  exact fun H locs ls h1 h2 h3 => lv_icmp_ne C.1 C.2.1 dg ht (fun z => kt z H locs ls h1 h2 h3) (fun z => kf z H locs ls h1 h2 h3)
theorem r_icmp_ne_t (C : Cx g k own cc nL rt d mc ms) {off : Int} {tgt : Nat} {x y : Int32} (dg : decode cc pc = .ok (.if_icmp .ne off, 3)) (ht : (pc : Int) + off = (tgt : Int)) (z : ¬ y = x) (kt : V g k nL w cells slots Q tgt lv st) : V g k nL w cells slots Q pc lv (.int x :: .int y :: st) := r_icmp_ne C dg ht rfl (fun _ => kt) (fun z9 => absurd z (by first | exact z9 | exact fun zz => zz z9))
theorem r_icmp_ne_f (C : Cx g k own cc nL rt d mc ms) {off : Int} {tgt : Nat} {x y : Int32} (dg : decode cc pc = .ok (.if_icmp .ne off, 3)) (ht : (pc : Int) + off = (tgt : Int)) (e : pc + 3 = q) (z : y = x) (kf : V g k nL w cells slots Q q lv st) : V g k nL w cells slots Q pc lv (.int x :: .int y :: st) := r_icmp_ne C dg ht e (fun z9 => absurd z (by first | exact z9 | exact fun zz => zz z9)) (fun _ => kf)
theorem r_icmp_lt (C : Cx g k own cc nL rt d mc ms) {off : Int} {tgt : Nat} {x y : Int32} (dg : decode cc pc = .ok (.if_icmp .lt off, 3)) (ht : (pc : Int) + off = (tgt : Int)) (e : pc + 3 = q) (kt : y < x → V g k nL w cells slots Q tgt lv st) (kf : ¬ y < x → V g k nL w cells slots Q q lv st) : V g k nL w cells slots Q pc lv (.int x :: .int y :: st) := by
  subst e
  exact fun H locs ls h1 h2 h3 => lv_icmp_lt C.1 C.2.1 dg ht (fun z => kt z H locs ls h1 h2 h3) (fun z => kf z H locs ls h1 h2 h3)
theorem r_icmp_lt_t (C : Cx g k own cc nL rt d mc ms) {off : Int} {tgt : Nat} {x y : Int32} (dg : decode cc pc = .ok (.if_icmp .lt off, 3)) (ht : (pc : Int) + off = (tgt : Int)) (z : y < x) (kt : V g k nL w cells slots Q tgt lv st) : V g k nL w cells slots Q pc lv (.int x :: .int y :: st) := r_icmp_lt C dg ht rfl (fun _ => kt) (fun z9 => absurd z (by first | exact z9 | exact fun zz => zz z9))
theorem r_icmp_lt_f (C : Cx g k own cc nL rt d mc ms) {off : Int} {tgt : Nat} {x y : Int32} (dg : decode cc pc = .ok (.if_icmp .lt off, 3)) (ht : (pc : Int) + off = (tgt : Int)) (e : pc + 3 = q) (z : ¬ y < x) (kf : V g k nL w cells slots Q q lv st) : V g k nL w cells slots Q pc lv (.int x :: .int y :: st) := r_icmp_lt C dg ht e (fun z9 => absurd z (by first | exact z9 | exact fun zz => zz z9)) (fun _ => kf)
theorem r_icmp_ge (C : Cx g k own cc nL rt d mc ms) {off : Int} {tgt : Nat} {x y : Int32} (dg : decode cc pc = .ok (.if_icmp .ge off, 3)) (ht : (pc : Int) + off = (tgt : Int)) (e : pc + 3 = q) (kt : x ≤ y → V g k nL w cells slots Q tgt lv st) (kf : ¬ x ≤ y → V g k nL w cells slots Q q lv st) : V g k nL w cells slots Q pc lv (.int x :: .int y :: st) := by
  subst e
  exact fun H locs ls h1 h2 h3 => lv_icmp_ge C.1 C.2.1 dg ht (fun z => kt z H locs ls h1 h2 h3) (fun z => kf z H locs ls h1 h2 h3)
theorem r_icmp_ge_t (C : Cx g k own cc nL rt d mc ms) {off : Int} {tgt : Nat} {x y : Int32} (dg : decode cc pc = .ok (.if_icmp .ge off, 3)) (ht : (pc : Int) + off = (tgt : Int)) (z : x ≤ y) (kt : V g k nL w cells slots Q tgt lv st) : V g k nL w cells slots Q pc lv (.int x :: .int y :: st) := r_icmp_ge C dg ht rfl (fun _ => kt) (fun z9 => absurd z (by first | exact z9 | exact fun zz => zz z9))
theorem r_icmp_ge_f (C : Cx g k own cc nL rt d mc ms) {off : Int} {tgt : Nat} {x y : Int32} (dg : decode cc pc = .ok (.if_icmp .ge off, 3)) (ht : (pc : Int) + off = (tgt : Int)) (e : pc + 3 = q) (z : ¬ x ≤ y) (kf : V g k nL w cells slots Q q lv st) : V g k nL w cells slots Q pc lv (.int x :: .int y :: st) := r_icmp_ge C dg ht e (fun z9 => absurd z (by first | exact z9 | exact fun zz => zz z9)) (fun _ => kf)
theorem r_icmp_gt (C : Cx g k own cc nL rt d mc ms) {off : Int} {tgt : Nat} {x y : Int32} (dg : decode cc pc = .ok (.if_icmp .gt off, 3)) (ht : (pc : Int) + off = (tgt : Int)) (e : pc + 3 = q) (kt : x < y → V g k nL w cells slots Q tgt lv st) (kf : ¬ x < y → V g k nL w cells slots Q q lv st) : V g k nL w cells slots Q pc lv (.int x :: .int y :: st) := by
  subst e
  exact fun H locs ls h1 h2 h3 => lv_icmp_gt C.1 C.2.1 dg ht (fun z => kt z H locs ls h1 h2 h3) (fun z => kf z H locs ls h1 h2 h3)
theorem r_icmp_gt_t (C : Cx g k own cc nL rt d mc ms) {off : Int} {tgt : Nat} {x y : Int32} (dg : decode cc pc = .ok (.if_icmp .gt off, 3)) (ht : (pc : Int) + off = (tgt : Int)) (z : x < y) (kt : V g k nL w cells slots Q tgt lv st) : V g k nL w cells slots Q pc lv (.int x :: .int y :: st) := r_icmp_gt C dg ht rfl (fun _ => kt) (fun z9 => absurd z (by first | exact z9 | exact fun zz => zz z9))
theorem r_icmp_gt_f (C : Cx g k own cc nL rt d mc ms) {off : Int} {tgt : Nat} {x y : Int32} (dg : decode cc pc = .ok (.if_icmp .gt off, 3)) (ht : (pc : Int) + off = (tgt : Int)) (e : pc + 3 = q) (z : ¬ x < y) (kf : V g k nL w cells slots Q q lv st) : V g k nL w cells slots Q pc lv (.int x :: .int y :: st) := r_icmp_gt C dg ht e (fun z9 => absurd z (by first | exact z9 | exact fun zz => zz z9)) (fun _ => kf)
theorem r_icmp_le (C : Cx g k own cc nL rt d mc ms) {off : Int} {tgt : Nat} {x y : Int32} (dg : decode cc pc = .ok (.if_icmp .le off, 3)) (ht : (pc : Int) + off = (tgt : Int)) (e : pc + 3 = q) (kt : y ≤ x → V g k nL w cells slots Q tgt lv st) (kf : ¬ y ≤ x → V g k nL w cells slots Q q lv st) : V g k nL w cells slots Q pc lv (.int x :: .int y :: st) := by
  subst e
  exact fun H locs ls h1 h2 h3 => lv_icmp_le C.1 C.2.1 dg ht (fun z => kt z H locs ls h1 h2 h3) (fun z => kf z H locs ls h1 h2 h3)
theorem r_icmp_le_t (C : Cx g k own cc nL rt d mc ms) {off : Int} {tgt : Nat} {x y : Int32} (dg : decode cc pc = .ok (.if_icmp .le off, 3)) (ht : (pc : Int) + off = (tgt : Int)) (z : y ≤ x) (kt : V g k nL w cells slots Q tgt lv st) : V g k nL w cells slots Q pc lv (.int x :: .int y :: st) := r_icmp_le C dg ht rfl (fun _ => kt) (fun z9 => absurd z (by first | exact z9 | exact fun zz => zz z9))
theorem r_icmp_le_f (C : Cx g k own cc nL rt d mc ms) {off : Int} {tgt : Nat} {x y : Int32} (dg : decode cc pc = .ok (.if_icmp .le off, 3)) (ht : (pc : Int) + off = (tgt : Int)) (e : pc + 3 = q) (z : ¬ y ≤ x) (kf : V g k nL w cells slots Q q lv st) : V g k nL w cells slots Q pc lv (.int x :: .int y :: st) := r_icmp_le C dg ht e (fun z9 => absurd z (by first | exact z9 | exact fun zz => zz z9)) (fun _ => kf)
theorem r_if_eq (C : Cx g k own cc nL rt d mc ms) {off : Int} {tgt : Nat} {y : Int32} (dg : decode cc pc = .ok (.ifCond .eq off, 3)) (ht : (pc : Int) + off = (tgt : Int)) (e : pc + 3 = q) (kt : y = 0 → V g k nL w cells slots Q tgt lv st) (kf : ¬ y = 0 → V g k nL w cells slots Q q lv st) : V g k nL w cells slots Q pc lv (.int y :: st) := by
  subst e
  exact fun H locs ls h1 h2 h3 => lv_if_eq C.1 C.2.1 dg ht (fun z => kt z H locs ls h1 h2 h3) (fun z => kf z H locs ls h1 h2 h3)
theorem r_if_eq_t (C : Cx g k own cc nL rt d mc ms) {off : Int} {tgt : Nat} {y : Int32} (dg : decode cc pc = .ok (.ifCond .eq off, 3)) (ht : (pc : Int) + off = (tgt : Int)) (z : y = 0) (kt : V g k nL w cells slots Q tgt lv st) : V g k nL w cells slots Q pc lv (.int y :: st) := r_if_eq C dg ht rfl (fun _ => kt) (fun z9 => absurd z (by first | exact z9 | exact fun zz => zz z9))
theorem r_if_eq_f (C : Cx g k own cc nL rt d mc ms) {off : Int} {tgt : Nat} {y : Int32} (dg : decode cc pc = .ok (.ifCond .eq off, 3)) (ht : (pc : Int) + off = (tgt : Int)) (e : pc + 3 = q) (z : ¬ y = 0) (kf : V g k nL w cells slots Q q lv st) : V g k nL w cells slots Q pc lv (.int y :: st) := r_if_eq C dg ht e (fun z9 => absurd z (by first | exact z9 | exact fun zz => zz z9)) (fun _ => kf)
theorem r_if_ne (C : Cx g k own cc nL rt d mc ms) {off : Int} {tgt : Nat} {y : Int32} (dg : decode cc pc = .ok (.ifCond .ne off, 3)) (ht : (pc : Int) + off = (tgt : Int)) (e : pc + 3 = q) (kt : ¬ y = 0 → V g k nL w cells slots Q tgt lv st) (kf : y = 0 → V g k nL w cells slots Q q lv st) : V g k nL w cells slots Q pc lv (.int y :: st) := by
  subst e
  exact fun H locs ls h1 h2 h3 => lv_if_ne C.1 C.2.1 dg ht (fun z => kt z H locs ls h1 h2 h3) (fun z => kf z H locs ls h1 h2 h3)
theorem r_if_ne_t (C : Cx g k own cc nL rt d mc ms) {off : Int} {tgt : Nat} {y : Int32} (dg : decode cc pc = .ok (.ifCond .ne off, 3)) (ht : (pc : Int) + off = (tgt : Int)) (z : ¬ y = 0) (kt : V g k nL w cells slots Q tgt lv st) : V g k nL w cells slots Q pc lv (.int y :: st) := r_if_ne C dg ht rfl (fun _ => kt) (fun z9 => absurd z (by first | exact z9 | exact fun zz => zz z9))
theorem r_if_ne_f (C : Cx g k own cc nL rt d mc ms) {off : Int} {tgt : Nat} {y : Int32} (dg : decode cc pc = .ok (.ifCond .ne off, 3)) (ht : (pc : Int) + off = (tgt : Int)) (e : pc + 3 = q) (z : y = 0) (kf : V g k nL w cells slots Q q lv st) : V g k nL w cells slots Q pc lv (.int y :: st) := r_if_ne C dg ht e (fun z9 => absurd z (by first | exact z9 | exact fun zz => zz z9)) (fun _ => kf)
theorem r_if_lt (C : Cx g k own cc nL rt d mc ms) {off : Int} {tgt : Nat} {y : Int32} (dg : decode cc pc = .ok (.ifCond .lt off, 3)) (ht : (pc : Int) + off = (tgt : Int)) (e : pc + 3 = q) (kt : y < 0 → V g k nL w cells slots Q tgt lv st) (kf : ¬ y < 0 → V g k nL w cells slots Q q lv st) : V g k nL w cells slots Q pc lv (.int y :: st) := by
  subst e
  exact fun H locs ls h1 h2 h3 => lv_if_lt C.1 C.2.1 dg ht (fun z => kt z H locs ls h1 h2 h3) (fun z => kf z H locs ls h1 h2 h3)
theorem r_if_lt_t (C : Cx g k own cc nL rt d mc ms) {off : Int} {tgt : Nat} {y : Int32} (dg : decode cc pc = .ok (.ifCond .lt off, 3)) (ht : (pc : Int) + off = (tgt : Int)) (z : y < 0) (kt : V g k nL w cells slots Q tgt lv st) : V g k nL w cells slots Q pc lv (.int y :: st) := r_if_lt C dg ht rfl (fun _ => kt) (fun z9 => absurd z (by first | exact z9 | exact fun zz => zz z9))
theorem r_if_lt_f (C : Cx g k own cc nL rt d mc ms) {off : Int} {tgt : Nat} {y : Int32} (dg : decode cc pc = .ok (.ifCond .lt off, 3)) (ht : (pc : Int) + off = (tgt : Int)) (e : pc + 3 = q) (z : ¬ y < 0) (kf : V g k nL w cells slots Q q lv st) : V g k nL w cells slots Q pc lv (.int y :: st) := r_if_lt C dg ht e (fun z9 => absurd z (by first | exact z9 | exact fun zz => zz z9)) (fun _ => kf)
theorem r_if_ge (C : Cx g k own cc nL rt d mc ms) {off : Int} {tgt : Nat} {y : Int32} (dg : decode cc pc = .ok (.ifCond .ge off, 3)) (ht : (pc : Int) + off = (tgt : Int)) (e : pc + 3 = q) (kt : 0 ≤ y → V g k nL w cells slots Q tgt lv st) (kf : ¬ 0 ≤ y → V g k nL w cells slots Q q lv st) : V g k nL w cells slots Q pc lv (.int y :: st) := by
  subst e
  exact fun H locs ls h1 h2 h3 => lv_if_ge C.1 C.2.1 dg ht (fun z => kt z H locs ls h1 h2 h3) (fun z => kf z H locs ls h1 h2 h3)
theorem r_if_ge_t (C : Cx g k own cc nL rt d mc ms) {off : Int} {tgt : Nat} {y : Int32} (dg : decode cc pc = .ok (.ifCond .ge off, 3)) (ht : (pc : Int) + off = (tgt : Int)) (z : 0 ≤ y) (kt : V g k nL w cells slots Q tgt lv st) : V g k nL w cells slots Q pc lv (.int y :: st) := r_if_ge C dg ht rfl (fun _ => kt) (fun z9 => absurd z (by first | exact z9 | exact fun zz => zz z9))
theorem r_if_ge_f (C : Cx g k own cc nL rt d mc ms) {off : Int} {tgt : Nat} {y : Int32} (dg : decode cc pc = .ok (.ifCond .ge off, 3)) (ht : (pc : Int) + off = (tgt : Int)) (e : pc + 3 = q) (z : ¬ 0 ≤ y) (kf : V g k nL w cells slots Q q lv st) : V g k nL w cells slots Q pc lv (.int y :: st) := r_if_ge C dg ht e (fun z9 => absurd z (by first | exact z9 | exact fun zz => zz z9)) (fun _ => kf)
theorem r_if_gt (C : Cx g k own cc nL rt d mc ms) {off : Int} {tgt : Nat} {y : Int32} (dg : decode cc pc = .ok (.ifCond .gt off, 3)) (ht : (pc : Int) + off = (tgt : Int)) (e : pc + 3 = q) (kt : 0 < y → V g k nL w cells slots Q tgt lv st) (kf : ¬ 0 < y → V g k nL w cells slots Q q lv st) : V g k nL w cells slots Q pc lv (.int y :: st) := by
  subst e
  exact fun H locs ls h1 h2 h3 => lv_if_gt C.1 C.2.1 dg ht (fun z => kt z H locs ls h1 h2 h3) (fun z => kf z H locs ls h1 h2 h3)
theorem r_if_gt_t (C : Cx g k own cc nL rt d mc ms) {off : Int} {tgt : Nat} {y : Int32} (dg : decode cc pc = .ok (.ifCond .gt off, 3)) (ht : (pc : Int) + off = (tgt : Int)) (z : 0 < y) (kt : V g k nL w cells slots Q tgt lv st) : V g k nL w cells slots Q pc lv (.int y :: st) := r_if_gt C dg ht rfl (fun _ => kt) (fun z9 => absurd z (by first | exact z9 | exact fun zz => zz z9))
theorem r_if_gt_f (C : Cx g k own cc nL rt d mc ms) {off : Int} {tgt : Nat} {y : Int32} (dg : decode cc pc = .ok (.ifCond .gt off, 3)) (ht : (pc : Int) + off = (tgt : Int)) (e : pc + 3 = q) (z : ¬ 0 < y) (kf : V g k nL w cells slots Q q lv st) : V g k nL w cells slots Q pc lv (.int y :: st) := r_if_gt C dg ht e (fun z9 => absurd z (by first | exact z9 | exact fun zz => zz z9)) (fun _ => kf)
theorem r_if_le (C : Cx g k own cc nL rt d mc ms) {off : Int} {tgt : Nat} {y : Int32} (dg : decode cc pc = .ok (.ifCond .le off, 3)) (ht : (pc : Int) + off = (tgt : Int)) (e : pc + 3 = q) (kt : y ≤ 0 → V g k nL w cells slots Q tgt lv st) (kf : ¬ y ≤ 0 → V g k nL w cells slots Q q lv st) : V g k nL w cells slots Q pc lv (.int y :: st) := by
  subst e
  exact fun H locs ls h1 h2 h3 => lv_if_le C.1 C.2.1 dg ht (fun z => kt z H locs ls h1 h2 h3) (fun z => kf z H locs ls h1 h2 h3)
theorem r_if_le_t (C : Cx g k own cc nL rt d mc ms) {off : Int} {tgt : Nat} {y : Int32} (dg : decode cc pc = .ok (.ifCond .le off, 3)) (ht : (pc : Int) + off = (tgt : Int)) (z : y ≤ 0) (kt : V g k nL w cells slots Q tgt lv st) : V g k nL w cells slots Q pc lv (.int y :: st) := r_if_le C dg ht rfl (fun _ => kt) (fun z9 => absurd z (by first | exact z9 | exact fun zz => zz z9))
theorem r_if_le_f (C : Cx g k own cc nL rt d mc ms) {off : Int} {tgt : Nat} {y : Int32} (dg : decode cc pc = .ok (.ifCond .le off, 3)) (ht : (pc : Int) + off = (tgt : Int)) (e : pc + 3 = q) (z : ¬ y ≤ 0) (kf : V g k nL w cells slots Q q lv st) : V g k nL w cells slots Q pc lv (.int y :: st) := r_if_le C dg ht e (fun z9 => absurd z (by first | exact z9 | exact fun zz => zz z9)) (fun _ => kf)
theorem r_acmp_eq (C : Cx g k own cc nL rt d mc ms) {off : Int} {tgt : Nat} {x y : Option Nat} (dg : decode cc pc = .ok (.if_acmp .eq off, 3)) (ht : (pc : Int) + off = (tgt : Int)) (e : pc + 3 = q) (kt : y = x → V g k nL w cells slots Q tgt lv st) (kf : ¬ y = x → V g k nL w cells slots Q q lv st) : V g k nL w cells slots Q pc lv (va_rf x :: va_rf y :: st) := by
  subst e
  exact fun H locs ls h1 h2 h3 => lv_acmp_eq C.1 C.2.1 dg ht (fun z => kt z H locs ls h1 h2 h3) (fun z => kf z H locs ls h1 h2 h3)
theorem r_acmp_eq_t (C : Cx g k own cc nL rt d mc ms) {off : Int} {tgt : Nat} {x y : Option Nat} (dg : decode cc pc = .ok (.if_acmp .eq off, 3)) (ht : (pc : Int) + off = (tgt : Int)) (z : y = x) (kt : V g k nL w cells slots Q tgt lv st) : V g k nL w cells slots Q pc lv (va_rf x :: va_rf y :: st) := r_acmp_eq C dg ht rfl (fun _ => kt) (fun z9 => absurd z (by first | exact z9 | exact fun zz => zz z9))
theorem r_acmp_eq_f (C : Cx g k own cc nL rt d mc ms) {off : Int} {tgt : Nat} {x y : Option Nat} (dg : decode cc pc = .ok (.if_acmp .eq off, 3)) (ht : (pc : Int) + off = (tgt : Int)) (e : pc + 3 = q) (z : ¬ y = x) (kf : V g k nL w cells slots Q q lv st) : V g k nL w cells slots Q pc lv (va_rf x :: va_rf y :: st) := r_acmp_eq C dg ht e (fun z9 => absurd z (by first | exact z9 | exact fun zz => zz z9)) (fun _ => kf)
theorem r_acmp_ne (C : Cx g k own cc nL rt d mc ms) {off : Int} {tgt : Nat} {x y : Option Nat} (dg : decode cc pc = .ok (.if_acmp .ne off, 3)) (ht : (pc : Int) + off = (tgt : Int)) (e : pc + 3 = q) (kt : ¬ y = x → V g k nL w cells slots Q tgt lv st) (kf : y = x → V g k nL w cells slots Q q lv st) : V g k nL w cells slots Q pc lv (va_rf x :: va_rf y :: st) := by
  subst e
  exact fun H locs ls h1 h2 h3 => lv_acmp_ne C.1 C.2.1 dg ht (fun z => kt z H locs ls h1 h2 h3) (fun z => kf z H locs ls h1 h2 h3)
theorem r_acmp_ne_t (C : Cx g k own cc nL rt d mc ms) {off : Int} {tgt : Nat} {x y : Option Nat} (dg : decode cc pc = .ok (.if_acmp .ne off, 3)) (ht : (pc : Int) + off = (tgt : Int)) (z : ¬ y = x) (kt : V g k nL w cells slots Q tgt lv st) : V g k nL w cells slots Q pc lv (va_rf x :: va_rf y :: st) := r_acmp_ne C dg ht rfl (fun _ => kt) (fun z9 => absurd z (by first | exact z9 | exact fun zz => zz z9))
theorem r_acmp_ne_f (C : Cx g k own cc nL rt d mc ms) {off : Int} {tgt : Nat} {x y : Option Nat} (dg : decode cc pc = .ok (.if_acmp .ne off, 3)) (ht : (pc : Int) + off = (tgt : Int)) (e : pc + 3 = q) (z : y = x) (kf : V g k nL w cells slots Q q lv st) : V g k nL w cells slots Q pc lv (va_rf x :: va_rf y :: st) := r_acmp_ne C dg ht e (fun z9 => absurd z (by first | exact z9 | exact fun zz => zz z9)) (fun _ => kf)
theorem r_goto (C : Cx g k own cc nL rt d mc ms) {off : Int} {tgt : Nat} (dg : decode cc pc = .ok (.goto off, 3)) (ht : (pc : Int) + off = (tgt : Int)) (kk : V g k nL w cells slots Q tgt lv st) : V g k nL w cells slots Q pc lv st := fun H locs ls h1 h2 h3 => lv_goto C.1 C.2.1 dg ht (kk H locs ls h1 h2 h3)
theorem r_ifnull (C : Cx g k own cc nL rt d mc ms) {x : Nat} {off : Int} (dg : decode cc pc = .ok (.ifnull off, 3)) (e : pc + 3 = q) (kk : V g k nL w cells slots Q q lv st) : V g k nL w cells slots Q pc lv (.ref x :: st) := by
  subst e
  exact fun H locs ls h1 h2 h3 => lv_ifnull C.1 C.2.1 dg (kk H locs ls h1 h2 h3)
theorem r_ifnullN (C : Cx g k own cc nL rt d mc ms) {off : Int} {tgt : Nat} (dg : decode cc pc = .ok (.ifnull off, 3)) (ht : (pc : Int) + off = (tgt : Int)) (kk : V g k nL w cells slots Q tgt lv st) : V g k nL w cells slots Q pc lv (.null :: st) := fun H locs ls h1 h2 h3 => lv_ifnullN C.1 C.2.1 dg ht (kk H locs ls h1 h2 h3)
theorem r_ifnonnull (C : Cx g k own cc nL rt d mc ms) {x : Nat} {off : Int} {tgt : Nat} (dg : decode cc pc = .ok (.ifnonnull off, 3)) (ht : (pc : Int) + off = (tgt : Int)) (kk : V g k nL w cells slots Q tgt lv st) : V g k nL w cells slots Q pc lv (.ref x :: st) := fun H locs ls h1 h2 h3 => lv_ifnonnull C.1 C.2.1 dg ht (kk H locs ls h1 h2 h3)
theorem r_ifnonnullN (C : Cx g k own cc nL rt d mc ms) {off : Int} (dg : decode cc pc = .ok (.ifnonnull off, 3)) (e : pc + 3 = q) (kk : V g k nL w cells slots Q q lv st) : V g k nL w cells slots Q pc lv (.null :: st) := by
  subst e
  exact fun H locs ls h1 h2 h3 => lv_ifnonnullN C.1 C.2.1 dg (kk H locs ls h1 h2 h3)
theorem r_tableIn (C : Cx g k own cc nL rt d mc ms) {dflt lo hi : Int} {offs : Array Int} {len : Nat} {x : Int32} {off : Int} {tgt : Nat} (dg : decode cc pc = .ok (.tableswitch dflt lo hi offs, len)) (z1 : ¬ x.toInt < lo) (z2 : ¬ hi < x.toInt) (ho : offs[(x.toInt - lo).toNat]? = some off) (ht : (pc : Int) + off = (tgt : Int)) (kk : V g k nL w cells slots Q tgt lv st) : V g k nL w cells slots Q pc lv (.int x :: st) := fun H locs ls h1 h2 h3 => lv_tableIn C.1 C.2.1 dg z1 z2 ho ht (kk H locs ls h1 h2 h3)
theorem r_tableOut (C : Cx g k own cc nL rt d mc ms) {dflt lo hi : Int} {offs : Array Int} {len : Nat} {x : Int32} {tgt : Nat} (dg : decode cc pc = .ok (.tableswitch dflt lo hi offs, len)) (z : x.toInt < lo ∨ hi < x.toInt) (ht : (pc : Int) + dflt = (tgt : Int)) (kk : V g k nL w cells slots Q tgt lv st) : V g k nL w cells slots Q pc lv (.int x :: st) := fun H locs ls h1 h2 h3 => lv_tableOut C.1 C.2.1 dg z ht (kk H locs ls h1 h2 h3)
theorem r_lcmp0 (C : Cx g k own cc nL rt d mc ms) {x y : Int64} (dg : decode cc pc = .ok (.lcmp, 1))  (e : pc + 1 = q) (kk : V g k nL w cells slots Q q lv (.int (lg_cmp y x) :: st)) : V g k nL w cells slots Q pc lv (.long x :: .long y :: st) := by
  subst e
  exact fun H locs ls h1 h2 h3 => W.lcmp C.1 C.2.1 dg (kk H locs ls h1 h2 h3)
theorem lg_c_lt {x y : Int64} : lg_cmp x y < 0 ↔ x < y := by
  unfold lg_cmp
  by_cases h1 : y < x
  · have h2 : ¬ x < y := by simp only [Int64.lt_iff_toInt_lt] at *; omega
    simp [h1, h2]
  · by_cases h2 : x = y
    · subst h2; simp
    · have h3 : x < y := by simp only [Int64.lt_iff_toInt_lt, ← Int64.toInt_inj] at *; omega
      simp [h1, h2, h3]
theorem lg_c_eq {x y : Int64} : lg_cmp x y = 0 ↔ x = y := by
  unfold lg_cmp
  by_cases h1 : y < x
  · have h2 : ¬ x = y := by intro z; subst z; simp only [Int64.lt_iff_toInt_lt] at *; omega
    simp [h1, h2]
  · by_cases h2 : x = y
    · subst h2; simp
    · simp [h1, h2]
theorem lg_c_gt {x y : Int64} : 0 < lg_cmp x y ↔ y < x := by
  unfold lg_cmp
  by_cases h1 : y < x
  · simp [h1]
  · by_cases h2 : x = y
    · subst h2; simp
    · simp [h1, h2]
theorem lg_c_le {x y : Int64} : lg_cmp x y ≤ 0 ↔ x ≤ y := by
  rw [← Int32.not_lt, lg_c_gt, Int64.not_lt]
theorem lg_c_ge {x y : Int64} : 0 ≤ lg_cmp x y ↔ y ≤ x := by
  rw [← Int32.not_lt, lg_c_lt, Int64.not_lt]
theorem r_lcmp_eq (C : Cx g k own cc nL rt d mc ms) {off : Int} {tgt q2 : Nat} {x y : Int64} (dg : decode cc pc = .ok (.lcmp, 1)) (e : pc + 1 = q) (dg2 : decode cc q = .ok (.ifCond .eq off, 3)) (ht : (q : Int) + off = (tgt : Int)) (e2 : q + 3 = q2) (kt : y = x → V g k nL w cells slots Q tgt lv st) (kf : ¬ y = x → V g k nL w cells slots Q q2 lv st) : V g k nL w cells slots Q pc lv (.long x :: .long y :: st) := r_lcmp0 C dg e (r_if_eq C dg2 ht e2 (fun z => kt (lg_c_eq.mp z)) (fun z => kf (fun zz => z (lg_c_eq.mpr zz))))
theorem r_lcmp_ne (C : Cx g k own cc nL rt d mc ms) {off : Int} {tgt q2 : Nat} {x y : Int64} (dg : decode cc pc = .ok (.lcmp, 1)) (e : pc + 1 = q) (dg2 : decode cc q = .ok (.ifCond .ne off, 3)) (ht : (q : Int) + off = (tgt : Int)) (e2 : q + 3 = q2) (kt : ¬ y = x → V g k nL w cells slots Q tgt lv st) (kf : y = x → V g k nL w cells slots Q q2 lv st) : V g k nL w cells slots Q pc lv (.long x :: .long y :: st) := r_lcmp0 C dg e (r_if_ne C dg2 ht e2 (fun z => kt (fun zz => z (lg_c_eq.mpr zz))) (fun z => kf (lg_c_eq.mp z)))
theorem r_lcmp_lt (C : Cx g k own cc nL rt d mc ms) {off : Int} {tgt q2 : Nat} {x y : Int64} (dg : decode cc pc = .ok (.lcmp, 1)) (e : pc + 1 = q) (dg2 : decode cc q = .ok (.ifCond .lt off, 3)) (ht : (q : Int) + off = (tgt : Int)) (e2 : q + 3 = q2) (kt : y < x → V g k nL w cells slots Q tgt lv st) (kf : ¬ y < x → V g k nL w cells slots Q q2 lv st) : V g k nL w cells slots Q pc lv (.long x :: .long y :: st) := r_lcmp0 C dg e (r_if_lt C dg2 ht e2 (fun z => kt (lg_c_lt.mp z)) (fun z => kf (fun zz => z (lg_c_lt.mpr zz))))
theorem r_lcmp_ge (C : Cx g k own cc nL rt d mc ms) {off : Int} {tgt q2 : Nat} {x y : Int64} (dg : decode cc pc = .ok (.lcmp, 1)) (e : pc + 1 = q) (dg2 : decode cc q = .ok (.ifCond .ge off, 3)) (ht : (q : Int) + off = (tgt : Int)) (e2 : q + 3 = q2) (kt : x ≤ y → V g k nL w cells slots Q tgt lv st) (kf : ¬ x ≤ y → V g k nL w cells slots Q q2 lv st) : V g k nL w cells slots Q pc lv (.long x :: .long y :: st) := r_lcmp0 C dg e (r_if_ge C dg2 ht e2 (fun z => kt (lg_c_ge.mp z)) (fun z => kf (fun zz => z (lg_c_ge.mpr zz))))
theorem r_lcmp_gt (C : Cx g k own cc nL rt d mc ms) {off : Int} {tgt q2 : Nat} {x y : Int64} (dg : decode cc pc = .ok (.lcmp, 1)) (e : pc + 1 = q) (dg2 : decode cc q = .ok (.ifCond .gt off, 3)) (ht : (q : Int) + off = (tgt : Int)) (e2 : q + 3 = q2) (kt : x < y → V g k nL w cells slots Q tgt lv st) (kf : ¬ x < y → V g k nL w cells slots Q q2 lv st) : V g k nL w cells slots Q pc lv (.long x :: .long y :: st) := r_lcmp0 C dg e (r_if_gt C dg2 ht e2 (fun z => kt (lg_c_gt.mp z)) (fun z => kf (fun zz => z (lg_c_gt.mpr zz))))
theorem r_lcmp_le (C : Cx g k own cc nL rt d mc ms) {off : Int} {tgt q2 : Nat} {x y : Int64} (dg : decode cc pc = .ok (.lcmp, 1)) (e : pc + 1 = q) (dg2 : decode cc q = .ok (.ifCond .le off, 3)) (ht : (q : Int) + off = (tgt : Int)) (e2 : q + 3 = q2) (kt : y ≤ x → V g k nL w cells slots Q tgt lv st) (kf : ¬ y ≤ x → V g k nL w cells slots Q q2 lv st) : V g k nL w cells slots Q pc lv (.long x :: .long y :: st) := r_lcmp0 C dg e (r_if_le C dg2 ht e2 (fun z => kt (lg_c_le.mp z)) (fun z => kf (fun zz => z (lg_c_le.mpr zz))))
theorem r_ti {x y : Int32} (e : x = y) (kk : V g k nL w cells slots Q pc lv (.int y :: st)) : V g k nL w cells slots Q pc lv (.int x :: st) := e ▸ kk
theorem r_tl {x y : Int64} (e : x = y) (kk : V g k nL w cells slots Q pc lv (.long y :: st)) : V g k nL w cells slots Q pc lv (.long x :: st) := e ▸ kk
theorem r_tr {x y : Nat} (e : x = y) (kk : V g k nL w cells slots Q pc lv (.ref y :: st)) : V g k nL w cells slots Q pc lv (.ref x :: st) := e ▸ kk
theorem r_sub (js : List Nat) (hl : lv_pick lv js = lv') (kk : V g k nL w cells slots Q pc lv' st) : V g k nL w cells slots Q pc lv st := fun H locs ls h1 h2 h3 => kk H locs ls h1 h2 (lv_sub h3 js hl)
theorem r_w (e : w = w') (kk : V g k nL w' cells slots Q pc lv st) : V g k nL w cells slots Q pc lv st := e ▸ kk
theorem r_widen {c2 s2 : Nat} (z1 : cells ≤ c2) (z2 : slots ≤ s2) (kk : V g k nL w c2 s2 Q pc lv st) : V g k nL w cells slots Q pc lv st := fun H locs ls h1 h2 h3 => W.widen z1 z2 (kk H locs ls h1 h2 h3)
theorem r_get (C : Cx g k own cc nL rt d mc ms) {ci N t a : Nat} {CN ref : String} {T : u_T} {ty : Nat → FieldType} {fs : List Value} {v : Value} {ix : Nat}  (KK : KO ci CN T N ty) (ht : w t = some (a, ob ci fs)) (kf : Nat) (hk : kf < N) (hlink : Cond.fieldLink own ix ref (T kf).2.1 (T kf).2.2.1 ∈ GW) (href : ref = (T kf).1) (hv : fs[kf]? = some v) (dg : decode cc pc = .ok (.getfield ix, 3)) (e : pc + 3 = q) (kk : V g k nL w cells slots Q q lv (v :: st)) : V g k nL w cells slots Q pc lv (.ref a :: st) := by
  subst e href
  intro H locs ls ⟨ws, hP, hD, hw, hS⟩ h2 h3
  obtain ⟨i, hi⟩ := hw.1 _ _ _ ht
  exact va_get C.1 C.2.1 C.2.2.2.2.1 KK.2.1 C.2.2.2.1 C.2.2.2.2.2.2.1.1 hP i hi KK.1 kf hk (C.2.2.2.2.1 _ hlink) (fun _ h9 => h9) hv dg (kk H locs ls ⟨ws, hP, hD, hw, hS⟩ h2 h3)
theorem r_getS (C : Cx g k own cc nL rt d mc ms) {ci N t a : Nat} {CN ref : String} {T : u_T} {ty : Nat → FieldType} {fs : List Value} {v : Value} {ix : Nat}  (KK : KO ci CN T N ty) (ht : w t = some (a, ob ci fs)) (kf : Nat) (hk : kf < N) (hlink : Cond.fieldLink own ix ref (T kf).2.1 (T kf).2.2.1 ∈ GW) (href : Cond.sameField ref (T kf).1 (T kf).2.1 (T kf).2.2.1 ∈ GW) (hv : fs[kf]? = some v) (dg : decode cc pc = .ok (.getfield ix, 3)) (e : pc + 3 = q) (kk : V g k nL w cells slots Q q lv (v :: st)) : V g k nL w cells slots Q pc lv (.ref a :: st) := by
  subst e
  intro H locs ls ⟨ws, hP, hD, hw, hS⟩ h2 h3
  obtain ⟨i, hi⟩ := hw.1 _ _ _ ht
  exact va_get C.1 C.2.1 C.2.2.2.2.1 KK.2.1 C.2.2.2.1 C.2.2.2.2.2.2.1.1 hP i hi KK.1 kf hk (C.2.2.2.2.1 _ hlink) (fun x9 h9 => u_same (C.2.2.2.2.1 _ href) x9 h9) hv dg (kk H locs ls ⟨ws, hP, hD, hw, hS⟩ h2 h3)
theorem r_getN (C : Cx g k own cc nL rt d mc ms) {ci N t a : Nat} {CN ref : String} {T : u_T} {ty : Nat → FieldType} {fs : List Value} {v : Value} {ix : Nat} {host : String} (KK : KO ci CN T N ty) (ht : w t = some (a, ob ci fs)) (kf : Nat) (hk : kf < N) (hlink : Cond.fieldLinkNest own ix ref (T kf).2.1 (T kf).2.2.1 host ∈ NW) (href : ref = (T kf).1) (hv : fs[kf]? = some v) (dg : decode cc pc = .ok (.getfield ix, 3)) (e : pc + 3 = q) (kk : V g k nL w cells slots Q q lv (v :: st)) : V g k nL w cells slots Q pc lv (.ref a :: st) := by
  subst e href
  intro H locs ls ⟨ws, hP, hD, hw, hS⟩ h2 h3
  obtain ⟨i, hi⟩ := hw.1 _ _ _ ht
  exact va_getN C.1 C.2.1 C.2.2.2.2.1 KK.2.1 C.2.2.2.1 C.2.2.2.2.2.2.1.1 hP i hi KK.1 kf hk (va_Nw.use (nw_onT (nw_in hlink)) (C.2.2.2.2.2.2.1.2.2 _ hlink)) (fun _ h9 => h9) hv dg (kk H locs ls ⟨ws, hP, hD, hw, hS⟩ h2 h3)
theorem r_put (C : Cx g k own cc nL rt d mc ms) {ci N t a : Nat} {CN ref : String} {T : u_T} {ty : Nat → FieldType} {fs : List Value} {v : Value} {ix : Nat}  (KK : KO ci CN T N ty) (ht : w t = some (a, ob ci fs)) (kf : Nat) (hk : kf < N) (hlink : Cond.fieldLink own ix ref (T kf).2.1 (T kf).2.2.1 ∈ GW) (href : ref = (T kf).1) (hfin : (T kf).2.2.2 = false) (hn : narrow (ty kf) v = v) (hfit : fits (ty kf) v = true) (hl : kf < fs.length) (dg : decode cc pc = .ok (.putfield ix, 3)) (e : pc + 3 = q) (ew : wd_set w t a (ob ci (fs.set kf v)) = w') (kk : V g k nL w' cells slots Q q lv st) : V g k nL w cells slots Q pc lv (v :: .ref a :: st) := by
  subst e ew href
  intro H locs ls ⟨ws, hP, hD, hw, hS⟩ h2 h3
  obtain ⟨i, hi⟩ := hw.1 _ _ _ ht
  exact va_put C.1 C.2.1 C.2.2.2.2.1 KK.2.1 ty KK.2.2.1 KK.2.2.2 C.2.2.2.1 C.2.2.2.2.2.2.1.1 hP hD (S_locs hS h2) i hi KK.1 kf hk (C.2.2.2.2.1 _ hlink) (fun _ h9 => h9) hfin (KK.2.2.1 kf hk) hn hfit hl dg (fun H1 locs1 hP1 hD1 hS1 => kk H1 locs1 ls ⟨_, hP1, hD1, wl_set hw hD ht hi, S_nil hS1⟩ hS1.2.2 h3)
theorem r_putS (C : Cx g k own cc nL rt d mc ms) {ci N t a : Nat} {CN ref : String} {T : u_T} {ty : Nat → FieldType} {fs : List Value} {v : Value} {ix : Nat}  (KK : KO ci CN T N ty) (ht : w t = some (a, ob ci fs)) (kf : Nat) (hk : kf < N) (hlink : Cond.fieldLink own ix ref (T kf).2.1 (T kf).2.2.1 ∈ GW) (href : Cond.sameField ref (T kf).1 (T kf).2.1 (T kf).2.2.1 ∈ GW) (hfin : (T kf).2.2.2 = false) (hn : narrow (ty kf) v = v) (hfit : fits (ty kf) v = true) (hl : kf < fs.length) (dg : decode cc pc = .ok (.putfield ix, 3)) (e : pc + 3 = q) (ew : wd_set w t a (ob ci (fs.set kf v)) = w') (kk : V g k nL w' cells slots Q q lv st) : V g k nL w cells slots Q pc lv (v :: .ref a :: st) := by
  subst e ew
  intro H locs ls ⟨ws, hP, hD, hw, hS⟩ h2 h3
  obtain ⟨i, hi⟩ := hw.1 _ _ _ ht
  exact va_put C.1 C.2.1 C.2.2.2.2.1 KK.2.1 ty KK.2.2.1 KK.2.2.2 C.2.2.2.1 C.2.2.2.2.2.2.1.1 hP hD (S_locs hS h2) i hi KK.1 kf hk (C.2.2.2.2.1 _ hlink) (fun x9 h9 => u_same (C.2.2.2.2.1 _ href) x9 h9) hfin (KK.2.2.1 kf hk) hn hfit hl dg (fun H1 locs1 hP1 hD1 hS1 => kk H1 locs1 ls ⟨_, hP1, hD1, wl_set hw hD ht hi, S_nil hS1⟩ hS1.2.2 h3)
theorem r_putF (C : Cx g k own cc nL rt d mc ms) {ci N t a : Nat} {CN ref : String} {T : u_T} {ty : Nat → FieldType} {fs : List Value} {v : Value} {ix : Nat}  (KK : KO ci CN T N ty) (ht : w t = some (a, ob ci fs)) (kf : Nat) (hk : kf < N) (hlink : Cond.fieldLink own ix ref (T kf).2.1 (T kf).2.2.1 ∈ GW) (href : ref = (T kf).1) (hfin : (T kf).2.2.2 = true) (hin2 : (kxM k).name = "<init>") (hdecl : (T kf).1 = own) (hn : narrow (ty kf) v = v) (hfit : fits (ty kf) v = true) (hl : kf < fs.length) (dg : decode cc pc = .ok (.putfield ix, 3)) (e : pc + 3 = q) (ew : wd_set w t a (ob ci (fs.set kf v)) = w') (kk : V g k nL w' cells slots Q q lv st) : V g k nL w cells slots Q pc lv (v :: .ref a :: st) := by
  subst e ew href
  intro H locs ls ⟨ws, hP, hD, hw, hS⟩ h2 h3
  obtain ⟨i, hi⟩ := hw.1 _ _ _ ht
  exact va_putF C.1 C.2.1 C.2.2.2.2.1 KK.2.1 ty KK.2.2.1 KK.2.2.2 C.2.2.2.1 C.2.2.2.2.2.2.1.1 hP hD (S_locs hS h2) i hi KK.1 kf hk (C.2.2.2.2.1 _ hlink) (fun _ h9 => h9) hfin hin2 hdecl (KK.2.2.1 kf hk) hn hfit hl dg (fun H1 locs1 hP1 hD1 hS1 => kk H1 locs1 ls ⟨_, hP1, hD1, wl_set hw hD ht hi, S_nil hS1⟩ hS1.2.2 h3)
theorem r_putN (C : Cx g k own cc nL rt d mc ms) {ci N t a : Nat} {CN ref : String} {T : u_T} {ty : Nat → FieldType} {fs : List Value} {v : Value} {ix : Nat} {host : String} (KK : KO ci CN T N ty) (ht : w t = some (a, ob ci fs)) (kf : Nat) (hk : kf < N) (hlink : Cond.fieldLinkNest own ix ref (T kf).2.1 (T kf).2.2.1 host ∈ NW) (href : ref = (T kf).1) (hfin : (T kf).2.2.2 = false) (hn : narrow (ty kf) v = v) (hfit : fits (ty kf) v = true) (hl : kf < fs.length) (dg : decode cc pc = .ok (.putfield ix, 3)) (e : pc + 3 = q) (ew : wd_set w t a (ob ci (fs.set kf v)) = w') (kk : V g k nL w' cells slots Q q lv st) : V g k nL w cells slots Q pc lv (v :: .ref a :: st) := by
  subst e ew href
  intro H locs ls ⟨ws, hP, hD, hw, hS⟩ h2 h3
  obtain ⟨i, hi⟩ := hw.1 _ _ _ ht
  exact va_putN C.1 C.2.1 C.2.2.2.2.1 KK.2.1 ty KK.2.2.1 KK.2.2.2 C.2.2.2.1 C.2.2.2.2.2.2.1.1 hP hD (S_locs hS h2) i hi KK.1 kf hk (va_Nw.use (nw_onT (nw_in hlink)) (C.2.2.2.2.2.2.1.2.2 _ hlink)) (fun _ h9 => h9) hfin (KK.2.2.1 kf hk) hn hfit hl dg (fun H1 locs1 hP1 hD1 hS1 => kk H1 locs1 ls ⟨_, hP1, hD1, wl_set hw hD ht hi, S_nil hS1⟩ hS1.2.2 h3)
theorem r_iald (C : Cx g k own cc nL rt d mc ms) {t a n : Nat} {i : Int32} {f : Nat → Int32} (ht : w t = some (a, aI g n f)) (j : Nat) (hi : i = nI j) (hj : j < n) (hn : n < 2 ^ 31) (dg : decode cc pc = .ok (.iaload, 1)) (e : pc + 1 = q) (kk : V g k nL w cells slots Q q lv (.int (f j) :: st)) : V g k nL w cells slots Q pc lv (.int i :: .ref a :: st) := by
  subst e hi
  intro H locs ls ⟨ws, hP, hD, hw, hS⟩ h2 h3
  obtain ⟨i9, hi9⟩ := hw.1 _ _ _ ht
  refine va_iald C.1 C.2.1 C.2.2.2.2.2.2.1.1 hP i9 1 hi9 rfl (vp_in_nI hj hn) dg ?_
  rw [nI_clamp (Nat.lt_trans hj hn)]
  exact kk H locs ls ⟨ws, hP, hD, hw, hS⟩ h2 h3
theorem r_bald (C : Cx g k own cc nL rt d mc ms) {t a n : Nat} {i : Int32} {f : Nat → Int32} (ht : w t = some (a, aB g n f)) (j : Nat) (hi : i = nI j) (hj : j < n) (hn : n < 2 ^ 31) (dg : decode cc pc = .ok (.baload, 1)) (e : pc + 1 = q) (kk : V g k nL w cells slots Q q lv (.int (f j) :: st)) : V g k nL w cells slots Q pc lv (.int i :: .ref a :: st) := by
  subst e hi
  intro H locs ls ⟨ws, hP, hD, hw, hS⟩ h2 h3
  obtain ⟨i9, hi9⟩ := hw.1 _ _ _ ht
  refine va_bald C.1 C.2.1 C.2.2.2.2.2.2.1.1 hP i9 0 hi9 rfl (vp_in_nI hj hn) dg ?_
  rw [nI_clamp (Nat.lt_trans hj hn)]
  exact kk H locs ls ⟨ws, hP, hD, hw, hS⟩ h2 h3
theorem r_lald (C : Cx g k own cc nL rt d mc ms) {t a n : Nat} {i : Int32} {f : Nat → Int64} (ht : w t = some (a, aL g n f)) (j : Nat) (hi : i = nI j) (hj : j < n) (hn : n < 2 ^ 31) (dg : decode cc pc = .ok (.laload, 1)) (e : pc + 1 = q) (kk : V g k nL w cells slots Q q lv (.long (f j) :: st)) : V g k nL w cells slots Q pc lv (.int i :: .ref a :: st) := by
  subst e hi
  intro H locs ls ⟨ws, hP, hD, hw, hS⟩ h2 h3
  obtain ⟨i9, hi9⟩ := hw.1 _ _ _ ht
  refine va_lald C.1 C.2.1 C.2.2.2.2.2.2.1.1 hP i9 2 hi9 rfl (vp_in_nI hj hn) dg ?_
  rw [nI_clamp (Nat.lt_trans hj hn)]
  exact kk H locs ls ⟨ws, hP, hD, hw, hS⟩ h2 h3
theorem r_aald (C : Cx g k own cc nL rt d mc ms) {t a n : Nat} {i : Int32} {f : Nat → Option Nat} (ht : w t = some (a, aO g n f)) (j : Nat) (hi : i = nI j) (hj : j < n) (hn : n < 2 ^ 31) (dg : decode cc pc = .ok (.aaload, 1)) (e : pc + 1 = q) (kk : V g k nL w cells slots Q q lv (va_rf (f j) :: st)) : V g k nL w cells slots Q pc lv (.int i :: .ref a :: st) := by
  subst e hi
  intro H locs ls ⟨ws, hP, hD, hw, hS⟩ h2 h3
  obtain ⟨i9, hi9⟩ := hw.1 _ _ _ ht
  refine va_aldq C.1 C.2.1 C.2.2.2.2.2.2.1.1 hP i9 3 hi9 rfl (vp_in_nI hj hn) dg ?_
  rw [nI_clamp (Nat.lt_trans hj hn)]
  exact kk H locs ls ⟨ws, hP, hD, hw, hS⟩ h2 h3
theorem r_iast (C : Cx g k own cc nL rt d mc ms) {t a n : Nat} {i : Int32} {f : Nat → Int32} {x : Int32} (ht : w t = some (a, aI g n f)) (j : Nat) (hi : i = nI j) (hj : j < n) (hn : n < 2 ^ 31) (dg : decode cc pc = .ok (.iastore, 1)) (e : pc + 1 = q) (ew : wd_set w t a (aI g n (upd f j x)) = w') (kk : V g k nL w' cells slots Q q lv st) : V g k nL w cells slots Q pc lv (.int x :: .int i :: .ref a :: st) := by
  subst e hi ew
  intro H locs ls ⟨ws, hP, hD, hw, hS⟩ h2 h3
  obtain ⟨i9, hi9⟩ := hw.1 _ _ _ ht
  refine va_iast C.1 C.2.1 C.2.2.2.2.2.2.1.1 hP hD (S_locs hS h2) i9 1 hi9 rfl (vp_in_nI hj hn) dg ?_
  rw [nI_clamp (Nat.lt_trans hj hn)]
  exact fun H1 locs1 hP1 hD1 hS1 => kk H1 locs1 ls ⟨_, hP1, hD1, wl_set hw hD ht hi9, S_nil hS1⟩ hS1.2.2 h3
theorem r_bast (C : Cx g k own cc nL rt d mc ms) {t a n : Nat} {i : Int32} {f : Nat → Int32} {x : Int32} (ht : w t = some (a, aB g n f)) (j : Nat) (hi : i = nI j) (hj : j < n) (hn : n < 2 ^ 31) (dg : decode cc pc = .ok (.bastore, 1)) (e : pc + 1 = q) (ew : wd_set w t a (aB g n (upd f j x.toInt8.toInt32)) = w') (kk : V g k nL w' cells slots Q q lv st) : V g k nL w cells slots Q pc lv (.int x :: .int i :: .ref a :: st) := by
  subst e hi ew
  intro H locs ls ⟨ws, hP, hD, hw, hS⟩ h2 h3
  obtain ⟨i9, hi9⟩ := hw.1 _ _ _ ht
  refine va_bast C.1 C.2.1 C.2.2.2.2.2.2.1.1 hP hD (S_locs hS h2) i9 0 hi9 rfl (vp_in_nI hj hn) dg ?_
  rw [nI_clamp (Nat.lt_trans hj hn)]
  rw [vp_nar_byte]
  exact fun H1 locs1 hP1 hD1 hS1 => kk H1 locs1 ls ⟨_, hP1, hD1, wl_set hw hD ht hi9, S_nil hS1⟩ hS1.2.2 h3
theorem r_last (C : Cx g k own cc nL rt d mc ms) {t a n : Nat} {i : Int32} {f : Nat → Int64} {x : Int64} (ht : w t = some (a, aL g n f)) (j : Nat) (hi : i = nI j) (hj : j < n) (hn : n < 2 ^ 31) (dg : decode cc pc = .ok (.lastore, 1)) (e : pc + 1 = q) (ew : wd_set w t a (aL g n (vp_updL f j x)) = w') (kk : V g k nL w' cells slots Q q lv st) : V g k nL w cells slots Q pc lv (.long x :: .int i :: .ref a :: st) := by
  subst e hi ew
  intro H locs ls ⟨ws, hP, hD, hw, hS⟩ h2 h3
  obtain ⟨i9, hi9⟩ := hw.1 _ _ _ ht
  refine va_last C.1 C.2.1 C.2.2.2.2.2.2.1.1 hP hD (S_locs hS h2) i9 2 hi9 rfl (vp_in_nI hj hn) dg ?_
  rw [nI_clamp (Nat.lt_trans hj hn)]
  exact fun H1 locs1 hP1 hD1 hS1 => kk H1 locs1 ls ⟨_, hP1, hD1, wl_set hw hD ht hi9, S_nil hS1⟩ hS1.2.2 h3
theorem r_ilen (C : Cx g k own cc nL rt d mc ms) {t a n : Nat} {f : Nat → Int32} (ht : w t = some (a, aI g n f)) (dg : decode cc pc = .ok (.arraylength, 1)) (e : pc + 1 = q) (kk : V g k nL w cells slots Q q lv (.int (nI n) :: st)) : V g k nL w cells slots Q pc lv (.ref a :: st) := by
  subst e
  intro H locs ls ⟨ws, hP, hD, hw, hS⟩ h2 h3
  obtain ⟨i9, hi9⟩ := hw.1 _ _ _ ht
  exact va_alen C.1 C.2.1 C.2.2.2.2.2.2.1.1 hP i9 1 hi9 (ty := .int) rfl rfl dg (kk H locs ls ⟨ws, hP, hD, hw, hS⟩ h2 h3)
theorem r_blen (C : Cx g k own cc nL rt d mc ms) {t a n : Nat} {f : Nat → Int32} (ht : w t = some (a, aB g n f)) (dg : decode cc pc = .ok (.arraylength, 1)) (e : pc + 1 = q) (kk : V g k nL w cells slots Q q lv (.int (nI n) :: st)) : V g k nL w cells slots Q pc lv (.ref a :: st) := by
  subst e
  intro H locs ls ⟨ws, hP, hD, hw, hS⟩ h2 h3
  obtain ⟨i9, hi9⟩ := hw.1 _ _ _ ht
  exact va_alen C.1 C.2.1 C.2.2.2.2.2.2.1.1 hP i9 0 hi9 (ty := .byte) rfl rfl dg (kk H locs ls ⟨ws, hP, hD, hw, hS⟩ h2 h3)
theorem r_llen (C : Cx g k own cc nL rt d mc ms) {t a n : Nat} {f : Nat → Int64} (ht : w t = some (a, aL g n f)) (dg : decode cc pc = .ok (.arraylength, 1)) (e : pc + 1 = q) (kk : V g k nL w cells slots Q q lv (.int (nI n) :: st)) : V g k nL w cells slots Q pc lv (.ref a :: st) := by
  subst e
  intro H locs ls ⟨ws, hP, hD, hw, hS⟩ h2 h3
  obtain ⟨i9, hi9⟩ := hw.1 _ _ _ ht
  exact va_alen C.1 C.2.1 C.2.2.2.2.2.2.1.1 hP i9 2 hi9 (ty := .long) rfl rfl dg (kk H locs ls ⟨ws, hP, hD, hw, hS⟩ h2 h3)
theorem r_alen (C : Cx g k own cc nL rt d mc ms) {t a n : Nat} {f : Nat → Option Nat} (ht : w t = some (a, aO g n f)) (dg : decode cc pc = .ok (.arraylength, 1)) (e : pc + 1 = q) (kk : V g k nL w cells slots Q q lv (.int (nI n) :: st)) : V g k nL w cells slots Q pc lv (.ref a :: st) := by
  subst e
  intro H locs ls ⟨ws, hP, hD, hw, hS⟩ h2 h3
  obtain ⟨i9, hi9⟩ := hw.1 _ _ _ ht
  exact va_alen C.1 C.2.1 C.2.2.2.2.2.2.1.1 hP i9 3 hi9 (ty := .object "java/lang/Object") rfl rfl dg (kk H locs ls ⟨ws, hP, hD, hw, hS⟩ h2 h3)
theorem r_copyb (C : Cx g k own cc nL rt d mc ms) {t0 t1 a0 a1 n0 n1 ix : Nat} {f f1 : Nat → Int32} {sp dp n : Int32} (ht0 : w t0 = some (a0, aB g n0 f)) (ht1 : w t1 = some (a1, aB g n1 f1)) (hlink : Cond.methodLink own ix arraycopyName ∈ GW) (hnat : Cond.native arraycopyName ∈ GW) (hstat : Cond.static arraycopyName ∈ GW) (hini : Cond.initialized "java/lang/System" ∈ GW) (js jd jn : Nat) (e1 : sp = nI js) (e2 : dp = nI jd) (e3 : n = nI jn) (z1 : js + jn ≤ n0) (z2 : jd + jn ≤ n1) (z3 : n0 < 2 ^ 31) (z4 : n1 < 2 ^ 31) (hfit : ∀ i, i < jn → fits .byte (.int (f (js + i))) = true) (hfr : 1 ≤ d) (hst : (st.map fun v => v.category).sum ≤ 8) (dg : decode cc pc = .ok (.invokestatic ix, 3)) (e : pc + 3 = q) (ew : wd_set w t1 a1 (aB g n1 (va_cpy f f1 js jd jn)) = w') (kk : V g k nL w' cells slots Q q lv st) : V g k nL w cells slots Q pc lv (.int n :: .int dp :: .ref a1 :: .int sp :: .ref a0 :: st) := by
  subst e ew e1 e2 e3
  intro H locs ls ⟨ws, hP, hD, hw, hS⟩ h2 h3
  obtain ⟨i0, hi0⟩ := hw.1 _ _ _ ht0
  obtain ⟨i1, hi1⟩ := hw.1 _ _ _ ht1
  have c1 : (nI js).toNatClampNeg = js := nI_clamp (by omega)
  have c2 : (nI jd).toNatClampNeg = jd := nI_clamp (by omega)
  have c3 : (nI jn).toNatClampNeg = jn := nI_clamp (by omega)
  have hl9 : 40 * d ≤ (kxR k).locals := C.2.2.2.2.2.2.2.2.2.1
  have hwd : nativeFrameWords "java/lang/System" "arraycopy" 5 ≤ 20 := by decide
  refine va_copyi C.1 C.2.1 (C.2.2.1.trans h3.1.symm) C.2.2.2.1 (C.2.2.2.2.1 _ hlink) (C.2.2.2.2.1 _ hnat) (C.2.2.2.2.1 _ hstat) (C.2.2.2.2.1 _ hini) C.2.2.2.2.2.2.1.1 hP hD (S_locs hS h2) i0 i1 0 0 hi0 hi1 rfl rfl rfl (nI_pos (by omega)) (nI_pos (by omega)) (nI_pos (by omega)) (by rw [c1, c3]; exact z1) (by rw [c2, c3]; exact z2) (by rw [c1, c3]; exact hfit) (Nat.le_trans hfr C.2.2.2.2.2.2.2.2.1) (by omega) dg ?_
  rw [c1, c2, c3]
  exact fun H1 locs1 hP1 hD1 hS1 => kk H1 locs1 ls ⟨_, hP1, hD1, wl_set hw hD ht1 hi1, S_nil hS1⟩ hS1.2.2 h3
theorem r_copyi (C : Cx g k own cc nL rt d mc ms) {t0 t1 a0 a1 n0 n1 ix : Nat} {f f1 : Nat → Int32} {sp dp n : Int32} (ht0 : w t0 = some (a0, aI g n0 f)) (ht1 : w t1 = some (a1, aI g n1 f1)) (hlink : Cond.methodLink own ix arraycopyName ∈ GW) (hnat : Cond.native arraycopyName ∈ GW) (hstat : Cond.static arraycopyName ∈ GW) (hini : Cond.initialized "java/lang/System" ∈ GW) (js jd jn : Nat) (e1 : sp = nI js) (e2 : dp = nI jd) (e3 : n = nI jn) (z1 : js + jn ≤ n0) (z2 : jd + jn ≤ n1) (z3 : n0 < 2 ^ 31) (z4 : n1 < 2 ^ 31)  (hfr : 1 ≤ d) (hst : (st.map fun v => v.category).sum ≤ 8) (dg : decode cc pc = .ok (.invokestatic ix, 3)) (e : pc + 3 = q) (ew : wd_set w t1 a1 (aI g n1 (va_cpy f f1 js jd jn)) = w') (kk : V g k nL w' cells slots Q q lv st) : V g k nL w cells slots Q pc lv (.int n :: .int dp :: .ref a1 :: .int sp :: .ref a0 :: st) := by
  subst e ew e1 e2 e3
  intro H locs ls ⟨ws, hP, hD, hw, hS⟩ h2 h3
  obtain ⟨i0, hi0⟩ := hw.1 _ _ _ ht0
  obtain ⟨i1, hi1⟩ := hw.1 _ _ _ ht1
  have c1 : (nI js).toNatClampNeg = js := nI_clamp (by omega)
  have c2 : (nI jd).toNatClampNeg = jd := nI_clamp (by omega)
  have c3 : (nI jn).toNatClampNeg = jn := nI_clamp (by omega)
  have hl9 : 40 * d ≤ (kxR k).locals := C.2.2.2.2.2.2.2.2.2.1
  have hwd : nativeFrameWords "java/lang/System" "arraycopy" 5 ≤ 20 := by decide
  refine va_copyi C.1 C.2.1 (C.2.2.1.trans h3.1.symm) C.2.2.2.1 (C.2.2.2.2.1 _ hlink) (C.2.2.2.2.1 _ hnat) (C.2.2.2.2.1 _ hstat) (C.2.2.2.2.1 _ hini) C.2.2.2.2.2.2.1.1 hP hD (S_locs hS h2) i0 i1 1 1 hi0 hi1 rfl rfl rfl (nI_pos (by omega)) (nI_pos (by omega)) (nI_pos (by omega)) (by rw [c1, c3]; exact z1) (by rw [c2, c3]; exact z2) (fun _ _ => rfl) (Nat.le_trans hfr C.2.2.2.2.2.2.2.2.1) (by omega) dg ?_
  rw [c1, c2, c3]
  exact fun H1 locs1 hP1 hD1 hS1 => kk H1 locs1 ls ⟨_, hP1, hD1, wl_set hw hD ht1 hi1, S_nil hS1⟩ hS1.2.2 h3
theorem r_new (C : Cx g k own cc nL rt d mc ms) {ci N ix : Nat} {CN : String} {T : u_T} {ty : Nat → FieldType} (KK : KO ci CN T N ty) (hcl : Cond.classLink own ix CN ∈ GW) (hinst : Cond.instantiable CN N ∈ GW) (hini : Cond.initialized CN ∈ GW) (t : Nat) (fs : List Value) (hfs : ∀ j, j < N → defaultValue (ty j) = vp_V fs j) (z1 : cells + 1 ≤ mc) (z2 : slots + N ≤ ms) (dg : decode cc pc = .ok (.new ix, 3)) (e : pc + 3 = q) (kk : ∀ a : Nat, V g k nL (wd_set w t a (ob ci fs)) (cells + 1) (slots + N) Q q lv (.ref a :: st)) : V g k nL w cells slots Q pc lv st := by
  subst e
  intro H locs ls ⟨ws, hP, hD, hw, hS⟩ h2 h3
  exact va_new C.1 C.2.1 C.2.2.2.2.1 KK.2.1 ty KK.2.2.1 C.2.2.2.1 (C.2.2.2.2.1 _ hcl) (C.2.2.2.2.1 _ hinst) (C.2.2.2.2.1 _ hini) C.2.2.2.2.2.2.1.1 hP hD (S_locs hS h2) (fun q h => h) KK.1 hfs (Nat.le_trans z1 C.2.2.2.2.2.2.2.2.2.2.1) (Nat.le_trans z2 C.2.2.2.2.2.2.2.2.2.2.2) dg (fun a H1 hP1 hD1 hS1 => kk a H1 locs ls ⟨_, hP1, hD1, wl_new hw hD1, S_nil hS1⟩ h2 h3)
theorem r_newb (C : Cx g k own cc nL rt d mc ms) {n : Int32} (N' : Nat) (hn : n = nI N') (hN : N' < 16777216) (harr : Cond.arrayClass (.byte) ∈ GW) (t : Nat) (z1 : cells + 1 ≤ mc) (z2 : slots + N' ≤ ms) (dg : decode cc pc = .ok (.newarray .byte, 2)) (e : pc + 2 = q) (kk : ∀ a : Nat, V g k nL (wd_set w t a (aB g N' (fun _ => 0))) (cells + 1) (slots + N') Q q lv (.ref a :: st)) : V g k nL w cells slots Q pc lv (.int n :: st) := by
  subst e hn
  intro H locs ls ⟨ws, hP, hD, hw, hS⟩ h2 h3
  refine va_newa (atype := .byte) (ty := .byte) (a0 := (N', .inl (fun _ => 0))) C.1 C.2.1 (C.2.2.2.2.1 _ harr) rfl C.2.2.2.2.2.2.1.1 hP hD (S_locs hS h2) (fun q h => h) (fun _ => rfl) (nI_pos (by omega)) (nI_clamp (by omega)) (by show N' * 1 ≤ 536870912; omega) (Nat.le_trans z1 C.2.2.2.2.2.2.2.2.2.2.1) (Nat.le_trans z2 C.2.2.2.2.2.2.2.2.2.2.2) dg (fun a cA H1 hK1 hP1 hD1 hS1 => ?_)
  have e1 : (kxs k).vm.findClass ("[" ++ (FieldType.byte).toString) = some cA := (hK1.2 4 (cA, .byte) rfl).2
  have e2 : (kxs k).vm.findClass ("[" ++ (FieldType.byte).toString) = some (gB g) := (C.2.2.2.2.2.2.1.1.2 0 _ rfl).2
  have e3 : cA = gB g := Option.some.inj (e1.symm.trans e2)
  subst e3
  exact kk a H1 locs ls ⟨_, hP1, hD1, wl_new hw hD1, S_nil hS1⟩ h2 h3
theorem r_newi (C : Cx g k own cc nL rt d mc ms) {n : Int32} (N' : Nat) (hn : n = nI N') (hN : N' < 16777216) (harr : Cond.arrayClass (.int) ∈ GW) (t : Nat) (z1 : cells + 1 ≤ mc) (z2 : slots + N' ≤ ms) (dg : decode cc pc = .ok (.newarray .int, 2)) (e : pc + 2 = q) (kk : ∀ a : Nat, V g k nL (wd_set w t a (aI g N' (fun _ => 0))) (cells + 1) (slots + N') Q q lv (.ref a :: st)) : V g k nL w cells slots Q pc lv (.int n :: st) := by
  subst e hn
  intro H locs ls ⟨ws, hP, hD, hw, hS⟩ h2 h3
  refine va_newa (atype := .int) (ty := .int) (a0 := (N', .inl (fun _ => 0))) C.1 C.2.1 (C.2.2.2.2.1 _ harr) rfl C.2.2.2.2.2.2.1.1 hP hD (S_locs hS h2) (fun q h => h) (fun _ => rfl) (nI_pos (by omega)) (nI_clamp (by omega)) (by show N' * 4 ≤ 536870912; omega) (Nat.le_trans z1 C.2.2.2.2.2.2.2.2.2.2.1) (Nat.le_trans z2 C.2.2.2.2.2.2.2.2.2.2.2) dg (fun a cA H1 hK1 hP1 hD1 hS1 => ?_)
  have e1 : (kxs k).vm.findClass ("[" ++ (FieldType.int).toString) = some cA := (hK1.2 4 (cA, .int) rfl).2
  have e2 : (kxs k).vm.findClass ("[" ++ (FieldType.int).toString) = some (gI g) := (C.2.2.2.2.2.2.1.1.2 1 _ rfl).2
  have e3 : cA = gI g := Option.some.inj (e1.symm.trans e2)
  subst e3
  exact kk a H1 locs ls ⟨_, hP1, hD1, wl_new hw hD1, S_nil hS1⟩ h2 h3
theorem r_newl (C : Cx g k own cc nL rt d mc ms) {n : Int32} (N' : Nat) (hn : n = nI N') (hN : N' < 16777216) (harr : Cond.arrayClass (.long) ∈ GW) (t : Nat) (z1 : cells + 1 ≤ mc) (z2 : slots + N' ≤ ms) (dg : decode cc pc = .ok (.newarray .long, 2)) (e : pc + 2 = q) (kk : ∀ a : Nat, V g k nL (wd_set w t a (aL g N' (fun _ => 0))) (cells + 1) (slots + N') Q q lv (.ref a :: st)) : V g k nL w cells slots Q pc lv (.int n :: st) := by
  subst e hn
  intro H locs ls ⟨ws, hP, hD, hw, hS⟩ h2 h3
  refine va_newa (atype := .long) (ty := .long) (a0 := (N', .inr (.inl (fun _ => 0)))) C.1 C.2.1 (C.2.2.2.2.1 _ harr) rfl C.2.2.2.2.2.2.1.1 hP hD (S_locs hS h2) (fun q h => h) (fun _ => rfl) (nI_pos (by omega)) (nI_clamp (by omega)) (by show N' * 8 ≤ 536870912; omega) (Nat.le_trans z1 C.2.2.2.2.2.2.2.2.2.2.1) (Nat.le_trans z2 C.2.2.2.2.2.2.2.2.2.2.2) dg (fun a cA H1 hK1 hP1 hD1 hS1 => ?_)
  have e1 : (kxs k).vm.findClass ("[" ++ (FieldType.long).toString) = some cA := (hK1.2 4 (cA, .long) rfl).2
  have e2 : (kxs k).vm.findClass ("[" ++ (FieldType.long).toString) = some (gL g) := (C.2.2.2.2.2.2.1.1.2 2 _ rfl).2
  have e3 : cA = gL g := Option.some.inj (e1.symm.trans e2)
  subst e3
  exact kk a H1 locs ls ⟨_, hP1, hD1, wl_new hw hD1, S_nil hS1⟩ h2 h3
theorem r_newa (C : Cx g k own cc nL rt d mc ms) {n : Int32} {ix : Nat} (N' : Nat) (hn : n = nI N') (hN : N' < 16777216) (hcl : Cond.classLink own ix "java/lang/Object" ∈ GW) (t : Nat) (z1 : cells + 1 ≤ mc) (z2 : slots + N' ≤ ms) (dg : decode cc pc = .ok (.anewarray ix, 3)) (e : pc + 3 = q) (kk : ∀ a : Nat, V g k nL (wd_set w t a (aO g N' (fun _ => none))) (cells + 1) (slots + N') Q q lv (.ref a :: st)) : V g k nL w cells slots Q pc lv (.int n :: st) := by
  subst e hn
  intro H locs ls ⟨ws, hP, hD, hw, hS⟩ h2 h3
  refine va_newq C.1 C.2.1 C.2.2.2.1 (C.2.2.2.2.1 _ hcl) (C.2.2.2.2.2.2.1.2.1.2.2.2.2.2.2.2.2.2.2.2.2.2.2.2.2) C.2.2.2.2.2.2.1.1 hP hD (S_locs hS h2) (fun q h => h) (nI_pos (by omega)) (nI_clamp (by omega)) (by omega) (Nat.le_trans z1 C.2.2.2.2.2.2.2.2.2.2.1) (Nat.le_trans z2 C.2.2.2.2.2.2.2.2.2.2.2) dg (fun a cA H1 hK1 hP1 hD1 hS1 => ?_)
  have e1 := (hK1.2 4 (cA, .object "java/lang/Object") rfl).2
  have e2 := (C.2.2.2.2.2.2.1.1.2 3 _ rfl).2
  obtain ⟨-, -, -, -, -, f1⟩ := e1
  obtain ⟨-, -, -, -, -, f2⟩ := e2
  have e3 : cA = gO g := Option.some.inj (f1.symm.trans f2)
  subst e3
  exact kk a H1 locs ls ⟨_, hP1, hD1, wl_new hw hD1, S_nil hS1⟩ h2 h3
theorem r_gets (C : Cx g k own cc nL rt d mc ms) {CN nm dd ref : String} {ix : Nat} {v : Value} (Z : va_Z CN nm dd v (cx_A g) (kxs k) (gH g)) (hlink : Cond.fieldLink own ix ref nm dd ∈ GW) (href : ref = CN) (dg : decode cc pc = .ok (.getstatic ix, 3)) (e : pc + 3 = q) (kk : V g k nL w cells slots Q q lv (v :: st)) : V g k nL w cells slots Q pc lv st := by
  subst e href
  intro H locs ls ⟨ws, hP, hD, hw, hS⟩ h2 h3
  obtain ⟨cf, kf, fi, f, a, cell, g1, g2, g3, g4, g5, g6, g7, g8⟩ := Z
  exact W.gets C.1 C.2.1 C.2.2.2.1 (C.2.2.2.2.1 _ hlink) g1 g2 g3 g4 (by rw [hS.2.1 a (Array.getElem?_eq_some_iff.mp g5).1 g8]; exact g5) (fun e => by rw [e] at g6; cases g6) g7 rfl dg (kk H locs ls ⟨ws, hP, hD, hw, hS⟩ h2 h3)
theorem r_siald (C : Cx g k own cc nL rt d mc ms) {t n : Nat} {i : Int32} {f : Nat → Int32} (Z : va_T .int t n (fun j => .int (f j)) (cx_A g) (kxs k) (gH g)) (j : Nat) (hi : i = nI j) (hj : j < n) (hn : n < 2 ^ 31) (dg : decode cc pc = .ok (.iaload, 1)) (e : pc + 1 = q) (kk : V g k nL w cells slots Q q lv (.int (f j) :: st)) : V g k nL w cells slots Q pc lv (.int i :: .ref t :: st) := by
  subst e hi
  intro H locs ls ⟨ws, hP, hD, hw, hS⟩ h2 h3
  obtain ⟨cell, g1, g2, g3, g4, g5, g6, g7⟩ := Z
  have hc := nI_clamp (n := j) (Nat.lt_trans hj hn)
  exact W.iald (v := .int (f j)) C.1 C.2.1 (by rw [hS.2.1 t (Array.getElem?_eq_some_iff.mp g1).1 g7]; exact g1) g2 g3 (fun z => by
    rcases z with z | z
    · exact nI_pos (Nat.lt_trans hj hn) z
    · rw [hc] at z; omega) (by rw [hc]; exact g6 j hj) rfl rfl dg (kk H locs ls ⟨ws, hP, hD, hw, hS⟩ h2 h3)
theorem r_sbald (C : Cx g k own cc nL rt d mc ms) {t n : Nat} {i : Int32} {f : Nat → Int32} (Z : va_T .byte t n (fun j => .int (f j)) (cx_A g) (kxs k) (gH g)) (j : Nat) (hi : i = nI j) (hj : j < n) (hn : n < 2 ^ 31) (dg : decode cc pc = .ok (.baload, 1)) (e : pc + 1 = q) (kk : V g k nL w cells slots Q q lv (.int (f j) :: st)) : V g k nL w cells slots Q pc lv (.int i :: .ref t :: st) := by
  subst e hi
  intro H locs ls ⟨ws, hP, hD, hw, hS⟩ h2 h3
  obtain ⟨cell, g1, g2, g3, g4, g5, g6, g7⟩ := Z
  have hc := nI_clamp (n := j) (Nat.lt_trans hj hn)
  exact W.bald (v := .int (f j)) C.1 C.2.1 (by rw [hS.2.1 t (Array.getElem?_eq_some_iff.mp g1).1 g7]; exact g1) g2 g3 (fun z => by
    rcases z with z | z
    · exact nI_pos (Nat.lt_trans hj hn) z
    · rw [hc] at z; omega) (by rw [hc]; exact g6 j hj) rfl rfl dg (kk H locs ls ⟨ws, hP, hD, hw, hS⟩ h2 h3)
theorem r_slen (C : Cx g k own cc nL rt d mc ms) {t n : Nat} {ty : FieldType} {f : Nat → Value} (Z : va_T ty t n f (cx_A g) (kxs k) (gH g)) (dg : decode cc pc = .ok (.arraylength, 1)) (e : pc + 1 = q) (kk : V g k nL w cells slots Q q lv (.int (nI n) :: st)) : V g k nL w cells slots Q pc lv (.ref t :: st) := by
  subst e
  intro H locs ls ⟨ws, hP, hD, hw, hS⟩ h2 h3
  obtain ⟨cell, g1, g2, g3, g4, g5, g6, g7⟩ := Z
  exact W.alen C.1 C.2.1 (by rw [hS.2.1 t (Array.getElem?_eq_some_iff.mp g1).1 g7]; exact g1) g2 g5 rfl rfl dg (kk H locs ls ⟨ws, hP, hD, hw, hS⟩ h2 h3)
theorem r_cast (C : Cx g k own cc nL rt d mc ms) {ci N t a ix : Nat} {CN nm : String} {T : u_T} {ty : Nat → FieldType} {fs : List Value} (KK : KO ci CN T N ty) (ht : w t = some (a, ob ci fs)) (hlink : Cond.classLink own ix nm ∈ GW) (hc : Cond.castable CN nm ∈ NW) (dg : decode cc pc = .ok (.checkcast ix, 3)) (e : pc + 3 = q) (kk : V g k nL w cells slots Q q lv (.ref a :: st)) : V g k nL w cells slots Q pc lv (.ref a :: st) := by
  subst e
  intro H locs ls ⟨ws, hP, hD, hw, hS⟩ h2 h3
  obtain ⟨i9, hi9⟩ := hw.1 _ _ _ ht
  exact va_castY C.1 C.2.1 C.2.2.2.1 (C.2.2.2.2.1 _ hlink) (C.2.2.2.2.2.2.1.2.2 _ hc) (va_recv (q0 := i9) C.2.2.2.2.2.2.1.1 hP KK.1 hi9) dg (kk H locs ls ⟨ws, hP, hD, hw, hS⟩ h2 h3)
theorem r_castN (C : Cx g k own cc nL rt d mc ms) {ix : Nat} (dg : decode cc pc = .ok (.checkcast ix, 3)) (e : pc + 3 = q) (kk : V g k nL w cells slots Q q lv (.null :: st)) : V g k nL w cells slots Q pc lv (.null :: st) := by
  subst e
  exact fun H locs ls h1 h2 h3 => lv_castN C.1 C.2.1 dg (kk H locs ls h1 h2 h3)
end RW
/-- the room of a method of depth d -/
abbrev rmd (d mc ms : Nat) : Room := { frames := d, cells := mc, slots := ms, locals := 40 * d }
def Pre9 (g : cx_G) (w : wd_T) (av : List Value) : Array Value → State → Prop := fun a U => a = av.toArray ∧ hp_ok g w U.heap ∧ kn_ok g U
def Post9 (g : cx_G) (Φ : Option Value → wd_T → Prop) : Array Value → State → Outcome → State → Prop := fun _ _ o t => ∃ (v : Option Value) (w' : wd_T), o = .returned v ∧ Φ v w' ∧ hp_ok g w' t.heap
/-- a method's contract over a world -/
def Mt (l : Launch) (g : cx_G) (y : MethodName) (cc : ByteArray) (nL : Nat) (rt : Option FieldType) (d mc ms : Nat) (w : wd_T) (av : List Value) (Φ : Option Value → wd_T → Prop) : Prop :=
  Met l y (Cond.code y cc nL rt :: GW) (rmd d mc ms) (Pre9 g w av) (Post9 g Φ) mc ms (cx_A g)
theorem Pre9_blind {g : cx_G} {w : wd_T} {av : List Value} : FrameBlind (Pre9 g w av) := fun a U g9 mk q => ⟨q.1, q.2.1, kn_ok.same (u := U) (U := U.calling g9 mk a) rfl q.2.2⟩
def kQ (g : cx_G) (k : kx_T) (Φ : Option Value → wd_T → Prop) (mc ms : Nat) : State → Prop := MQ (kxb k) (Post9 g Φ) (kxa k) (kxs k) mc ms (cx_A g)
/-- a contract out of a walk from the entry -/
theorem mt_of {l : Launch} {g : cx_G} {y : MethodName} {cc : ByteArray} {nL : Nat} {rt : Option FieldType} {d mc ms : Nat} {w : wd_T} {av : List Value} {Φ : Option Value → wd_T → Prop} (own : String) (nm : String) (ho : y.cls = own) (hnm : y.name = nm) (hy : plainName y.cls = true) (hn : (lg_sl av).length ≤ nL) (lv : List (Nat × Value)) (hlv : lv_args 0 av = lv)
    (body : ∀ k : kx_T, kxl k = l → Cx g k own cc nL rt d mc ms → (kxM k).name = nm → V g k nL w 0 0 (kQ g k Φ mc ms) 0 lv []) : Mt l g y cc nL rt d mc ms w av Φ := by
  refine Met.ofW (cc := cc) (maxL := nL) (ret := rt) hy rfl ?_
  intro p e s m args below meth c s₁ B hml hv
  obtain ⟨rfl, hh, hkn⟩ := hv
  have hts := atoms_spec (ws := Cond.code y cc nL rt :: GW) B.pre
  have hname := name_of_methodNamed B.named B.method
  subst ho hnm
  have C : Cx g (p, l, e, rmd d mc ms, s, m, av.toArray, below, meth, c) y.cls cc nL rt d mc ms := ⟨B.exec, B.bytes, hml, findClass_of_methodNamed B.named, fun w hw => hts w (List.mem_cons_of_mem _ hw), B.notSynchronized, hkn, B.returns, Nat.le_refl _, Nat.le_refl _, Nat.le_refl _, Nat.le_refl _⟩
  have hl := lv_entry av (n := nL) hn
  rw [lg_entry_eq]
  rw [hlv] at hl
  exact body (p, l, e, rmd d mc ms, s, m, av.toArray, below, meth, c) rfl C hname.1 s.heap [] _ hh (fun _ q => nomatch q) hl
section RC
variable {g : cx_G} {k : kx_T} {own : String} {cc : ByteArray} {nL : Nat} {rt : Option FieldType} {d mc ms : Nat} {w w' : wd_T} {cells slots : Nat} {Q : State → Prop} {pc q : Nat} {lv lv' : List (Nat × Value)} {st : List Value}
variable {Φ : Option Value → wd_T → Prop}
theorem gw_in {y : MethodName} {bytes : ByteArray} {n : Nat} {rt : Option FieldType} (h : Cond.code y bytes n rt ∈ GW) : GoodIn GW (Cond.code y bytes n rt :: GW) := fun w hw => by
  rcases List.mem_cons.mp hw with rfl | hw
  · exact ⟨h, gw_good h⟩
  · exact ⟨hw, gw_good hw⟩
theorem go_run {H : Heap} {locs : List Loc} {ls : Array Slot} {mc2 ms2 : Nat} {rest st0 : List Value} {a : Array Value}
    (hr : va_Run (kxp k) (kxl k) (kxe k) (kxR k) (kxs k) (kxm k) (kxa k) (kxb k) (kxM k) (kxc k) H locs cells slots mc2 ms2 (F0 (kxm k) pc ls st0) rest (Post9 g Φ a) (cx_A g)) (h2 : ∀ z ∈ locs, cx_A g z.base) (h3 : lv_has ls nL lv)
    (kk : ∀ (v : Option Value) (w' : wd_T), Φ v w' → V g k nL w' (cells + mc2) (slots + ms2) Q (pc + 3) lv (v.toList ++ rest)) : W (kxp k) (kxl k) (kxe k) (kxR k) (kxs k) (kxm k) (kxa k) (kxb k) (kxM k) (kxc k) H locs cells slots Q (F0 (kxm k) pc ls st0) := by
  intro T hT X
  obtain ⟨v, st₀, t, T', L, h0, X', hL, e1, e2, ⟨v', w', hv, hp, hb⟩, st⟩ := hr T hT X
  cases hv
  obtain ⟨t2, a1, b1⟩ := kk _ w' hp t.heap (locs ++ L) ls hb (fun z hz => by
      rcases List.mem_append.mp hz with h | h
      · exact h2 z h
      · exact hL z h) h3 T' e1 X'
  exact ⟨t2, st t2 a1, b1⟩

theorem r_callV (C : Cx g k own cc nL rt d mc ms) {y : MethodName} {bytes : ByteArray} {n2 d2 mc2 ms2 ix : Nat} {rt2 : Option FieldType} {As : List Value} {ci N t a : Nat} {CN : String} {T : u_T} {ty : Nat → FieldType} {fs : List Value} (KK : KO ci CN T N ty) (ht : w t = some (a, ob ci fs)) (hM : Mt (kxl k) g y bytes n2 rt2 d2 mc2 ms2 w (.ref a :: As) Φ) (hcode : Cond.code y bytes n2 rt2 ∈ GW) (hlink : Cond.methodLink own ix y ∈ GW) (hin : Cond.instanceMethod y ∈ GW) (hsel : Cond.selects CN y y ∈ GW) (hini : Cond.initialized CN ∈ GW) (hcn : y.cls = CN) (hmh : y.cls ≠ "java/lang/invoke/MethodHandle" ∧ y.cls ≠ "java/lang/invoke/VarHandle") (hpar : (parseMethodDescriptor y.desc).map (fun d => d.parameters.length) = some As.length) (hd : d2 + 1 ≤ d) (hm : n2 ≤ 21) (z1 : cells + mc2 ≤ mc) (z2 : slots + ms2 ≤ ms) (hst : (st.map fun v => v.category).sum ≤ 8) {st0 : List Value} (hst0 : st0 = As.reverse ++ .ref a :: st) (dg : decode cc pc = .ok (.invokevirtual ix, 3)) (e : pc + 3 = q)
    (kk : ∀ (v : Option Value) (w' : wd_T), Φ v w' → V g k nL w' (cells + mc2) (slots + ms2) Q q lv (v.toList ++ st)) : V g k nL w cells slots Q pc lv st0 := by
  subst e hst0
  intro H locs ls ⟨ws, hP, hD, hw, hS⟩ h2 h3
  obtain ⟨i9, hi9⟩ := hw.1 _ _ _ ht
  have hts := C.2.2.2.2.1
  have cb : CallB (kxR k) (kxs k) (kxa k) own ix y bytes n2 rt2 (Cond.code y bytes n2 rt2 :: GW) (rmd d2 mc2 ms2) mc2 ms2 As.length := callB_of As.length hts (gw_in hcode) rfl rfl rfl (hts _ (by rw [hcn]; exact hini)) (hts _ hlink) ⟨hmh.1, hmh.2, hpar⟩ ⟨Nat.le_trans hd C.2.2.2.2.2.2.2.2.1, by have := C.2.2.2.2.2.2.2.2.2.1; show 8 + (n2 + 11) + 40 * d2 ≤ _; omega⟩
  exact go_run (va_runV (As := As) (rest := st) ⟨C.1, C.2.1, C.2.2.1, C.2.2.2.1, C.2.2.2.2.1⟩ hM ⟨cb, hts _ hin, hts _ hsel⟩ ⟨Pre9_blind, va_recv (q0 := i9) C.2.2.2.2.2.2.1.1 hP KK.1 hi9, fun U hU hW => ⟨rfl, by rw [hU]; exact ⟨ws, hP, hD, hw, hS⟩, C.2.2.2.2.2.2.1.warm hW⟩⟩ rfl rfl h3.1 rfl (lv_room hst) dg ⟨Nat.le_trans z1 C.2.2.2.2.2.2.2.2.2.2.1, Nat.le_trans z2 C.2.2.2.2.2.2.2.2.2.2.2⟩) h2 h3 kk
theorem r_callS (C : Cx g k own cc nL rt d mc ms) {y : MethodName} {bytes : ByteArray} {n2 d2 mc2 ms2 ix : Nat} {rt2 : Option FieldType} {As : List Value} (hM : Mt (kxl k) g y bytes n2 rt2 d2 mc2 ms2 w As Φ) (hcode : Cond.code y bytes n2 rt2 ∈ GW) (hlink : Cond.methodLink own ix y ∈ GW) (hin : Cond.static y ∈ GW) (hini : Cond.initialized y.cls ∈ GW) (hmh : y.cls ≠ "java/lang/invoke/MethodHandle" ∧ y.cls ≠ "java/lang/invoke/VarHandle") (hpar : (parseMethodDescriptor y.desc).map (fun d => d.parameters.length) = some As.length) (hd : d2 + 1 ≤ d) (hm : n2 ≤ 21) (z1 : cells + mc2 ≤ mc) (z2 : slots + ms2 ≤ ms) (hst : (st.map fun v => v.category).sum ≤ 8) {st0 : List Value} (hst0 : st0 = As.reverse ++ st) (dg : decode cc pc = .ok (.invokestatic ix, 3)) (e : pc + 3 = q)
    (kk : ∀ (v : Option Value) (w' : wd_T), Φ v w' → V g k nL w' (cells + mc2) (slots + ms2) Q q lv (v.toList ++ st)) : V g k nL w cells slots Q pc lv st0 := by
  subst e hst0
  intro H locs ls ⟨ws, hP, hD, hw, hS⟩ h2 h3
  have hts := C.2.2.2.2.1
  have cb : CallB (kxR k) (kxs k) (kxa k) own ix y bytes n2 rt2 (Cond.code y bytes n2 rt2 :: GW) (rmd d2 mc2 ms2) mc2 ms2 As.length := callB_of As.length hts (gw_in hcode) rfl rfl rfl (hts _ hini) (hts _ hlink) ⟨hmh.1, hmh.2, hpar⟩ ⟨Nat.le_trans hd C.2.2.2.2.2.2.2.2.1, by have := C.2.2.2.2.2.2.2.2.2.1; show 8 + (n2 + 11) + 40 * d2 ≤ _; omega⟩
  exact go_run (va_runS (As := As) (rest := st) ⟨C.1, C.2.1, C.2.2.1, C.2.2.2.1, C.2.2.2.2.1⟩ hM ⟨cb, hts _ hin⟩ ⟨Pre9_blind, fun U hU hW => ⟨rfl, by rw [hU]; exact ⟨ws, hP, hD, hw, hS⟩, C.2.2.2.2.2.2.1.warm hW⟩⟩ rfl rfl h3.1 rfl (lv_room hst) dg ⟨Nat.le_trans z1 C.2.2.2.2.2.2.2.2.2.2.1, Nat.le_trans z2 C.2.2.2.2.2.2.2.2.2.2.2⟩) h2 h3 kk
theorem r_callI (C : Cx g k own cc nL rt d mc ms) {y : MethodName} {bytes : ByteArray} {n2 d2 mc2 ms2 ix : Nat} {As : List Value} {a : Nat} (hM : Mt (kxl k) g y bytes n2 none d2 mc2 ms2 w (.ref a :: As) Φ) (hcode : Cond.code y bytes n2 none ∈ GW) (hlink : Cond.methodLink own ix y ∈ GW) (hin : Cond.instanceMethod y ∈ GW) (hini : Cond.initialized y.cls ∈ GW) (hnm : y.name = "<init>") (hmh : y.cls ≠ "java/lang/invoke/MethodHandle" ∧ y.cls ≠ "java/lang/invoke/VarHandle") (hpar : (parseMethodDescriptor y.desc).map (fun d => d.parameters.length) = some As.length) (hd : d2 + 1 ≤ d) (hm : n2 ≤ 21) (z1 : cells + mc2 ≤ mc) (z2 : slots + ms2 ≤ ms) (hst : (st.map fun v => v.category).sum ≤ 8) {st0 : List Value} (hst0 : st0 = As.reverse ++ .ref a :: st) (dg : decode cc pc = .ok (.invokespecial ix, 3)) (e : pc + 3 = q)
    (kk : ∀ (v : Option Value) (w' : wd_T), Φ v w' → V g k nL w' (cells + mc2) (slots + ms2) Q q lv (v.toList ++ st)) : V g k nL w cells slots Q pc lv st0 := by
  subst e hst0
  intro H locs ls ⟨ws, hP, hD, hw, hS⟩ h2 h3
  have hts := C.2.2.2.2.1
  have cb : CallB (kxR k) (kxs k) (kxa k) own ix y bytes n2 none (Cond.code y bytes n2 none :: GW) (rmd d2 mc2 ms2) mc2 ms2 As.length := callB_of As.length hts (gw_in hcode) rfl rfl rfl (hts _ hini) (hts _ hlink) ⟨hmh.1, hmh.2, hpar⟩ ⟨Nat.le_trans hd C.2.2.2.2.2.2.2.2.1, by have := C.2.2.2.2.2.2.2.2.2.1; show 8 + (n2 + 11) + 40 * d2 ≤ _; omega⟩
  exact go_run (va_runI (As := As) (rest := st) ⟨C.1, C.2.1, C.2.2.1, C.2.2.2.1, C.2.2.2.2.1⟩ hM ⟨cb, hnm, hts _ hin⟩ ⟨Pre9_blind, fun U hU hW => ⟨rfl, by rw [hU]; exact ⟨ws, hP, hD, hw, hS⟩, C.2.2.2.2.2.2.1.warm hW⟩⟩ rfl rfl h3.1 rfl (lv_room hst) dg ⟨Nat.le_trans z1 C.2.2.2.2.2.2.2.2.2.2.1, Nat.le_trans z2 C.2.2.2.2.2.2.2.2.2.2.2⟩) h2 h3 kk
theorem r_callIN (C : Cx g k own cc nL rt d mc ms) {y : MethodName} {bytes : ByteArray} {n2 d2 mc2 ms2 ix : Nat} {As : List Value} {a : Nat} {host : String} (hM : Mt (kxl k) g y bytes n2 none d2 mc2 ms2 w (.ref a :: As) Φ) (hcode : Cond.code y bytes n2 none ∈ GW) (hlink : Cond.methodLinkNest own ix y host ∈ NW) (hin : Cond.instanceMethod y ∈ GW) (hini : Cond.initialized y.cls ∈ GW) (hnm : y.name = "<init>") (hmh : y.cls ≠ "java/lang/invoke/MethodHandle" ∧ y.cls ≠ "java/lang/invoke/VarHandle") (hpar : (parseMethodDescriptor y.desc).map (fun d => d.parameters.length) = some As.length) (hd : d2 + 1 ≤ d) (hm : n2 ≤ 21) (z1 : cells + mc2 ≤ mc) (z2 : slots + ms2 ≤ ms) (hst : (st.map fun v => v.category).sum ≤ 8) {st0 : List Value} (hst0 : st0 = As.reverse ++ .ref a :: st) (dg : decode cc pc = .ok (.invokespecial ix, 3)) (e : pc + 3 = q)
    (kk : ∀ (v : Option Value) (w' : wd_T), Φ v w' → V g k nL w' (cells + mc2) (slots + ms2) Q q lv (v.toList ++ st)) : V g k nL w cells slots Q pc lv st0 := by
  subst e hst0
  intro H locs ls ⟨ws, hP, hD, hw, hS⟩ h2 h3
  have hts := C.2.2.2.2.1
  have cb : va_CN (kxR k) (kxs k) (kxa k) own ix y host bytes n2 none (Cond.code y bytes n2 none :: GW) (rmd d2 mc2 ms2) mc2 ms2 As.length := va_cnB As.length hts (gw_in hcode) rfl rfl rfl (C.2.2.2.2.2.2.1.2.2 _ hlink) (hts _ hini) ⟨hmh.1, hmh.2, hpar⟩ ⟨Nat.le_trans hd C.2.2.2.2.2.2.2.2.1, by have := C.2.2.2.2.2.2.2.2.2.1; show 8 + (n2 + 11) + 40 * d2 ≤ _; omega⟩
  exact go_run (va_runIN (As := As) (rest := st) ⟨C.1, C.2.1, C.2.2.1, C.2.2.2.1, C.2.2.2.2.1⟩ hM ⟨cb, hnm, hts _ hin⟩ ⟨Pre9_blind, fun U hU hW => ⟨rfl, by rw [hU]; exact ⟨ws, hP, hD, hw, hS⟩, C.2.2.2.2.2.2.1.warm hW⟩⟩ rfl rfl h3.1 rfl (lv_room hst) dg ⟨Nat.le_trans z1 C.2.2.2.2.2.2.2.2.2.2.1, Nat.le_trans z2 C.2.2.2.2.2.2.2.2.2.2.2⟩) h2 h3 kk
theorem r_objI (C : Cx g k own cc nL rt d mc ms) {ix a : Nat} (hlink : Cond.methodLink own ix Lib.objectInit ∈ GW) (hin : Cond.instanceMethod Lib.objectInit ∈ GW) (hcode : Cond.code Lib.objectInit ⟨#[0xb1]⟩ 1 none ∈ GW) (hd : 1 ≤ d) (hst : (st.map fun v => v.category).sum ≤ 8) (dg : decode cc pc = .ok (.invokespecial ix, 3)) (e : pc + 3 = q) (kk : V g k nL w cells slots Q q lv st) : V g k nL w cells slots Q pc lv (.ref a :: st) := by
  subst e
  intro H locs ls ⟨ws, hP, hD, hw, hS⟩ h2 h3
  have hts := C.2.2.2.2.1
  have hl9 : 40 * d ≤ (kxR k).locals := C.2.2.2.2.2.2.2.2.2.1
  refine W.objInit C.1 C.2.1 C.2.2.2.1 (hts _ hlink) (hts _ hin) (hts _ hcode) rfl (h3.1.trans C.2.2.1.symm) rfl dg (Nat.le_trans hd C.2.2.2.2.2.2.2.2.1) ?_ ?_
  · show 2 * 0 + _ + 12 ≤ _
    omega
  · exact kk H locs ls ⟨ws, hP, hD, hw, hS⟩ h2 h3
theorem r_iret (C : Cx g k own cc nL rt d mc ms) (hr : rt = some .int) {v : Int32} (z1 : cells ≤ mc) (z2 : slots ≤ ms) (dg : decode cc pc = .ok (.ireturn, 1)) (h : Φ (some (.int v)) w) : V g k nL w cells slots (kQ g k Φ mc ms) pc lv [.int v] := by
  subst hr
  exact fun H locs ls h1 h2 h3 => W.widen z1 z2 (W.iret C.1 C.2.1 C.2.2.2.2.2.2.2.1 (fun t ht _ => ⟨_, w, rfl, h, by rw [ht]; exact h1⟩) h2 dg C.2.2.2.2.2.1)
theorem r_zret (C : Cx g k own cc nL rt d mc ms) {ty : FieldType} (hr : rt = some ty) {v : Int32} (hn : narrow ty (.int v) = .int v) (z1 : cells ≤ mc) (z2 : slots ≤ ms) (dg : decode cc pc = .ok (.ireturn, 1)) (h : Φ (some (.int v)) w) : V g k nL w cells slots (kQ g k Φ mc ms) pc lv [.int v] := by
  subst hr
  exact fun H locs ls h1 h2 h3 => W.widen z1 z2 (W.zret C.1 C.2.1 C.2.2.2.2.2.2.2.1 hn (fun t ht _ => ⟨_, w, rfl, h, by rw [ht]; exact h1⟩) h2 dg C.2.2.2.2.2.1)
theorem r_lret (C : Cx g k own cc nL rt d mc ms) (hr : rt = some .long) {v : Int64} (z1 : cells ≤ mc) (z2 : slots ≤ ms) (dg : decode cc pc = .ok (.lreturn, 1)) (h : Φ (some (.long v)) w) : V g k nL w cells slots (kQ g k Φ mc ms) pc lv [.long v] := by
  subst hr
  exact fun H locs ls h1 h2 h3 => W.widen z1 z2 (W.lret C.1 C.2.1 C.2.2.2.2.2.2.2.1 (fun t ht _ => ⟨_, w, rfl, h, by rw [ht]; exact h1⟩) h2 dg C.2.2.2.2.2.1)
theorem r_vret (C : Cx g k own cc nL rt d mc ms) (hr : rt = none) (z1 : cells ≤ mc) (z2 : slots ≤ ms) (dg : decode cc pc = .ok (.return_, 1)) (h : Φ none w) : V g k nL w cells slots (kQ g k Φ mc ms) pc lv [] := by
  subst hr
  exact fun H locs ls h1 h2 h3 => W.widen z1 z2 (W.vret C.1 C.2.1 C.2.2.2.2.2.2.2.1 (fun t ht _ => ⟨_, w, rfl, h, by rw [ht]; exact h1⟩) h2 dg C.2.2.2.2.2.1)
theorem r_aret (C : Cx g k own cc nL rt d mc ms) {ty : FieldType} (hr : rt = some ty) (hrt : (∃ n, ty = .object n) ∨ ∃ t, ty = .array t) {v : Value} (hv : v = .null ∨ ∃ a, v = .ref a) (z1 : cells ≤ mc) (z2 : slots ≤ ms) (dg : decode cc pc = .ok (.areturn, 1)) (h : Φ (some v) w) : V g k nL w cells slots (kQ g k Φ mc ms) pc lv [v] := by
  subst hr
  exact fun H locs ls h1 h2 h3 => W.widen z1 z2 (W.aret C.1 C.2.1 C.2.2.2.2.2.2.2.1 hrt hv (fun t ht _ => ⟨_, w, rfl, h, by rw [ht]; exact h1⟩) h2 dg C.2.2.2.2.2.1)
end RC
end
section
-- the tables' words, by their places
theorem q0 : Cond.initialized RL ∈ GW := gw_t 0 (by decide +kernel) (by decide +kernel)
theorem q1 : Cond.initialized RX7 ∈ GW := gw_t 1 (by decide +kernel) (by decide +kernel)
theorem q2 : Cond.initialized RX5 ∈ GW := gw_t 2 (by decide +kernel) (by decide +kernel)
theorem q3 : Cond.initialized RJxa1e45 ∈ GW := gw_t 3 (by decide +kernel) (by decide +kernel)
theorem q4 : Cond.initialized RJxc12de ∈ GW := gw_t 4 (by decide +kernel) (by decide +kernel)
theorem q5 : Cond.initialized RJx4a65c ∈ GW := gw_t 5 (by decide +kernel) (by decide +kernel)
theorem q6 : Cond.initialized RX0 ∈ GW := gw_t 6 (by decide +kernel) (by decide +kernel)
theorem q7 : Cond.initialized RX3 ∈ GW := gw_t 7 (by decide +kernel) (by decide +kernel)
theorem q8 : Cond.initialized RX1 ∈ GW := gw_t 8 (by decide +kernel) (by decide +kernel)
theorem q9 : Cond.initialized RX8 ∈ GW := gw_t 9 (by decide +kernel) (by decide +kernel)
theorem q10 : Cond.initialized RJ15 ∈ GW := gw_t 10 (by decide +kernel) (by decide +kernel)
theorem q11 : Cond.initialized RJ3 ∈ GW := gw_t 11 (by decide +kernel) (by decide +kernel)
theorem q12 : Cond.initialized RX4 ∈ GW := gw_t 12 (by decide +kernel) (by decide +kernel)
theorem q13 : Cond.initialized RJ8 ∈ GW := gw_t 13 (by decide +kernel) (by decide +kernel)
theorem q14 : Cond.initialized RJ9 ∈ GW := gw_t 14 (by decide +kernel) (by decide +kernel)
theorem q15 : Cond.initialized RJ7 ∈ GW := gw_t 15 (by decide +kernel) (by decide +kernel)
theorem q16 : Cond.initialized RJ10 ∈ GW := gw_t 16 (by decide +kernel) (by decide +kernel)
theorem q17 : Cond.initialized RX6 ∈ GW := gw_t 17 (by decide +kernel) (by decide +kernel)
theorem q18 : Cond.initialized RX2 ∈ GW := gw_t 18 (by decide +kernel) (by decide +kernel)
theorem q19 : Cond.initialized RJ0 ∈ GW := gw_t 19 (by decide +kernel) (by decide +kernel)
theorem q20 : Cond.initialized RJ1 ∈ GW := gw_t 20 (by decide +kernel) (by decide +kernel)
theorem q21 : Cond.initialized RJ2 ∈ GW := gw_t 21 (by decide +kernel) (by decide +kernel)
theorem q22 : Cond.initialized "java/lang/Throwable" ∈ GW := gw_t 22 (by decide +kernel) (by decide +kernel)
theorem q23 : Cond.initialized "java/lang/Exception" ∈ GW := gw_t 23 (by decide +kernel) (by decide +kernel)
theorem q24 : Cond.initialized "java/lang/RuntimeException" ∈ GW := gw_t 24 (by decide +kernel) (by decide +kernel)
theorem q25 : Cond.initialized "java/lang/IndexOutOfBoundsException" ∈ GW := gw_t 25 (by decide +kernel) (by decide +kernel)
theorem q26 : Cond.initialized RJx00060 ∈ GW := gw_t 26 (by decide +kernel) (by decide +kernel)
theorem q27 : Cond.classLink RL 8 RX7 ∈ GW := gw_t 27 (by decide +kernel) (by decide +kernel)
theorem q28 : Cond.instantiable RX7 7 ∈ GW := gw_t 28 (by decide +kernel) (by decide +kernel)
theorem q29 : Cond.methodLink RL 15 yX7_init ∈ GW := gw_t 29 (by decide +kernel) (by decide +kernel)
theorem q30 : Cond.instanceMethod yX7_init ∈ GW := gw_t 30 (by decide +kernel) (by decide +kernel)
theorem q31 : Cond.code yX7_init cX7_init 1 none ∈ GW := gw_t 31 (by decide +kernel) (by decide +kernel)
theorem q32 : Cond.methodLink RX7 3 Lib.objectInit ∈ GW := gw_t 32 (by decide +kernel) (by decide +kernel)
theorem q33 : Cond.instanceMethod Lib.objectInit ∈ GW := gw_t 33 (by decide +kernel) (by decide +kernel)
theorem q34 : Cond.code Lib.objectInit ⟨#[0xb1]⟩ 1 none ∈ GW := gw_t 34 (by decide +kernel) (by decide +kernel)
theorem q35 : Cond.classLink RX7 9 RX5 ∈ GW := gw_t 35 (by decide +kernel) (by decide +kernel)
theorem q36 : Cond.instantiable RX5 1 ∈ GW := gw_t 36 (by decide +kernel) (by decide +kernel)
theorem q37 : Cond.methodLinkNest RX7 11 yX5_init RX7 ∈ NW := nw_t 37 (by decide +kernel) (by decide +kernel)
theorem q38 : Cond.instanceMethod yX5_init ∈ GW := gw_t 38 (by decide +kernel) (by decide +kernel)
theorem q39 : Cond.code yX5_init cX5_init 1 none ∈ GW := gw_t 39 (by decide +kernel) (by decide +kernel)
theorem q40 : Cond.methodLink RX5 3 Lib.objectInit ∈ GW := gw_t 40 (by decide +kernel) (by decide +kernel)
theorem q41 : Cond.classLink RX5 9 RJx4a65c ∈ GW := gw_t 41 (by decide +kernel) (by decide +kernel)
theorem q42 : Cond.instantiable RJx4a65c 3 ∈ GW := gw_t 42 (by decide +kernel) (by decide +kernel)
theorem q43 : Cond.methodLink RX5 11 yJx4a65c_init_da8c8 ∈ GW := gw_t 43 (by decide +kernel) (by decide +kernel)
theorem q44 : Cond.instanceMethod yJx4a65c_init_da8c8 ∈ GW := gw_t 44 (by decide +kernel) (by decide +kernel)
theorem q45 : Cond.code yJx4a65c_init_da8c8 cJx4a65c_init_da8c8 1 none ∈ GW := gw_t 45 (by decide +kernel) (by decide +kernel)
theorem q46 : Cond.methodLink RJx4a65c 1 yJxc12de_init_da8c8 ∈ GW := gw_t 46 (by decide +kernel) (by decide +kernel)
theorem q47 : Cond.instanceMethod yJxc12de_init_da8c8 ∈ GW := gw_t 47 (by decide +kernel) (by decide +kernel)
theorem q48 : Cond.code yJxc12de_init_da8c8 cJxc12de_init_da8c8 1 none ∈ GW := gw_t 48 (by decide +kernel) (by decide +kernel)
theorem q49 : Cond.methodLink RJxc12de 1 yJxa1e45_init_da8c8 ∈ GW := gw_t 49 (by decide +kernel) (by decide +kernel)
theorem q50 : Cond.instanceMethod yJxa1e45_init_da8c8 ∈ GW := gw_t 50 (by decide +kernel) (by decide +kernel)
theorem q51 : Cond.code yJxa1e45_init_da8c8 cJxa1e45_init_da8c8 1 none ∈ GW := gw_t 51 (by decide +kernel) (by decide +kernel)
theorem q52 : Cond.methodLink RJxa1e45 1 Lib.objectInit ∈ GW := gw_t 52 (by decide +kernel) (by decide +kernel)
theorem q53 : Cond.fieldLink RJx4a65c 39 "java/util/ArrayList" "DEFAULTCAPACITY_EMPTY_ELEMENTDATA" "[Ljava/lang/Object;" ∈ GW := gw_t 53 (by decide +kernel) (by decide +kernel)
theorem q55 : Cond.fieldLink RJx4a65c 9 "java/util/ArrayList" "elementData" "[Ljava/lang/Object;" ∈ GW := gw_t 55 (by decide +kernel) (by decide +kernel)
theorem q56 : Cond.fieldLink RJx4a65c 48 "java/util/ArrayList" "size" "I" ∈ GW := gw_t 56 (by decide +kernel) (by decide +kernel)
theorem q57 : Cond.fieldLink RJxc12de 7 "java/util/AbstractList" "modCount" "I" ∈ GW := gw_t 57 (by decide +kernel) (by decide +kernel)
theorem q58 : Cond.fieldLink RJx4a65c 63 "java/util/ArrayList" "modCount" "I" ∈ GW := gw_t 58 (by decide +kernel) (by decide +kernel)
theorem q59 : Cond.sameField "java/util/ArrayList" "java/util/AbstractList" "modCount" "I" ∈ GW := gw_t 59 (by decide +kernel) (by decide +kernel)
theorem q66 : Cond.superclass RJx4a65c RJxc12de ∈ GW := gw_t 66 (by decide +kernel) (by decide +kernel)
theorem q67 : Cond.fieldLink RX5 12 "TicketChain$TareBook" "told" "Ljava/util/ArrayList;" ∈ GW := gw_t 67 (by decide +kernel) (by decide +kernel)
theorem q70 : Cond.superclass RX5 "java/lang/Object" ∈ GW := gw_t 70 (by decide +kernel) (by decide +kernel)
theorem q71 : Cond.classLink RX7 16 RJx4a65c ∈ GW := gw_t 71 (by decide +kernel) (by decide +kernel)
theorem q72 : Cond.methodLink RX7 18 yJx4a65c_init_da8c8 ∈ GW := gw_t 72 (by decide +kernel) (by decide +kernel)
theorem q73 : Cond.classLink RX7 34 RX0 ∈ GW := gw_t 73 (by decide +kernel) (by decide +kernel)
theorem q74 : Cond.instantiable RX0 3 ∈ GW := gw_t 74 (by decide +kernel) (by decide +kernel)
theorem q75 : Cond.methodLinkNest RX7 36 yX0_init RX7 ∈ NW := nw_t 75 (by decide +kernel) (by decide +kernel)
theorem q76 : Cond.instanceMethod yX0_init ∈ GW := gw_t 76 (by decide +kernel) (by decide +kernel)
theorem q77 : Cond.code yX0_init cX0_init 1 none ∈ GW := gw_t 77 (by decide +kernel) (by decide +kernel)
theorem q78 : Cond.methodLink RX0 3 Lib.objectInit ∈ GW := gw_t 78 (by decide +kernel) (by decide +kernel)
theorem q79 : Cond.classLink RX0 9 RJx4a65c ∈ GW := gw_t 79 (by decide +kernel) (by decide +kernel)
theorem q80 : Cond.methodLink RX0 11 yJx4a65c_init_da8c8 ∈ GW := gw_t 80 (by decide +kernel) (by decide +kernel)
theorem q81 : Cond.classLink RX0 18 RX3 ∈ GW := gw_t 81 (by decide +kernel) (by decide +kernel)
theorem q82 : Cond.instantiable RX3 4 ∈ GW := gw_t 82 (by decide +kernel) (by decide +kernel)
theorem q83 : Cond.methodLinkNest RX0 20 yX3_init RX7 ∈ NW := nw_t 83 (by decide +kernel) (by decide +kernel)
theorem q84 : Cond.instanceMethod yX3_init ∈ GW := gw_t 84 (by decide +kernel) (by decide +kernel)
theorem q85 : Cond.code yX3_init cX3_init 1 none ∈ GW := gw_t 85 (by decide +kernel) (by decide +kernel)
theorem q86 : Cond.methodLink RX3 5 Lib.objectInit ∈ GW := gw_t 86 (by decide +kernel) (by decide +kernel)
theorem q87 : Cond.fieldLink RX3 11 "TicketChain$Sum" "message" "[B" ∈ GW := gw_t 87 (by decide +kernel) (by decide +kernel)
theorem q88 : Cond.fieldLink RX3 15 "TicketChain$Sum" "words" "[I" ∈ GW := gw_t 88 (by decide +kernel) (by decide +kernel)
theorem q89 : Cond.fieldLink RX3 19 "TicketChain$Sum" "state" "[I" ∈ GW := gw_t 89 (by decide +kernel) (by decide +kernel)
theorem q90 : Cond.fieldLink RX3 22 "TicketChain$Sum" "filled" "I" ∈ GW := gw_t 90 (by decide +kernel) (by decide +kernel)
theorem q99 : Cond.superclass RX3 "java/lang/Object" ∈ GW := gw_t 99 (by decide +kernel) (by decide +kernel)
theorem q100 : Cond.arrayClass .int ∈ GW := gw_t 100 (by decide +kernel) (by decide +kernel)
theorem q101 : Cond.arrayClass .byte ∈ GW := gw_t 101 (by decide +kernel) (by decide +kernel)
theorem q102 : Cond.fieldLink RX0 12 "TicketChain$Chain" "rows" "Ljava/util/ArrayList;" ∈ GW := gw_t 102 (by decide +kernel) (by decide +kernel)
theorem q103 : Cond.fieldLink RX0 21 "TicketChain$Chain" "sum" "LTicketChain$Sum;" ∈ GW := gw_t 103 (by decide +kernel) (by decide +kernel)
theorem q104 : Cond.fieldLink RX0 25 "TicketChain$Chain" "level" "[B" ∈ GW := gw_t 104 (by decide +kernel) (by decide +kernel)
theorem q111 : Cond.superclass RX0 "java/lang/Object" ∈ GW := gw_t 111 (by decide +kernel) (by decide +kernel)
theorem q112 : Cond.classLink RX7 41 RX1 ∈ GW := gw_t 112 (by decide +kernel) (by decide +kernel)
theorem q113 : Cond.instantiable RX1 2 ∈ GW := gw_t 113 (by decide +kernel) (by decide +kernel)
theorem q114 : Cond.methodLinkNest RX7 43 yX1_init RX7 ∈ NW := nw_t 114 (by decide +kernel) (by decide +kernel)
theorem q115 : Cond.instanceMethod yX1_init ∈ GW := gw_t 115 (by decide +kernel) (by decide +kernel)
theorem q116 : Cond.code yX1_init cX1_init 1 none ∈ GW := gw_t 116 (by decide +kernel) (by decide +kernel)
theorem q117 : Cond.methodLink RX1 3 Lib.objectInit ∈ GW := gw_t 117 (by decide +kernel) (by decide +kernel)
theorem q118 : Cond.fieldLink RX1 9 "TicketChain$Form" "signs" "[B" ∈ GW := gw_t 118 (by decide +kernel) (by decide +kernel)
theorem q119 : Cond.fieldLink RX1 15 "TicketChain$Form" "length" "I" ∈ GW := gw_t 119 (by decide +kernel) (by decide +kernel)
theorem q124 : Cond.superclass RX1 "java/lang/Object" ∈ GW := gw_t 124 (by decide +kernel) (by decide +kernel)
theorem q125 : Cond.fieldLink RX7 12 "TicketChain" "tares" "LTicketChain$TareBook;" ∈ GW := gw_t 125 (by decide +kernel) (by decide +kernel)
theorem q126 : Cond.fieldLink RX7 19 "TicketChain" "tickets" "Ljava/util/ArrayList;" ∈ GW := gw_t 126 (by decide +kernel) (by decide +kernel)
theorem q127 : Cond.fieldLink RX7 23 "TicketChain" "spoiled" "[I" ∈ GW := gw_t 127 (by decide +kernel) (by decide +kernel)
theorem q128 : Cond.fieldLink RX7 27 "TicketChain" "spoiledCount" "I" ∈ GW := gw_t 128 (by decide +kernel) (by decide +kernel)
theorem q129 : Cond.fieldLink RX7 31 "TicketChain" "numbersUsed" "I" ∈ GW := gw_t 129 (by decide +kernel) (by decide +kernel)
theorem q130 : Cond.fieldLink RX7 37 "TicketChain" "chain" "LTicketChain$Chain;" ∈ GW := gw_t 130 (by decide +kernel) (by decide +kernel)
theorem q131 : Cond.fieldLink RX7 44 "TicketChain" "form" "LTicketChain$Form;" ∈ GW := gw_t 131 (by decide +kernel) (by decide +kernel)
theorem q146 : Cond.superclass RX7 "java/lang/Object" ∈ GW := gw_t 146 (by decide +kernel) (by decide +kernel)
theorem q147 : Cond.methodLink RL 21 yX7_follows ∈ GW := gw_t 147 (by decide +kernel) (by decide +kernel)
theorem q148 : Cond.instanceMethod yX7_follows ∈ GW := gw_t 148 (by decide +kernel) (by decide +kernel)
theorem q149 : Cond.selects RX7 yX7_follows yX7_follows ∈ GW := gw_t 149 (by decide +kernel) (by decide +kernel)
theorem q150 : Cond.code yX7_follows cX7_follows 5 (some .boolean) ∈ GW := gw_t 150 (by decide +kernel) (by decide +kernel)
theorem q151 : Cond.constant RX7 48 (100000) ∈ GW := gw_t 151 (by decide +kernel) (by decide +kernel)
theorem q152 : Cond.methodLink RX7 49 yX7_fits ∈ GW := gw_t 152 (by decide +kernel) (by decide +kernel)
theorem q153 : Cond.static yX7_fits ∈ GW := gw_t 153 (by decide +kernel) (by decide +kernel)
theorem q154 : Cond.code yX7_fits cX7_fits 3 (some .boolean) ∈ GW := gw_t 154 (by decide +kernel) (by decide +kernel)
theorem q155 : Cond.methodLink RX7 174 yX7_greatest ∈ GW := gw_t 155 (by decide +kernel) (by decide +kernel)
theorem q156 : Cond.static yX7_greatest ∈ GW := gw_t 156 (by decide +kernel) (by decide +kernel)
theorem q157 : Cond.code yX7_greatest cX7_greatest 1 (some .long) ∈ GW := gw_t 157 (by decide +kernel) (by decide +kernel)
theorem q158 : Cond.constantLong RX7 177 (99) ∈ GW := gw_t 158 (by decide +kernel) (by decide +kernel)
theorem q159 : Cond.constantLong RX7 179 (9) ∈ GW := gw_t 159 (by decide +kernel) (by decide +kernel)
theorem q160 : Cond.constantLong RX7 181 (1000000000) ∈ GW := gw_t 160 (by decide +kernel) (by decide +kernel)
theorem q161 : Cond.constantLong RX7 183 (8000000000) ∈ GW := gw_t 161 (by decide +kernel) (by decide +kernel)
theorem q162 : Cond.constantLong RX7 185 (999) ∈ GW := gw_t 162 (by decide +kernel) (by decide +kernel)
theorem q163 : Cond.constantLong RX7 57 (-1) ∈ GW := gw_t 163 (by decide +kernel) (by decide +kernel)
theorem q164 : Cond.methodLink RX7 53 yX5_tell ∈ GW := gw_t 164 (by decide +kernel) (by decide +kernel)
theorem q165 : Cond.instanceMethod yX5_tell ∈ GW := gw_t 165 (by decide +kernel) (by decide +kernel)
theorem q166 : Cond.selects RX5 yX5_tell yX5_tell ∈ GW := gw_t 166 (by decide +kernel) (by decide +kernel)
theorem q167 : Cond.code yX5_tell cX5_tell 6 (some .boolean) ∈ GW := gw_t 167 (by decide +kernel) (by decide +kernel)
theorem q168 : Cond.methodLink RX5 18 yX5_lastUpTo ∈ GW := gw_t 168 (by decide +kernel) (by decide +kernel)
theorem q170 : Cond.instanceMethod yX5_lastUpTo ∈ GW := gw_t 170 (by decide +kernel) (by decide +kernel)
theorem q171 : Cond.code yX5_lastUpTo cX5_lastUpTo 6 (some (.object "TicketChain$Tare")) ∈ GW := gw_t 171 (by decide +kernel) (by decide +kernel)
theorem q172 : Cond.methodLink RX5 32 yJx4a65c_size_8abf5 ∈ GW := gw_t 172 (by decide +kernel) (by decide +kernel)
theorem q173 : Cond.instanceMethod yJx4a65c_size_8abf5 ∈ GW := gw_t 173 (by decide +kernel) (by decide +kernel)
theorem q174 : Cond.selects RJx4a65c yJx4a65c_size_8abf5 yJx4a65c_size_8abf5 ∈ GW := gw_t 174 (by decide +kernel) (by decide +kernel)
theorem q175 : Cond.code yJx4a65c_size_8abf5 cJx4a65c_size_8abf5 1 (some .int) ∈ GW := gw_t 175 (by decide +kernel) (by decide +kernel)
theorem q176 : Cond.methodLink RX5 45 yJx4a65c_get_915e3 ∈ GW := gw_t 176 (by decide +kernel) (by decide +kernel)
theorem q177 : Cond.instanceMethod yJx4a65c_get_915e3 ∈ GW := gw_t 177 (by decide +kernel) (by decide +kernel)
theorem q178 : Cond.selects RJx4a65c yJx4a65c_get_915e3 yJx4a65c_get_915e3 ∈ GW := gw_t 178 (by decide +kernel) (by decide +kernel)
theorem q179 : Cond.code yJx4a65c_get_915e3 cJx4a65c_get_915e3 2 (some (.object "java/lang/Object")) ∈ GW := gw_t 179 (by decide +kernel) (by decide +kernel)
theorem q180 : Cond.methodLink RJx4a65c 118 yJ15_checkIndex_7cf53 ∈ GW := gw_t 180 (by decide +kernel) (by decide +kernel)
theorem q181 : Cond.static yJ15_checkIndex_7cf53 ∈ GW := gw_t 181 (by decide +kernel) (by decide +kernel)
theorem q182 : Cond.code yJ15_checkIndex_7cf53 cJ15_checkIndex_7cf53 2 (some .int) ∈ GW := gw_t 182 (by decide +kernel) (by decide +kernel)
theorem q183 : Cond.methodLink RJ15 105 yJ3_checkIndex_8e157 ∈ GW := gw_t 183 (by decide +kernel) (by decide +kernel)
theorem q184 : Cond.static yJ3_checkIndex_8e157 ∈ GW := gw_t 184 (by decide +kernel) (by decide +kernel)
theorem q185 : Cond.code yJ3_checkIndex_8e157 cJ3_checkIndex_8e157 3 (some .int) ∈ GW := gw_t 185 (by decide +kernel) (by decide +kernel)
theorem q186 : Cond.methodLink RJx4a65c 123 yJx4a65c_elementData_915e3 ∈ GW := gw_t 186 (by decide +kernel) (by decide +kernel)
theorem q187 : Cond.instanceMethod yJx4a65c_elementData_915e3 ∈ GW := gw_t 187 (by decide +kernel) (by decide +kernel)
theorem q188 : Cond.selects RJx4a65c yJx4a65c_elementData_915e3 yJx4a65c_elementData_915e3 ∈ GW := gw_t 188 (by decide +kernel) (by decide +kernel)
theorem q189 : Cond.code yJx4a65c_elementData_915e3 cJx4a65c_elementData_915e3 2 (some (.object "java/lang/Object")) ∈ GW := gw_t 189 (by decide +kernel) (by decide +kernel)
theorem q190 : Cond.classLink RX5 23 RX4 ∈ GW := gw_t 190 (by decide +kernel) (by decide +kernel)
theorem q191 : Cond.instantiable RX4 3 ∈ GW := gw_t 191 (by decide +kernel) (by decide +kernel)
theorem q192 : Cond.methodLink RX5 36 yX4_init ∈ GW := gw_t 192 (by decide +kernel) (by decide +kernel)
theorem q193 : Cond.instanceMethod yX4_init ∈ GW := gw_t 193 (by decide +kernel) (by decide +kernel)
theorem q194 : Cond.code yX4_init cX4_init 5 none ∈ GW := gw_t 194 (by decide +kernel) (by decide +kernel)
theorem q195 : Cond.methodLink RX4 1 Lib.objectInit ∈ GW := gw_t 195 (by decide +kernel) (by decide +kernel)
theorem q196 : Cond.fieldLink RX4 7 "TicketChain$Tare" "day" "I" ∈ GW := gw_t 196 (by decide +kernel) (by decide +kernel)
theorem q197 : Cond.fieldLinkNest RX5 22 "TicketChain$Tare" "day" "I" RX7 ∈ NW := nw_t 197 (by decide +kernel) (by decide +kernel)
theorem q198 : Cond.fieldLink RX4 13 "TicketChain$Tare" "vehicle" "I" ∈ GW := gw_t 198 (by decide +kernel) (by decide +kernel)
theorem q199 : Cond.fieldLinkNest RX5 49 "TicketChain$Tare" "vehicle" "I" RX7 ∈ NW := nw_t 199 (by decide +kernel) (by decide +kernel)
theorem q200 : Cond.fieldLink RX4 16 "TicketChain$Tare" "weight" "J" ∈ GW := gw_t 200 (by decide +kernel) (by decide +kernel)
theorem q201 : Cond.fieldLinkNest RX5 28 "TicketChain$Tare" "weight" "J" RX7 ∈ NW := nw_t 201 (by decide +kernel) (by decide +kernel)
theorem q208 : Cond.superclass RX4 "java/lang/Object" ∈ GW := gw_t 208 (by decide +kernel) (by decide +kernel)
theorem q209 : Cond.methodLink RX5 39 yJx4a65c_add_9ea2d ∈ GW := gw_t 209 (by decide +kernel) (by decide +kernel)
theorem q210 : Cond.instanceMethod yJx4a65c_add_9ea2d ∈ GW := gw_t 210 (by decide +kernel) (by decide +kernel)
theorem q211 : Cond.selects RJx4a65c yJx4a65c_add_9ea2d yJx4a65c_add_9ea2d ∈ GW := gw_t 211 (by decide +kernel) (by decide +kernel)
theorem q212 : Cond.code yJx4a65c_add_9ea2d cJx4a65c_add_9ea2d 2 (some .boolean) ∈ GW := gw_t 212 (by decide +kernel) (by decide +kernel)
theorem q213 : Cond.methodLink RJx4a65c 131 yJx4a65c_add_72be8 ∈ GW := gw_t 213 (by decide +kernel) (by decide +kernel)
theorem q215 : Cond.instanceMethod yJx4a65c_add_72be8 ∈ GW := gw_t 215 (by decide +kernel) (by decide +kernel)
theorem q216 : Cond.code yJx4a65c_add_72be8 cJx4a65c_add_72be8 4 none ∈ GW := gw_t 216 (by decide +kernel) (by decide +kernel)
theorem q217 : Cond.methodLink RJx4a65c 129 yJx4a65c_grow_d5877 ∈ GW := gw_t 217 (by decide +kernel) (by decide +kernel)
theorem q219 : Cond.instanceMethod yJx4a65c_grow_d5877 ∈ GW := gw_t 219 (by decide +kernel) (by decide +kernel)
theorem q220 : Cond.code yJx4a65c_grow_d5877 cJx4a65c_grow_d5877 1 (some (.array (.object "java/lang/Object"))) ∈ GW := gw_t 220 (by decide +kernel) (by decide +kernel)
theorem q221 : Cond.methodLink RJx4a65c 69 yJx4a65c_grow_92f84 ∈ GW := gw_t 221 (by decide +kernel) (by decide +kernel)
theorem q223 : Cond.instanceMethod yJx4a65c_grow_92f84 ∈ GW := gw_t 223 (by decide +kernel) (by decide +kernel)
theorem q224 : Cond.code yJx4a65c_grow_92f84 cJx4a65c_grow_92f84 4 (some (.array (.object "java/lang/Object"))) ∈ GW := gw_t 224 (by decide +kernel) (by decide +kernel)
theorem q225 : Cond.methodLink RJx4a65c 73 yJ8_newLength_cabcc ∈ GW := gw_t 225 (by decide +kernel) (by decide +kernel)
theorem q226 : Cond.static yJ8_newLength_cabcc ∈ GW := gw_t 226 (by decide +kernel) (by decide +kernel)
theorem q227 : Cond.code yJ8_newLength_cabcc cJ8_newLength_cabcc 4 (some .int) ∈ GW := gw_t 227 (by decide +kernel) (by decide +kernel)
theorem q228 : Cond.methodLink RJ8 194 Lib.Math.max.name ∈ GW := gw_t 228 (by decide +kernel) (by decide +kernel)
theorem q229 : Cond.static Lib.Math.max.name ∈ GW := gw_t 229 (by decide +kernel) (by decide +kernel)
theorem q230 : Cond.code Lib.Math.max.name Lib.Math.max.code 2 (some .int) ∈ GW := gw_t 230 (by decide +kernel) (by decide +kernel)
theorem q231 : Cond.constant RJ8 200 (2147483639) ∈ GW := gw_t 231 (by decide +kernel) (by decide +kernel)
theorem q232 : Cond.methodLink RJ8 201 yJ8_hugeLength_7cf53 ∈ GW := gw_t 232 (by decide +kernel) (by decide +kernel)
theorem q233 : Cond.static yJ8_hugeLength_7cf53 ∈ GW := gw_t 233 (by decide +kernel) (by decide +kernel)
theorem q234 : Cond.code yJ8_hugeLength_7cf53 cJ8_hugeLength_7cf53 3 (some .int) ∈ GW := gw_t 234 (by decide +kernel) (by decide +kernel)
theorem q235 : Cond.methodLink RJx4a65c 66 yJ7_copyOf_1904c ∈ GW := gw_t 235 (by decide +kernel) (by decide +kernel)
theorem q236 : Cond.static yJ7_copyOf_1904c ∈ GW := gw_t 236 (by decide +kernel) (by decide +kernel)
theorem q237 : Cond.code yJ7_copyOf_1904c cJ7_copyOf_1904c 2 (some (.array (.object "java/lang/Object"))) ∈ GW := gw_t 237 (by decide +kernel) (by decide +kernel)
theorem q238 : Cond.methodLink RJ7 86 ⟨"java/lang/Object", "getClass", "()Ljava/lang/Class;"⟩ ∈ GW := gw_t 238 (by decide +kernel) (by decide +kernel)
theorem q239 : Cond.instanceMethod ⟨"java/lang/Object", "getClass", "()Ljava/lang/Class;"⟩ ∈ GW := gw_t 239 (by decide +kernel) (by decide +kernel)
theorem q240 : Cond.sameMethod "java/lang/Object" "java/lang/Object" "getClass" "()Ljava/lang/Class;" ∈ GW := gw_t 240 (by decide +kernel) (by decide +kernel)
theorem q241 : Cond.selects RX7 ⟨"java/lang/Object", "getClass", "()Ljava/lang/Class;"⟩ ⟨"java/lang/Object", "getClass", "()Ljava/lang/Class;"⟩ ∈ GW := gw_t 241 (by decide +kernel) (by decide +kernel)
theorem q242 : Cond.selects RX0 ⟨"java/lang/Object", "getClass", "()Ljava/lang/Class;"⟩ ⟨"java/lang/Object", "getClass", "()Ljava/lang/Class;"⟩ ∈ GW := gw_t 242 (by decide +kernel) (by decide +kernel)
theorem q243 : Cond.selects RX1 ⟨"java/lang/Object", "getClass", "()Ljava/lang/Class;"⟩ ⟨"java/lang/Object", "getClass", "()Ljava/lang/Class;"⟩ ∈ GW := gw_t 243 (by decide +kernel) (by decide +kernel)
theorem q244 : Cond.selects RX2 ⟨"java/lang/Object", "getClass", "()Ljava/lang/Class;"⟩ ⟨"java/lang/Object", "getClass", "()Ljava/lang/Class;"⟩ ∈ GW := gw_t 244 (by decide +kernel) (by decide +kernel)
theorem q245 : Cond.selects RX3 ⟨"java/lang/Object", "getClass", "()Ljava/lang/Class;"⟩ ⟨"java/lang/Object", "getClass", "()Ljava/lang/Class;"⟩ ∈ GW := gw_t 245 (by decide +kernel) (by decide +kernel)
theorem q246 : Cond.selects RX4 ⟨"java/lang/Object", "getClass", "()Ljava/lang/Class;"⟩ ⟨"java/lang/Object", "getClass", "()Ljava/lang/Class;"⟩ ∈ GW := gw_t 246 (by decide +kernel) (by decide +kernel)
theorem q247 : Cond.selects RX5 ⟨"java/lang/Object", "getClass", "()Ljava/lang/Class;"⟩ ⟨"java/lang/Object", "getClass", "()Ljava/lang/Class;"⟩ ∈ GW := gw_t 247 (by decide +kernel) (by decide +kernel)
theorem q248 : Cond.selects RX6 ⟨"java/lang/Object", "getClass", "()Ljava/lang/Class;"⟩ ⟨"java/lang/Object", "getClass", "()Ljava/lang/Class;"⟩ ∈ GW := gw_t 248 (by decide +kernel) (by decide +kernel)
theorem q249 : Cond.selects RX8 ⟨"java/lang/Object", "getClass", "()Ljava/lang/Class;"⟩ ⟨"java/lang/Object", "getClass", "()Ljava/lang/Class;"⟩ ∈ GW := gw_t 249 (by decide +kernel) (by decide +kernel)
theorem q250 : Cond.selects RJx00060 ⟨"java/lang/Object", "getClass", "()Ljava/lang/Class;"⟩ ⟨"java/lang/Object", "getClass", "()Ljava/lang/Class;"⟩ ∈ GW := gw_t 250 (by decide +kernel) (by decide +kernel)
theorem q251 : Cond.selects RJx4a65c ⟨"java/lang/Object", "getClass", "()Ljava/lang/Class;"⟩ ⟨"java/lang/Object", "getClass", "()Ljava/lang/Class;"⟩ ∈ GW := gw_t 251 (by decide +kernel) (by decide +kernel)
theorem q252 : Cond.native ⟨"java/lang/Object", "getClass", "()Ljava/lang/Class;"⟩ ∈ GW := gw_t 252 (by decide +kernel) (by decide +kernel)
theorem q253 : Cond.methodLink RJ7 300 yJ7_copyOf_6403c ∈ GW := gw_t 253 (by decide +kernel) (by decide +kernel)
theorem q254 : Cond.static yJ7_copyOf_6403c ∈ GW := gw_t 254 (by decide +kernel) (by decide +kernel)
theorem q255 : Cond.code yJ7_copyOf_6403c cJ7_copyOf_6403c 4 (some (.array (.object "java/lang/Object"))) ∈ GW := gw_t 255 (by decide +kernel) (by decide +kernel)
theorem q256 : Cond.classLink RJ7 110 "[Ljava/lang/Object;" ∈ GW := gw_t 256 (by decide +kernel) (by decide +kernel)
theorem q258 : Cond.classLink RJ7 2 "java/lang/Object" ∈ GW := gw_t 258 (by decide +kernel) (by decide +kernel)
theorem q259 : Cond.methodLink RJ7 304 Lib.Math.min.name ∈ GW := gw_t 259 (by decide +kernel) (by decide +kernel)
theorem q260 : Cond.static Lib.Math.min.name ∈ GW := gw_t 260 (by decide +kernel) (by decide +kernel)
theorem q261 : Cond.code Lib.Math.min.name Lib.Math.min.code 2 (some .int) ∈ GW := gw_t 261 (by decide +kernel) (by decide +kernel)
theorem q262 : Cond.methodLink RJ7 150 arraycopyName ∈ GW := gw_t 262 (by decide +kernel) (by decide +kernel)
theorem q263 : Cond.static arraycopyName ∈ GW := gw_t 263 (by decide +kernel) (by decide +kernel)
theorem q264 : Cond.native arraycopyName ∈ GW := gw_t 264 (by decide +kernel) (by decide +kernel)
theorem q265 : Cond.methodLink RJx4a65c 79 Lib.Math.max.name ∈ GW := gw_t 265 (by decide +kernel) (by decide +kernel)
theorem q266 : Cond.classLink RJx4a65c 7 "java/lang/Object" ∈ GW := gw_t 266 (by decide +kernel) (by decide +kernel)
theorem q267 : Cond.methodLink RL 26 yX7_ticket ∈ GW := gw_t 267 (by decide +kernel) (by decide +kernel)
theorem q268 : Cond.instanceMethod yX7_ticket ∈ GW := gw_t 268 (by decide +kernel) (by decide +kernel)
theorem q269 : Cond.selects RX7 yX7_ticket yX7_ticket ∈ GW := gw_t 269 (by decide +kernel) (by decide +kernel)
theorem q270 : Cond.code yX7_ticket cX7_ticket 13 (some .int) ∈ GW := gw_t 270 (by decide +kernel) (by decide +kernel)
theorem q271 : Cond.methodLink RX7 59 yX7_dayOf ∈ GW := gw_t 271 (by decide +kernel) (by decide +kernel)
theorem q272 : Cond.static yX7_dayOf ∈ GW := gw_t 272 (by decide +kernel) (by decide +kernel)
theorem q273 : Cond.code yX7_dayOf cX7_dayOf 2 (some .int) ∈ GW := gw_t 273 (by decide +kernel) (by decide +kernel)
theorem q274 : Cond.constantLong RX7 187 (86400) ∈ GW := gw_t 274 (by decide +kernel) (by decide +kernel)
theorem q275 : Cond.methodLink RX7 63 yX5_tareOn ∈ GW := gw_t 275 (by decide +kernel) (by decide +kernel)
theorem q276 : Cond.instanceMethod yX5_tareOn ∈ GW := gw_t 276 (by decide +kernel) (by decide +kernel)
theorem q277 : Cond.selects RX5 yX5_tareOn yX5_tareOn ∈ GW := gw_t 277 (by decide +kernel) (by decide +kernel)
theorem q278 : Cond.code yX5_tareOn cX5_tareOn 4 (some .long) ∈ GW := gw_t 278 (by decide +kernel) (by decide +kernel)
theorem q279 : Cond.constantLong RX5 43 (-1) ∈ GW := gw_t 279 (by decide +kernel) (by decide +kernel)
theorem q280 : Cond.methodLink RX7 67 yX0_isFull ∈ GW := gw_t 280 (by decide +kernel) (by decide +kernel)
theorem q281 : Cond.instanceMethod yX0_isFull ∈ GW := gw_t 281 (by decide +kernel) (by decide +kernel)
theorem q282 : Cond.selects RX0 yX0_isFull yX0_isFull ∈ GW := gw_t 282 (by decide +kernel) (by decide +kernel)
theorem q283 : Cond.code yX0_isFull cX0_isFull 1 (some .boolean) ∈ GW := gw_t 283 (by decide +kernel) (by decide +kernel)
theorem q284 : Cond.methodLink RX0 29 yJx4a65c_size_8abf5 ∈ GW := gw_t 284 (by decide +kernel) (by decide +kernel)
theorem q285 : Cond.methodLink RX7 71 yX7_spoilNumber ∈ GW := gw_t 285 (by decide +kernel) (by decide +kernel)
theorem q287 : Cond.instanceMethod yX7_spoilNumber ∈ GW := gw_t 287 (by decide +kernel) (by decide +kernel)
theorem q288 : Cond.code yX7_spoilNumber cX7_spoilNumber 1 (some .int) ∈ GW := gw_t 288 (by decide +kernel) (by decide +kernel)
theorem q289 : Cond.classLink RX7 75 RX6 ∈ GW := gw_t 289 (by decide +kernel) (by decide +kernel)
theorem q290 : Cond.instantiable RX6 2 ∈ GW := gw_t 290 (by decide +kernel) (by decide +kernel)
theorem q291 : Cond.methodLink RX7 77 yX6_init ∈ GW := gw_t 291 (by decide +kernel) (by decide +kernel)
theorem q292 : Cond.instanceMethod yX6_init ∈ GW := gw_t 292 (by decide +kernel) (by decide +kernel)
theorem q293 : Cond.code yX6_init cX6_init 11 none ∈ GW := gw_t 293 (by decide +kernel) (by decide +kernel)
theorem q294 : Cond.methodLink RX6 3 Lib.objectInit ∈ GW := gw_t 294 (by decide +kernel) (by decide +kernel)
theorem q295 : Cond.fieldLink RX6 9 "TicketChain$Ticket" "fields" "[J" ∈ GW := gw_t 295 (by decide +kernel) (by decide +kernel)
theorem q296 : Cond.fieldLink RX6 15 "TicketChain$Ticket" "weights" "[J" ∈ GW := gw_t 296 (by decide +kernel) (by decide +kernel)
theorem q301 : Cond.superclass RX6 "java/lang/Object" ∈ GW := gw_t 301 (by decide +kernel) (by decide +kernel)
theorem q302 : Cond.arrayClass .long ∈ GW := gw_t 302 (by decide +kernel) (by decide +kernel)
theorem q303 : Cond.methodLink RX7 80 yJx4a65c_add_9ea2d ∈ GW := gw_t 303 (by decide +kernel) (by decide +kernel)
theorem q304 : Cond.methodLink RX7 84 yX7_ticketRow ∈ GW := gw_t 304 (by decide +kernel) (by decide +kernel)
theorem q305 : Cond.static yX7_ticketRow ∈ GW := gw_t 305 (by decide +kernel) (by decide +kernel)
theorem q306 : Cond.code yX7_ticketRow cX7_ticketRow 2 (some (.object "TicketChain$Row")) ∈ GW := gw_t 306 (by decide +kernel) (by decide +kernel)
theorem q307 : Cond.classLink RX7 144 RX2 ∈ GW := gw_t 307 (by decide +kernel) (by decide +kernel)
theorem q308 : Cond.instantiable RX2 3 ∈ GW := gw_t 308 (by decide +kernel) (by decide +kernel)
theorem q309 : Cond.methodLink RX7 117 yX6_field ∈ GW := gw_t 309 (by decide +kernel) (by decide +kernel)
theorem q310 : Cond.instanceMethod yX6_field ∈ GW := gw_t 310 (by decide +kernel) (by decide +kernel)
theorem q311 : Cond.selects RX6 yX6_field yX6_field ∈ GW := gw_t 311 (by decide +kernel) (by decide +kernel)
theorem q312 : Cond.code yX6_field cX6_field 2 (some .long) ∈ GW := gw_t 312 (by decide +kernel) (by decide +kernel)
theorem q313 : Cond.constantLong RX6 18 (-1) ∈ GW := gw_t 313 (by decide +kernel) (by decide +kernel)
theorem q314 : Cond.methodLink RX7 189 yX2_init ∈ GW := gw_t 314 (by decide +kernel) (by decide +kernel)
theorem q315 : Cond.instanceMethod yX2_init ∈ GW := gw_t 315 (by decide +kernel) (by decide +kernel)
theorem q316 : Cond.code yX2_init cX2_init 2 none ∈ GW := gw_t 316 (by decide +kernel) (by decide +kernel)
theorem q317 : Cond.methodLink RX2 3 Lib.objectInit ∈ GW := gw_t 317 (by decide +kernel) (by decide +kernel)
theorem q318 : Cond.fieldLink RX2 9 "TicketChain$Row" "bytes" "[B" ∈ GW := gw_t 318 (by decide +kernel) (by decide +kernel)
theorem q319 : Cond.fieldLinkNest RX0 47 "TicketChain$Row" "bytes" "[B" RX7 ∈ NW := nw_t 319 (by decide +kernel) (by decide +kernel)
theorem q320 : Cond.fieldLink RX2 19 "TicketChain$Row" "day" "I" ∈ GW := gw_t 320 (by decide +kernel) (by decide +kernel)
theorem q321 : Cond.fieldLinkNest RX0 82 "TicketChain$Row" "day" "I" RX7 ∈ NW := nw_t 321 (by decide +kernel) (by decide +kernel)
theorem q322 : Cond.fieldLink RX2 15 "TicketChain$Row" "written" "I" ∈ GW := gw_t 322 (by decide +kernel) (by decide +kernel)
theorem q329 : Cond.superclass RX2 "java/lang/Object" ∈ GW := gw_t 329 (by decide +kernel) (by decide +kernel)
theorem q330 : Cond.methodLink RX7 192 yX2_write ∈ GW := gw_t 330 (by decide +kernel) (by decide +kernel)
theorem q331 : Cond.instanceMethod yX2_write ∈ GW := gw_t 331 (by decide +kernel) (by decide +kernel)
theorem q332 : Cond.selects RX2 yX2_write yX2_write ∈ GW := gw_t 332 (by decide +kernel) (by decide +kernel)
theorem q333 : Cond.code yX2_write cX2_write 5 none ∈ GW := gw_t 333 (by decide +kernel) (by decide +kernel)
theorem q334 : Cond.methodLink RX7 88 yX0_append ∈ GW := gw_t 334 (by decide +kernel) (by decide +kernel)
theorem q335 : Cond.instanceMethod yX0_append ∈ GW := gw_t 335 (by decide +kernel) (by decide +kernel)
theorem q336 : Cond.selects RX0 yX0_append yX0_append ∈ GW := gw_t 336 (by decide +kernel) (by decide +kernel)
theorem q337 : Cond.code yX0_append cX0_append 2 (some .int) ∈ GW := gw_t 337 (by decide +kernel) (by decide +kernel)
theorem q338 : Cond.methodLink RX0 39 yX0_find ∈ GW := gw_t 338 (by decide +kernel) (by decide +kernel)
theorem q339 : Cond.instanceMethod yX0_find ∈ GW := gw_t 339 (by decide +kernel) (by decide +kernel)
theorem q340 : Cond.selects RX0 yX0_find yX0_find ∈ GW := gw_t 340 (by decide +kernel) (by decide +kernel)
theorem q341 : Cond.code yX0_find cX0_find 2 (some (.object "TicketChain$Row")) ∈ GW := gw_t 341 (by decide +kernel) (by decide +kernel)
theorem q342 : Cond.methodLink RX0 33 yJx4a65c_get_915e3 ∈ GW := gw_t 342 (by decide +kernel) (by decide +kernel)
theorem q343 : Cond.classLink RX0 37 RX2 ∈ GW := gw_t 343 (by decide +kernel) (by decide +kernel)
theorem q344 : Cond.methodLink RX0 43 yX0_sumRow ∈ GW := gw_t 344 (by decide +kernel) (by decide +kernel)
theorem q346 : Cond.instanceMethod yX0_sumRow ∈ GW := gw_t 346 (by decide +kernel) (by decide +kernel)
theorem q347 : Cond.code yX0_sumRow cX0_sumRow 3 none ∈ GW := gw_t 347 (by decide +kernel) (by decide +kernel)
theorem q348 : Cond.methodLink RX0 70 yX3_start ∈ GW := gw_t 348 (by decide +kernel) (by decide +kernel)
theorem q349 : Cond.instanceMethod yX3_start ∈ GW := gw_t 349 (by decide +kernel) (by decide +kernel)
theorem q350 : Cond.selects RX3 yX3_start yX3_start ∈ GW := gw_t 350 (by decide +kernel) (by decide +kernel)
theorem q351 : Cond.code yX3_start cX3_start 1 none ∈ GW := gw_t 351 (by decide +kernel) (by decide +kernel)
theorem q352 : Cond.methodLink RX0 73 yX3_addZeros ∈ GW := gw_t 352 (by decide +kernel) (by decide +kernel)
theorem q353 : Cond.instanceMethod yX3_addZeros ∈ GW := gw_t 353 (by decide +kernel) (by decide +kernel)
theorem q354 : Cond.selects RX3 yX3_addZeros yX3_addZeros ∈ GW := gw_t 354 (by decide +kernel) (by decide +kernel)
theorem q355 : Cond.code yX3_addZeros cX3_addZeros 3 none ∈ GW := gw_t 355 (by decide +kernel) (by decide +kernel)
theorem q356 : Cond.methodLink RX3 26 yX3_addByte ∈ GW := gw_t 356 (by decide +kernel) (by decide +kernel)
theorem q358 : Cond.instanceMethod yX3_addByte ∈ GW := gw_t 358 (by decide +kernel) (by decide +kernel)
theorem q359 : Cond.code yX3_addByte cX3_addByte 2 none ∈ GW := gw_t 359 (by decide +kernel) (by decide +kernel)
theorem q360 : Cond.methodLink RX0 76 yX3_add ∈ GW := gw_t 360 (by decide +kernel) (by decide +kernel)
theorem q361 : Cond.instanceMethod yX3_add ∈ GW := gw_t 361 (by decide +kernel) (by decide +kernel)
theorem q362 : Cond.selects RX3 yX3_add yX3_add ∈ GW := gw_t 362 (by decide +kernel) (by decide +kernel)
theorem q363 : Cond.code yX3_add cX3_add 6 none ∈ GW := gw_t 363 (by decide +kernel) (by decide +kernel)
theorem q364 : Cond.methodLink RX0 79 yX3_finish ∈ GW := gw_t 364 (by decide +kernel) (by decide +kernel)
theorem q365 : Cond.instanceMethod yX3_finish ∈ GW := gw_t 365 (by decide +kernel) (by decide +kernel)
theorem q366 : Cond.selects RX3 yX3_finish yX3_finish ∈ GW := gw_t 366 (by decide +kernel) (by decide +kernel)
theorem q367 : Cond.code yX3_finish cX3_finish 4 none ∈ GW := gw_t 367 (by decide +kernel) (by decide +kernel)
theorem q368 : Cond.constantLong RX3 30 (8) ∈ GW := gw_t 368 (by decide +kernel) (by decide +kernel)
theorem q369 : Cond.fieldLinkNest RX3 32 "TicketChain" "SQUARE_ROOTS" "[I" RX7 ∈ NW := nw_t 369 (by decide +kernel) (by decide +kernel)
theorem q371 : Cond.methodLink RX3 35 arraycopyName ∈ GW := gw_t 371 (by decide +kernel) (by decide +kernel)
theorem q372 : Cond.methodLink RX3 41 yX3_readWords ∈ GW := gw_t 372 (by decide +kernel) (by decide +kernel)
theorem q374 : Cond.instanceMethod yX3_readWords ∈ GW := gw_t 374 (by decide +kernel) (by decide +kernel)
theorem q375 : Cond.code yX3_readWords cX3_readWords 5 none ∈ GW := gw_t 375 (by decide +kernel) (by decide +kernel)
theorem q376 : Cond.methodLink RX3 51 yX3_lateWord ∈ GW := gw_t 376 (by decide +kernel) (by decide +kernel)
theorem q377 : Cond.static yX3_lateWord ∈ GW := gw_t 377 (by decide +kernel) (by decide +kernel)
theorem q378 : Cond.code yX3_lateWord cX3_lateWord 1 (some .int) ∈ GW := gw_t 378 (by decide +kernel) (by decide +kernel)
theorem q379 : Cond.methodLink RX3 58 yX3_turn ∈ GW := gw_t 379 (by decide +kernel) (by decide +kernel)
theorem q380 : Cond.static yX3_turn ∈ GW := gw_t 380 (by decide +kernel) (by decide +kernel)
theorem q381 : Cond.code yX3_turn cX3_turn 2 (some .int) ∈ GW := gw_t 381 (by decide +kernel) (by decide +kernel)
theorem q382 : Cond.methodLink RX3 55 yX3_earlyWord ∈ GW := gw_t 382 (by decide +kernel) (by decide +kernel)
theorem q383 : Cond.static yX3_earlyWord ∈ GW := gw_t 383 (by decide +kernel) (by decide +kernel)
theorem q384 : Cond.code yX3_earlyWord cX3_earlyWord 1 (some .int) ∈ GW := gw_t 384 (by decide +kernel) (by decide +kernel)
theorem q385 : Cond.methodLink RX3 44 yX3_mixWords ∈ GW := gw_t 385 (by decide +kernel) (by decide +kernel)
theorem q387 : Cond.instanceMethod yX3_mixWords ∈ GW := gw_t 387 (by decide +kernel) (by decide +kernel)
theorem q388 : Cond.code yX3_mixWords cX3_mixWords 12 none ∈ GW := gw_t 388 (by decide +kernel) (by decide +kernel)
theorem q389 : Cond.fieldLinkNest RX3 62 "TicketChain" "CUBE_ROOTS" "[I" RX7 ∈ NW := nw_t 389 (by decide +kernel) (by decide +kernel)
theorem q391 : Cond.methodLink RX0 50 yX3_copyTo ∈ GW := gw_t 391 (by decide +kernel) (by decide +kernel)
theorem q392 : Cond.instanceMethod yX3_copyTo ∈ GW := gw_t 392 (by decide +kernel) (by decide +kernel)
theorem q393 : Cond.selects RX3 yX3_copyTo yX3_copyTo ∈ GW := gw_t 393 (by decide +kernel) (by decide +kernel)
theorem q394 : Cond.code yX3_copyTo cX3_copyTo 5 none ∈ GW := gw_t 394 (by decide +kernel) (by decide +kernel)
theorem q395 : Cond.methodLink RX3 47 yX3_sumByte ∈ GW := gw_t 395 (by decide +kernel) (by decide +kernel)
theorem q397 : Cond.instanceMethod yX3_sumByte ∈ GW := gw_t 397 (by decide +kernel) (by decide +kernel)
theorem q398 : Cond.code yX3_sumByte cX3_sumByte 2 (some .byte) ∈ GW := gw_t 398 (by decide +kernel) (by decide +kernel)
theorem q399 : Cond.methodLink RX0 54 yJx4a65c_add_9ea2d ∈ GW := gw_t 399 (by decide +kernel) (by decide +kernel)
theorem q400 : Cond.methodLink RX7 92 yJx4a65c_size_8abf5 ∈ GW := gw_t 400 (by decide +kernel) (by decide +kernel)
theorem q401 : Cond.methodLink RL 31 yX7_correct ∈ GW := gw_t 401 (by decide +kernel) (by decide +kernel)
theorem q402 : Cond.instanceMethod yX7_correct ∈ GW := gw_t 402 (by decide +kernel) (by decide +kernel)
theorem q403 : Cond.selects RX7 yX7_correct yX7_correct ∈ GW := gw_t 403 (by decide +kernel) (by decide +kernel)
theorem q404 : Cond.code yX7_correct cX7_correct 7 (some .int) ∈ GW := gw_t 404 (by decide +kernel) (by decide +kernel)
theorem q405 : Cond.methodLink RX7 95 yX7_find ∈ GW := gw_t 405 (by decide +kernel) (by decide +kernel)
theorem q407 : Cond.instanceMethod yX7_find ∈ GW := gw_t 407 (by decide +kernel) (by decide +kernel)
theorem q408 : Cond.code yX7_find cX7_find 2 (some (.object "TicketChain$Ticket")) ∈ GW := gw_t 408 (by decide +kernel) (by decide +kernel)
theorem q409 : Cond.methodLink RX7 170 yJx4a65c_get_915e3 ∈ GW := gw_t 409 (by decide +kernel) (by decide +kernel)
theorem q410 : Cond.methodLink RX7 99 yX6_isVoid ∈ GW := gw_t 410 (by decide +kernel) (by decide +kernel)
theorem q411 : Cond.instanceMethod yX6_isVoid ∈ GW := gw_t 411 (by decide +kernel) (by decide +kernel)
theorem q412 : Cond.selects RX6 yX6_isVoid yX6_isVoid ∈ GW := gw_t 412 (by decide +kernel) (by decide +kernel)
theorem q413 : Cond.code yX6_isVoid cX6_isVoid 1 (some .boolean) ∈ GW := gw_t 413 (by decide +kernel) (by decide +kernel)
theorem q414 : Cond.methodLink RX7 102 yX6_keepsNet ∈ GW := gw_t 414 (by decide +kernel) (by decide +kernel)
theorem q415 : Cond.instanceMethod yX6_keepsNet ∈ GW := gw_t 415 (by decide +kernel) (by decide +kernel)
theorem q416 : Cond.selects RX6 yX6_keepsNet yX6_keepsNet ∈ GW := gw_t 416 (by decide +kernel) (by decide +kernel)
theorem q417 : Cond.code yX6_keepsNet cX6_keepsNet 8 (some .boolean) ∈ GW := gw_t 417 (by decide +kernel) (by decide +kernel)
theorem q418 : Cond.methodLink RX7 105 yX6_put ∈ GW := gw_t 418 (by decide +kernel) (by decide +kernel)
theorem q419 : Cond.instanceMethod yX6_put ∈ GW := gw_t 419 (by decide +kernel) (by decide +kernel)
theorem q420 : Cond.selects RX6 yX6_put yX6_put ∈ GW := gw_t 420 (by decide +kernel) (by decide +kernel)
theorem q421 : Cond.code yX6_put cX6_put 4 none ∈ GW := gw_t 421 (by decide +kernel) (by decide +kernel)
theorem q422 : Cond.methodLink RX7 109 yX7_correctionRow ∈ GW := gw_t 422 (by decide +kernel) (by decide +kernel)
theorem q423 : Cond.static yX7_correctionRow ∈ GW := gw_t 423 (by decide +kernel) (by decide +kernel)
theorem q424 : Cond.code yX7_correctionRow cX7_correctionRow 6 (some (.object "TicketChain$Row")) ∈ GW := gw_t 424 (by decide +kernel) (by decide +kernel)
theorem q425 : Cond.constantLong RX7 196 (2) ∈ GW := gw_t 425 (by decide +kernel) (by decide +kernel)
theorem q426 : Cond.methodLink RL 36 yX7_voids ∈ GW := gw_t 426 (by decide +kernel) (by decide +kernel)
theorem q427 : Cond.instanceMethod yX7_voids ∈ GW := gw_t 427 (by decide +kernel) (by decide +kernel)
theorem q428 : Cond.selects RX7 yX7_voids yX7_voids ∈ GW := gw_t 428 (by decide +kernel) (by decide +kernel)
theorem q429 : Cond.code yX7_voids cX7_voids 4 (some .int) ∈ GW := gw_t 429 (by decide +kernel) (by decide +kernel)
theorem q430 : Cond.methodLink RX7 113 yX7_voidRow ∈ GW := gw_t 430 (by decide +kernel) (by decide +kernel)
theorem q431 : Cond.static yX7_voidRow ∈ GW := gw_t 431 (by decide +kernel) (by decide +kernel)
theorem q432 : Cond.code yX7_voidRow cX7_voidRow 3 (some (.object "TicketChain$Row")) ∈ GW := gw_t 432 (by decide +kernel) (by decide +kernel)
theorem q433 : Cond.constantLong RX7 198 (3) ∈ GW := gw_t 433 (by decide +kernel) (by decide +kernel)
theorem q434 : Cond.methodLink RL 40 yX7_at ∈ GW := gw_t 434 (by decide +kernel) (by decide +kernel)
theorem q435 : Cond.instanceMethod yX7_at ∈ GW := gw_t 435 (by decide +kernel) (by decide +kernel)
theorem q436 : Cond.selects RX7 yX7_at yX7_at ∈ GW := gw_t 436 (by decide +kernel) (by decide +kernel)
theorem q437 : Cond.code yX7_at cX7_at 4 (some .long) ∈ GW := gw_t 437 (by decide +kernel) (by decide +kernel)
theorem q438 : Cond.methodLink RL 45 yX7_number ∈ GW := gw_t 438 (by decide +kernel) (by decide +kernel)
theorem q439 : Cond.instanceMethod yX7_number ∈ GW := gw_t 439 (by decide +kernel) (by decide +kernel)
theorem q440 : Cond.selects RX7 yX7_number yX7_number ∈ GW := gw_t 440 (by decide +kernel) (by decide +kernel)
theorem q441 : Cond.code yX7_number cX7_number 3 (some .int) ∈ GW := gw_t 441 (by decide +kernel) (by decide +kernel)
theorem q442 : Cond.methodLink RL 50 yX7_gap ∈ GW := gw_t 442 (by decide +kernel) (by decide +kernel)
theorem q443 : Cond.instanceMethod yX7_gap ∈ GW := gw_t 443 (by decide +kernel) (by decide +kernel)
theorem q444 : Cond.selects RX7 yX7_gap yX7_gap ∈ GW := gw_t 444 (by decide +kernel) (by decide +kernel)
theorem q445 : Cond.code yX7_gap cX7_gap 2 (some .int) ∈ GW := gw_t 445 (by decide +kernel) (by decide +kernel)
theorem q446 : Cond.methodLink RL 54 yX7_rows ∈ GW := gw_t 446 (by decide +kernel) (by decide +kernel)
theorem q447 : Cond.instanceMethod yX7_rows ∈ GW := gw_t 447 (by decide +kernel) (by decide +kernel)
theorem q448 : Cond.selects RX7 yX7_rows yX7_rows ∈ GW := gw_t 448 (by decide +kernel) (by decide +kernel)
theorem q449 : Cond.code yX7_rows cX7_rows 1 (some .int) ∈ GW := gw_t 449 (by decide +kernel) (by decide +kernel)
theorem q450 : Cond.methodLink RX7 121 yX0_count ∈ GW := gw_t 450 (by decide +kernel) (by decide +kernel)
theorem q451 : Cond.instanceMethod yX0_count ∈ GW := gw_t 451 (by decide +kernel) (by decide +kernel)
theorem q452 : Cond.selects RX0 yX0_count yX0_count ∈ GW := gw_t 452 (by decide +kernel) (by decide +kernel)
theorem q453 : Cond.code yX0_count cX0_count 1 (some .int) ∈ GW := gw_t 453 (by decide +kernel) (by decide +kernel)
theorem q454 : Cond.methodLink RL 59 yX7_made ∈ GW := gw_t 454 (by decide +kernel) (by decide +kernel)
theorem q455 : Cond.instanceMethod yX7_made ∈ GW := gw_t 455 (by decide +kernel) (by decide +kernel)
theorem q456 : Cond.selects RX7 yX7_made yX7_made ∈ GW := gw_t 456 (by decide +kernel) (by decide +kernel)
theorem q457 : Cond.code yX7_made cX7_made 1 (some .int) ∈ GW := gw_t 457 (by decide +kernel) (by decide +kernel)
theorem q458 : Cond.methodLink RL 63 yX7_split ∈ GW := gw_t 458 (by decide +kernel) (by decide +kernel)
theorem q459 : Cond.instanceMethod yX7_split ∈ GW := gw_t 459 (by decide +kernel) (by decide +kernel)
theorem q460 : Cond.selects RX7 yX7_split yX7_split ∈ GW := gw_t 460 (by decide +kernel) (by decide +kernel)
theorem q461 : Cond.code yX7_split cX7_split 6 (some .boolean) ∈ GW := gw_t 461 (by decide +kernel) (by decide +kernel)
theorem q462 : Cond.constantLong RX7 124 (1000000) ∈ GW := gw_t 462 (by decide +kernel) (by decide +kernel)
theorem q463 : Cond.methodLink RX7 126 yX6_weigh ∈ GW := gw_t 463 (by decide +kernel) (by decide +kernel)
theorem q464 : Cond.instanceMethod yX6_weigh ∈ GW := gw_t 464 (by decide +kernel) (by decide +kernel)
theorem q465 : Cond.selects RX6 yX6_weigh yX6_weigh ∈ GW := gw_t 465 (by decide +kernel) (by decide +kernel)
theorem q466 : Cond.code yX6_weigh cX6_weigh 4 (some .boolean) ∈ GW := gw_t 466 (by decide +kernel) (by decide +kernel)
theorem q467 : Cond.methodLink RL 67 yX7_share ∈ GW := gw_t 467 (by decide +kernel) (by decide +kernel)
theorem q468 : Cond.instanceMethod yX7_share ∈ GW := gw_t 468 (by decide +kernel) (by decide +kernel)
theorem q469 : Cond.selects RX7 yX7_share yX7_share ∈ GW := gw_t 469 (by decide +kernel) (by decide +kernel)
theorem q470 : Cond.code yX7_share cX7_share 4 (some .long) ∈ GW := gw_t 470 (by decide +kernel) (by decide +kernel)
theorem q471 : Cond.methodLink RX7 129 yX6_shareOf ∈ GW := gw_t 471 (by decide +kernel) (by decide +kernel)
theorem q472 : Cond.instanceMethod yX6_shareOf ∈ GW := gw_t 472 (by decide +kernel) (by decide +kernel)
theorem q473 : Cond.selects RX6 yX6_shareOf yX6_shareOf ∈ GW := gw_t 473 (by decide +kernel) (by decide +kernel)
theorem q474 : Cond.code yX6_shareOf cX6_shareOf 14 (some .long) ∈ GW := gw_t 474 (by decide +kernel) (by decide +kernel)
theorem q475 : Cond.methodLink RX6 20 yX6_totalWeight ∈ GW := gw_t 475 (by decide +kernel) (by decide +kernel)
theorem q477 : Cond.instanceMethod yX6_totalWeight ∈ GW := gw_t 477 (by decide +kernel) (by decide +kernel)
theorem q478 : Cond.code yX6_totalWeight cX6_totalWeight 8 (some .long) ∈ GW := gw_t 478 (by decide +kernel) (by decide +kernel)
theorem q479 : Cond.methodLink RX6 24 yX6_isVoid ∈ GW := gw_t 479 (by decide +kernel) (by decide +kernel)
theorem q480 : Cond.methodLink RL 71 yX7_print ∈ GW := gw_t 480 (by decide +kernel) (by decide +kernel)
theorem q481 : Cond.instanceMethod yX7_print ∈ GW := gw_t 481 (by decide +kernel) (by decide +kernel)
theorem q482 : Cond.selects RX7 yX7_print yX7_print ∈ GW := gw_t 482 (by decide +kernel) (by decide +kernel)
theorem q483 : Cond.code yX7_print cX7_print 4 (some .int) ∈ GW := gw_t 483 (by decide +kernel) (by decide +kernel)
theorem q484 : Cond.methodLink RX7 132 yX1_fill ∈ GW := gw_t 484 (by decide +kernel) (by decide +kernel)
theorem q485 : Cond.instanceMethod yX1_fill ∈ GW := gw_t 485 (by decide +kernel) (by decide +kernel)
theorem q486 : Cond.selects RX1 yX1_fill yX1_fill ∈ GW := gw_t 486 (by decide +kernel) (by decide +kernel)
theorem q487 : Cond.code yX1_fill cX1_fill 3 none ∈ GW := gw_t 487 (by decide +kernel) (by decide +kernel)
theorem q488 : Cond.methodLink RX1 19 yX1_add ∈ GW := gw_t 488 (by decide +kernel) (by decide +kernel)
theorem q490 : Cond.instanceMethod yX1_add ∈ GW := gw_t 490 (by decide +kernel) (by decide +kernel)
theorem q491 : Cond.code yX1_add cX1_add 2 none ∈ GW := gw_t 491 (by decide +kernel) (by decide +kernel)
theorem q492 : Cond.methodLink RX1 23 yX6_field ∈ GW := gw_t 492 (by decide +kernel) (by decide +kernel)
theorem q493 : Cond.methodLink RX1 29 yX1_addDecimals ∈ GW := gw_t 493 (by decide +kernel) (by decide +kernel)
theorem q495 : Cond.instanceMethod yX1_addDecimals ∈ GW := gw_t 495 (by decide +kernel) (by decide +kernel)
theorem q496 : Cond.code yX1_addDecimals cX1_addDecimals 7 none ∈ GW := gw_t 496 (by decide +kernel) (by decide +kernel)
theorem q497 : Cond.constantLong RX1 48 (1000000000) ∈ GW := gw_t 497 (by decide +kernel) (by decide +kernel)
theorem q498 : Cond.constantLong RX1 50 (10) ∈ GW := gw_t 498 (by decide +kernel) (by decide +kernel)
theorem q499 : Cond.methodLink RX1 33 yX6_isVoid ∈ GW := gw_t 499 (by decide +kernel) (by decide +kernel)
theorem q501 : Cond.methodLink RX1 39 yJ0_length_8abf5 ∈ GW := gw_t 501 (by decide +kernel) (by decide +kernel)
theorem q502 : Cond.instanceMethod yJ0_length_8abf5 ∈ GW := gw_t 502 (by decide +kernel) (by decide +kernel)
theorem q503 : Cond.selects RJ0 yJ0_length_8abf5 yJ0_length_8abf5 ∈ GW := gw_t 503 (by decide +kernel) (by decide +kernel)
theorem q504 : Cond.code yJ0_length_8abf5 cJ0_length_8abf5 1 (some .int) ∈ GW := gw_t 504 (by decide +kernel) (by decide +kernel)
theorem q505 : Cond.methodLink RJ0 335 yJ0_coder_7d493 ∈ GW := gw_t 505 (by decide +kernel) (by decide +kernel)
theorem q506 : Cond.instanceMethod yJ0_coder_7d493 ∈ GW := gw_t 506 (by decide +kernel) (by decide +kernel)
theorem q507 : Cond.selects RJ0 yJ0_coder_7d493 yJ0_coder_7d493 ∈ GW := gw_t 507 (by decide +kernel) (by decide +kernel)
theorem q508 : Cond.code yJ0_coder_7d493 cJ0_coder_7d493 1 (some .byte) ∈ GW := gw_t 508 (by decide +kernel) (by decide +kernel)
theorem q509 : Cond.fieldLink RJ0 38 "java/lang/String" "COMPACT_STRINGS" "Z" ∈ GW := gw_t 509 (by decide +kernel) (by decide +kernel)
theorem q511 : Cond.methodLink RX1 44 yJ0_charAt_5068e ∈ GW := gw_t 511 (by decide +kernel) (by decide +kernel)
theorem q512 : Cond.instanceMethod yJ0_charAt_5068e ∈ GW := gw_t 512 (by decide +kernel) (by decide +kernel)
theorem q513 : Cond.selects RJ0 yJ0_charAt_5068e yJ0_charAt_5068e ∈ GW := gw_t 513 (by decide +kernel) (by decide +kernel)
theorem q514 : Cond.code yJ0_charAt_5068e cJ0_charAt_5068e 2 (some .char) ∈ GW := gw_t 514 (by decide +kernel) (by decide +kernel)
theorem q515 : Cond.methodLink RJ0 492 yJ0_isLatin1_aae02 ∈ GW := gw_t 515 (by decide +kernel) (by decide +kernel)
theorem q516 : Cond.instanceMethod yJ0_isLatin1_aae02 ∈ GW := gw_t 516 (by decide +kernel) (by decide +kernel)
theorem q517 : Cond.selects RJ0 yJ0_isLatin1_aae02 yJ0_isLatin1_aae02 ∈ GW := gw_t 517 (by decide +kernel) (by decide +kernel)
theorem q518 : Cond.code yJ0_isLatin1_aae02 cJ0_isLatin1_aae02 1 (some .boolean) ∈ GW := gw_t 518 (by decide +kernel) (by decide +kernel)
theorem q519 : Cond.methodLink RJ0 495 yJ1_charAt_3b067 ∈ GW := gw_t 519 (by decide +kernel) (by decide +kernel)
theorem q520 : Cond.static yJ1_charAt_3b067 ∈ GW := gw_t 520 (by decide +kernel) (by decide +kernel)
theorem q521 : Cond.code yJ1_charAt_3b067 cJ1_charAt_3b067 2 (some .char) ∈ GW := gw_t 521 (by decide +kernel) (by decide +kernel)
theorem q522 : Cond.methodLink RJ1 9 yJ0_checkIndex_df160 ∈ GW := gw_t 522 (by decide +kernel) (by decide +kernel)
theorem q523 : Cond.static yJ0_checkIndex_df160 ∈ GW := gw_t 523 (by decide +kernel) (by decide +kernel)
theorem q524 : Cond.code yJ0_checkIndex_df160 cJ0_checkIndex_df160 2 none ∈ GW := gw_t 524 (by decide +kernel) (by decide +kernel)
theorem q525 : Cond.fieldLink RJ0 1053 "jdk/internal/util/Preconditions" "SIOOBE_FORMATTER" "Ljava/util/function/BiFunction;" ∈ GW := gw_t 525 (by decide +kernel) (by decide +kernel)
theorem q527 : Cond.methodLink RJ0 1059 yJ3_checkIndex_8e157 ∈ GW := gw_t 527 (by decide +kernel) (by decide +kernel)
theorem q528 : Cond.methodLink RJ0 498 yJ2_charAt_3b067 ∈ GW := gw_t 528 (by decide +kernel) (by decide +kernel)
theorem q529 : Cond.static yJ2_charAt_3b067 ∈ GW := gw_t 529 (by decide +kernel) (by decide +kernel)
theorem q530 : Cond.code yJ2_charAt_3b067 cJ2_charAt_3b067 2 (some .char) ∈ GW := gw_t 530 (by decide +kernel) (by decide +kernel)
theorem q531 : Cond.methodLink RJ2 67 yJ2_checkIndex_2214a ∈ GW := gw_t 531 (by decide +kernel) (by decide +kernel)
theorem q532 : Cond.static yJ2_checkIndex_2214a ∈ GW := gw_t 532 (by decide +kernel) (by decide +kernel)
theorem q533 : Cond.code yJ2_checkIndex_2214a cJ2_checkIndex_2214a 2 none ∈ GW := gw_t 533 (by decide +kernel) (by decide +kernel)
theorem q534 : Cond.methodLink RJ2 48 yJ2_length_9d52b ∈ GW := gw_t 534 (by decide +kernel) (by decide +kernel)
theorem q535 : Cond.static yJ2_length_9d52b ∈ GW := gw_t 535 (by decide +kernel) (by decide +kernel)
theorem q536 : Cond.code yJ2_length_9d52b cJ2_length_9d52b 1 (some .int) ∈ GW := gw_t 536 (by decide +kernel) (by decide +kernel)
theorem q537 : Cond.methodLink RJ2 414 yJ0_checkIndex_df160 ∈ GW := gw_t 537 (by decide +kernel) (by decide +kernel)
theorem q538 : Cond.methodLink RJ2 71 yJ2_getChar_3b067 ∈ GW := gw_t 538 (by decide +kernel) (by decide +kernel)
theorem q539 : Cond.static yJ2_getChar_3b067 ∈ GW := gw_t 539 (by decide +kernel) (by decide +kernel)
theorem q540 : Cond.code yJ2_getChar_3b067 cJ2_getChar_3b067 2 (some .char) ∈ GW := gw_t 540 (by decide +kernel) (by decide +kernel)
theorem q541 : Cond.fieldLink RJ2 44 "java/lang/StringUTF16" "$assertionsDisabled" "Z" ∈ GW := gw_t 541 (by decide +kernel) (by decide +kernel)
theorem q543 : Cond.fieldLink RJ2 59 "java/lang/StringUTF16" "HI_BYTE_SHIFT" "I" ∈ GW := gw_t 543 (by decide +kernel) (by decide +kernel)
theorem q545 : Cond.fieldLink RJ2 63 "java/lang/StringUTF16" "LO_BYTE_SHIFT" "I" ∈ GW := gw_t 545 (by decide +kernel) (by decide +kernel)
theorem q547 : Cond.methodLink RX7 136 yX1_sign ∈ GW := gw_t 547 (by decide +kernel) (by decide +kernel)
theorem q548 : Cond.instanceMethod yX1_sign ∈ GW := gw_t 548 (by decide +kernel) (by decide +kernel)
theorem q549 : Cond.selects RX1 yX1_sign yX1_sign ∈ GW := gw_t 549 (by decide +kernel) (by decide +kernel)
theorem q550 : Cond.code yX1_sign cX1_sign 2 (some .int) ∈ GW := gw_t 550 (by decide +kernel) (by decide +kernel)
theorem q551 : Cond.methodLink RL 75 yX7_poke ∈ GW := gw_t 551 (by decide +kernel) (by decide +kernel)
theorem q552 : Cond.instanceMethod yX7_poke ∈ GW := gw_t 552 (by decide +kernel) (by decide +kernel)
theorem q553 : Cond.selects RX7 yX7_poke yX7_poke ∈ GW := gw_t 553 (by decide +kernel) (by decide +kernel)
theorem q554 : Cond.code yX7_poke cX7_poke 5 (some .boolean) ∈ GW := gw_t 554 (by decide +kernel) (by decide +kernel)
theorem q555 : Cond.methodLink RX7 140 yX0_find ∈ GW := gw_t 555 (by decide +kernel) (by decide +kernel)
theorem q556 : Cond.methodLink RX7 143 yX2_change ∈ GW := gw_t 556 (by decide +kernel) (by decide +kernel)
theorem q557 : Cond.instanceMethod yX2_change ∈ GW := gw_t 557 (by decide +kernel) (by decide +kernel)
theorem q558 : Cond.selects RX2 yX2_change yX2_change ∈ GW := gw_t 558 (by decide +kernel) (by decide +kernel)
theorem q559 : Cond.code yX2_change cX2_change 3 (some .boolean) ∈ GW := gw_t 559 (by decide +kernel) (by decide +kernel)
theorem q560 : Cond.methodLink RX2 22 yX2_has ∈ GW := gw_t 560 (by decide +kernel) (by decide +kernel)
theorem q561 : Cond.instanceMethod yX2_has ∈ GW := gw_t 561 (by decide +kernel) (by decide +kernel)
theorem q562 : Cond.selects RX2 yX2_has yX2_has ∈ GW := gw_t 562 (by decide +kernel) (by decide +kernel)
theorem q563 : Cond.code yX2_has cX2_has 2 (some .boolean) ∈ GW := gw_t 563 (by decide +kernel) (by decide +kernel)
theorem q564 : Cond.methodLink RL 89 yX7_digest ∈ GW := gw_t 564 (by decide +kernel) (by decide +kernel)
theorem q565 : Cond.instanceMethod yX7_digest ∈ GW := gw_t 565 (by decide +kernel) (by decide +kernel)
theorem q566 : Cond.selects RX7 yX7_digest yX7_digest ∈ GW := gw_t 566 (by decide +kernel) (by decide +kernel)
theorem q567 : Cond.code yX7_digest cX7_digest 4 (some .int) ∈ GW := gw_t 567 (by decide +kernel) (by decide +kernel)
theorem q568 : Cond.methodLink RX7 160 yX2_value ∈ GW := gw_t 568 (by decide +kernel) (by decide +kernel)
theorem q569 : Cond.instanceMethod yX2_value ∈ GW := gw_t 569 (by decide +kernel) (by decide +kernel)
theorem q570 : Cond.selects RX2 yX2_value yX2_value ∈ GW := gw_t 570 (by decide +kernel) (by decide +kernel)
theorem q571 : Cond.code yX2_value cX2_value 2 (some .int) ∈ GW := gw_t 571 (by decide +kernel) (by decide +kernel)
theorem q572 : Cond.methodLink RL 93 yX7_check ∈ GW := gw_t 572 (by decide +kernel) (by decide +kernel)
theorem q573 : Cond.instanceMethod yX7_check ∈ GW := gw_t 573 (by decide +kernel) (by decide +kernel)
theorem q574 : Cond.selects RX7 yX7_check yX7_check ∈ GW := gw_t 574 (by decide +kernel) (by decide +kernel)
theorem q575 : Cond.code yX7_check cX7_check 3 (some .int) ∈ GW := gw_t 575 (by decide +kernel) (by decide +kernel)
theorem q576 : Cond.methodLink RX7 163 yX0_firstBroken ∈ GW := gw_t 576 (by decide +kernel) (by decide +kernel)
theorem q577 : Cond.instanceMethod yX0_firstBroken ∈ GW := gw_t 577 (by decide +kernel) (by decide +kernel)
theorem q578 : Cond.selects RX0 yX0_firstBroken yX0_firstBroken ∈ GW := gw_t 578 (by decide +kernel) (by decide +kernel)
theorem q579 : Cond.code yX0_firstBroken cX0_firstBroken 4 (some .int) ∈ GW := gw_t 579 (by decide +kernel) (by decide +kernel)
theorem q580 : Cond.methodLink RX0 58 yX3_isAt ∈ GW := gw_t 580 (by decide +kernel) (by decide +kernel)
theorem q581 : Cond.instanceMethod yX3_isAt ∈ GW := gw_t 581 (by decide +kernel) (by decide +kernel)
theorem q582 : Cond.selects RX3 yX3_isAt yX3_isAt ∈ GW := gw_t 582 (by decide +kernel) (by decide +kernel)
theorem q583 : Cond.code yX3_isAt cX3_isAt 5 (some .boolean) ∈ GW := gw_t 583 (by decide +kernel) (by decide +kernel)
theorem q584 : Cond.methodLink RL 97 yX7_root ∈ GW := gw_t 584 (by decide +kernel) (by decide +kernel)
theorem q585 : Cond.instanceMethod yX7_root ∈ GW := gw_t 585 (by decide +kernel) (by decide +kernel)
theorem q586 : Cond.selects RX7 yX7_root yX7_root ∈ GW := gw_t 586 (by decide +kernel) (by decide +kernel)
theorem q587 : Cond.code yX7_root cX7_root 3 (some .int) ∈ GW := gw_t 587 (by decide +kernel) (by decide +kernel)
theorem q588 : Cond.methodLink RX7 166 yX0_rootByte ∈ GW := gw_t 588 (by decide +kernel) (by decide +kernel)
theorem q589 : Cond.instanceMethod yX0_rootByte ∈ GW := gw_t 589 (by decide +kernel) (by decide +kernel)
theorem q590 : Cond.selects RX0 yX0_rootByte yX0_rootByte ∈ GW := gw_t 590 (by decide +kernel) (by decide +kernel)
theorem q591 : Cond.code yX0_rootByte cX0_rootByte 5 (some .int) ∈ GW := gw_t 591 (by decide +kernel) (by decide +kernel)
theorem q592 : Cond.methodLink RX0 62 yX0_gather ∈ GW := gw_t 592 (by decide +kernel) (by decide +kernel)
theorem q594 : Cond.instanceMethod yX0_gather ∈ GW := gw_t 594 (by decide +kernel) (by decide +kernel)
theorem q595 : Cond.code yX0_gather cX0_gather 5 (some .int) ∈ GW := gw_t 595 (by decide +kernel) (by decide +kernel)
theorem q596 : Cond.methodLink RX0 86 arraycopyName ∈ GW := gw_t 596 (by decide +kernel) (by decide +kernel)
theorem q597 : Cond.methodLink RX0 66 yX0_pairUp ∈ GW := gw_t 597 (by decide +kernel) (by decide +kernel)
theorem q599 : Cond.instanceMethod yX0_pairUp ∈ GW := gw_t 599 (by decide +kernel) (by decide +kernel)
theorem q600 : Cond.code yX0_pairUp cX0_pairUp 5 none ∈ GW := gw_t 600 (by decide +kernel) (by decide +kernel)
theorem q601 : Cond.methodLink RL 80 yL_byteAt ∈ GW := gw_t 601 (by decide +kernel) (by decide +kernel)
theorem q602 : Cond.static yL_byteAt ∈ GW := gw_t 602 (by decide +kernel) (by decide +kernel)
theorem q604 : Cond.classLink RL 13 RJx00060 ∈ GW := gw_t 604 (by decide +kernel) (by decide +kernel)
theorem q605 : Cond.instantiable RJx00060 6 ∈ GW := gw_t 605 (by decide +kernel) (by decide +kernel)
theorem q606 : Cond.instanceMethod yJx00060_init_a7421 ∈ GW := gw_t 606 (by decide +kernel) (by decide +kernel)
theorem q607 : Cond.code yJx00060_init_a7421 cJx00060_init_a7421 2 none ∈ GW := gw_t 607 (by decide +kernel) (by decide +kernel)
theorem q608 : Cond.methodLink RJx00060 7 ⟨"java/lang/IndexOutOfBoundsException", "<init>", "(Ljava/lang/String;)V"⟩ ∈ GW := gw_t 608 (by decide +kernel) (by decide +kernel)
theorem q609 : Cond.instanceMethod ⟨"java/lang/IndexOutOfBoundsException", "<init>", "(Ljava/lang/String;)V"⟩ ∈ GW := gw_t 609 (by decide +kernel) (by decide +kernel)
theorem q610 : Cond.code ⟨"java/lang/IndexOutOfBoundsException", "<init>", "(Ljava/lang/String;)V"⟩ prog_17_method_2_code 2 none ∈ GW := gw_t 610 (by decide +kernel) (by decide +kernel)
theorem q611 : Cond.methodLink "java/lang/IndexOutOfBoundsException" 7 ⟨"java/lang/RuntimeException", "<init>", "(Ljava/lang/String;)V"⟩ ∈ GW := gw_t 611 (by decide +kernel) (by decide +kernel)
theorem q612 : Cond.instanceMethod ⟨"java/lang/RuntimeException", "<init>", "(Ljava/lang/String;)V"⟩ ∈ GW := gw_t 612 (by decide +kernel) (by decide +kernel)
theorem q613 : Cond.code ⟨"java/lang/RuntimeException", "<init>", "(Ljava/lang/String;)V"⟩ prog_20_method_2_code 2 none ∈ GW := gw_t 613 (by decide +kernel) (by decide +kernel)
theorem q614 : Cond.methodLink "java/lang/RuntimeException" 7 ⟨"java/lang/Exception", "<init>", "(Ljava/lang/String;)V"⟩ ∈ GW := gw_t 614 (by decide +kernel) (by decide +kernel)
theorem q615 : Cond.instanceMethod ⟨"java/lang/Exception", "<init>", "(Ljava/lang/String;)V"⟩ ∈ GW := gw_t 615 (by decide +kernel) (by decide +kernel)
theorem q616 : Cond.code ⟨"java/lang/Exception", "<init>", "(Ljava/lang/String;)V"⟩ prog_16_method_2_code 2 none ∈ GW := gw_t 616 (by decide +kernel) (by decide +kernel)
theorem q617 : Cond.methodLink "java/lang/Exception" 7 ⟨"java/lang/Throwable", "<init>", "(Ljava/lang/String;)V"⟩ ∈ GW := gw_t 617 (by decide +kernel) (by decide +kernel)
theorem q618 : Cond.instanceMethod ⟨"java/lang/Throwable", "<init>", "(Ljava/lang/String;)V"⟩ ∈ GW := gw_t 618 (by decide +kernel) (by decide +kernel)
theorem q619 : Cond.code ⟨"java/lang/Throwable", "<init>", "(Ljava/lang/String;)V"⟩ prog_25_method_2_code 2 none ∈ GW := gw_t 619 (by decide +kernel) (by decide +kernel)
theorem q620 : Cond.methodLink "java/lang/Throwable" 1 Lib.objectInit ∈ GW := gw_t 620 (by decide +kernel) (by decide +kernel)
theorem q621 : Cond.fieldLink "java/lang/Throwable" 13 "java/lang/Throwable" "UNASSIGNED_STACK" "[Ljava/lang/StackTraceElement;" ∈ GW := gw_t 621 (by decide +kernel) (by decide +kernel)
theorem q623 : Cond.fieldLink "java/lang/Throwable" 20 "java/lang/Throwable" "SUPPRESSED_SENTINEL" "Ljava/util/List;" ∈ GW := gw_t 623 (by decide +kernel) (by decide +kernel)
theorem q625 : Cond.methodLink "java/lang/Throwable" 27 ⟨"java/lang/Throwable", "fillInStackTrace", "()Ljava/lang/Throwable;"⟩ ∈ GW := gw_t 625 (by decide +kernel) (by decide +kernel)
theorem q626 : Cond.instanceMethod ⟨"java/lang/Throwable", "fillInStackTrace", "()Ljava/lang/Throwable;"⟩ ∈ GW := gw_t 626 (by decide +kernel) (by decide +kernel)
theorem q627 : Cond.sameMethod "java/lang/Throwable" "java/lang/Throwable" "fillInStackTrace" "()Ljava/lang/Throwable;" ∈ GW := gw_t 627 (by decide +kernel) (by decide +kernel)
theorem q628 : Cond.selects RJx00060 ⟨"java/lang/Throwable", "fillInStackTrace", "()Ljava/lang/Throwable;"⟩ ⟨"java/lang/Throwable", "fillInStackTrace", "()Ljava/lang/Throwable;"⟩ ∈ GW := gw_t 628 (by decide +kernel) (by decide +kernel)
theorem q630 : Cond.methodLink "java/lang/Throwable" 202 ⟨"java/lang/Throwable", "fillInStackTrace", "(I)Ljava/lang/Throwable;"⟩ ∈ GW := gw_t 630 (by decide +kernel) (by decide +kernel)
theorem q632 : Cond.instanceMethod ⟨"java/lang/Throwable", "fillInStackTrace", "(I)Ljava/lang/Throwable;"⟩ ∈ GW := gw_t 632 (by decide +kernel) (by decide +kernel)
theorem q633 : Cond.instantiable "java/lang/Throwable" 6 ∈ GW := gw_t 633 (by decide +kernel) (by decide +kernel)
theorem q634 : Cond.native ⟨"java/lang/Throwable", "fillInStackTrace", "(I)Ljava/lang/Throwable;"⟩ ∈ GW := gw_t 634 (by decide +kernel) (by decide +kernel)
theorem q635 : Cond.fieldLink "java/lang/Throwable" 198 "java/lang/Throwable" "backtrace" "Ljava/lang/Object;" ∈ GW := gw_t 635 (by decide +kernel) (by decide +kernel)
theorem q636 : Cond.fieldLink "java/lang/Throwable" 31 "java/lang/Throwable" "detailMessage" "Ljava/lang/String;" ∈ GW := gw_t 636 (by decide +kernel) (by decide +kernel)
theorem q637 : Cond.fieldLink "java/lang/Throwable" 7 "java/lang/Throwable" "cause" "Ljava/lang/Throwable;" ∈ GW := gw_t 637 (by decide +kernel) (by decide +kernel)
theorem q638 : Cond.fieldLink "java/lang/Throwable" 17 "java/lang/Throwable" "stackTrace" "[Ljava/lang/StackTraceElement;" ∈ GW := gw_t 638 (by decide +kernel) (by decide +kernel)
theorem q639 : Cond.fieldLink "java/lang/Throwable" 24 "java/lang/Throwable" "suppressedExceptions" "Ljava/util/List;" ∈ GW := gw_t 639 (by decide +kernel) (by decide +kernel)
theorem q652 : Cond.superclass RJx00060 "java/lang/IndexOutOfBoundsException" ∈ GW := gw_t 652 (by decide +kernel) (by decide +kernel)
theorem q653 : Cond.castable RJx00060 RJx00060 ∈ NW := nw_t 653 (by decide +kernel) (by decide +kernel)
theorem q654 : Cond.declares ⟨"java/lang/IndexOutOfBoundsException", "<init>", "()V"⟩ ∈ NW := nw_t 654 (by decide +kernel) (by decide +kernel)
theorem q655 : Cond.declares ⟨"java/lang/IndexOutOfBoundsException", "<init>", "(Ljava/lang/String;)V"⟩ ∈ NW := nw_t 655 (by decide +kernel) (by decide +kernel)
theorem q656 : Cond.declares ⟨"java/lang/RuntimeException", "<init>", "()V"⟩ ∈ NW := nw_t 656 (by decide +kernel) (by decide +kernel)
theorem q657 : Cond.declares ⟨"java/lang/RuntimeException", "<init>", "(Ljava/lang/String;)V"⟩ ∈ NW := nw_t 657 (by decide +kernel) (by decide +kernel)
theorem q658 : Cond.declares ⟨"java/lang/Exception", "<init>", "()V"⟩ ∈ NW := nw_t 658 (by decide +kernel) (by decide +kernel)
theorem q659 : Cond.declares ⟨"java/lang/Exception", "<init>", "(Ljava/lang/String;)V"⟩ ∈ NW := nw_t 659 (by decide +kernel) (by decide +kernel)
theorem q660 : Cond.declares ⟨"java/lang/Throwable", "<init>", "()V"⟩ ∈ NW := nw_t 660 (by decide +kernel) (by decide +kernel)
theorem q661 : Cond.declares ⟨"java/lang/Throwable", "<init>", "(Ljava/lang/String;)V"⟩ ∈ NW := nw_t 661 (by decide +kernel) (by decide +kernel)
theorem q662 : Cond.selects RJx00060 ⟨"java/lang/Throwable", "fillInStackTrace", "(I)Ljava/lang/Throwable;"⟩ ⟨"java/lang/Throwable", "fillInStackTrace", "(I)Ljava/lang/Throwable;"⟩ ∈ GW := gw_t 662 (by decide +kernel) (by decide +kernel)
theorem q668 : Cond.fieldLink "java/lang/Throwable" 198 "java/lang/Throwable" "backtrace" "Ljava/lang/Object;" ∈ GW := gw_t 668 (by decide +kernel) (by decide +kernel)
theorem q669 : Cond.superclass "java/lang/Throwable" "java/lang/Object" ∈ GW := gw_t 669 (by decide +kernel) (by decide +kernel)
theorem q670 : Cond.instanceMethod ⟨"java/lang/Throwable", "<init>", "()V"⟩ ∈ GW := gw_t 670 (by decide +kernel) (by decide +kernel)
theorem q671 : Cond.code ⟨"java/lang/Throwable", "<init>", "()V"⟩ prog_25_method_1_code 1 none ∈ GW := gw_t 671 (by decide +kernel) (by decide +kernel)
theorem q672 : Cond.instantiable RJ0 4 ∈ GW := gw_t 672 (by decide +kernel) (by decide +kernel)
theorem q677 : Cond.methodLink RL 7 yX7_byteAt ∈ GW := gw_t 677 (by decide +kernel) (by decide +kernel)
theorem q678 : Cond.instanceMethod yX7_byteAt ∈ GW := gw_t 678 (by decide +kernel) (by decide +kernel)
theorem q679 : Cond.selects RX7 yX7_byteAt yX7_byteAt ∈ GW := gw_t 679 (by decide +kernel) (by decide +kernel)
theorem q680 : Cond.code yX7_byteAt cX7_byteAt 4 (some .int) ∈ GW := gw_t 680 (by decide +kernel) (by decide +kernel)
theorem q681 : Cond.methodLink RX7 149 yX2_has ∈ GW := gw_t 681 (by decide +kernel) (by decide +kernel)
theorem q682 : Cond.classLink RX7 153 RJx00060 ∈ GW := gw_t 682 (by decide +kernel) (by decide +kernel)
theorem q684 : Cond.methodLink RX7 157 yJx00060_init_a7421 ∈ GW := gw_t 684 (by decide +kernel) (by decide +kernel)
theorem q685 : Cond.classLink RL 16 RX8 ∈ GW := gw_t 685 (by decide +kernel) (by decide +kernel)
theorem q686 : Cond.instantiable RX8 25 ∈ GW := gw_t 686 (by decide +kernel) (by decide +kernel)
theorem q687 : Cond.methodLink RL 18 yX8_init ∈ GW := gw_t 687 (by decide +kernel) (by decide +kernel)
theorem q688 : Cond.instanceMethod yX8_init ∈ GW := gw_t 688 (by decide +kernel) (by decide +kernel)
theorem q689 : Cond.code yX8_init cX8_init 5 none ∈ GW := gw_t 689 (by decide +kernel) (by decide +kernel)
theorem q690 : Cond.methodLink RX8 1 Lib.objectInit ∈ GW := gw_t 690 (by decide +kernel) (by decide +kernel)
theorem q691 : Cond.methodLink RX8 63 yX8_rootOf ∈ GW := gw_t 691 (by decide +kernel) (by decide +kernel)
theorem q692 : Cond.static yX8_rootOf ∈ GW := gw_t 692 (by decide +kernel) (by decide +kernel)
theorem q693 : Cond.code yX8_rootOf cX8_rootOf 8 (some .int) ∈ GW := gw_t 693 (by decide +kernel) (by decide +kernel)
theorem q694 : Cond.constantLong RX8 75 (68719476736) ∈ GW := gw_t 694 (by decide +kernel) (by decide +kernel)
theorem q695 : Cond.constantLong RX8 73 (2) ∈ GW := gw_t 695 (by decide +kernel) (by decide +kernel)
theorem q696 : Cond.methodLink RX8 77 yX8_isAtMost ∈ GW := gw_t 696 (by decide +kernel) (by decide +kernel)
theorem q697 : Cond.static yX8_isAtMost ∈ GW := gw_t 697 (by decide +kernel) (by decide +kernel)
theorem q698 : Cond.code yX8_isAtMost cX8_isAtMost 24 (some .boolean) ∈ GW := gw_t 698 (by decide +kernel) (by decide +kernel)
theorem q699 : Cond.constantLong RX8 71 (262143) ∈ GW := gw_t 699 (by decide +kernel) (by decide +kernel)
theorem q700 : Cond.fieldLink RX8 7 "TicketChainModel" "cubes" "[I" ∈ GW := gw_t 700 (by decide +kernel) (by decide +kernel)
theorem q701 : Cond.fieldLink RX8 13 "TicketChainModel" "squares" "[I" ∈ GW := gw_t 701 (by decide +kernel) (by decide +kernel)
theorem q702 : Cond.fieldLink RX8 16 "TicketChainModel" "toldDay" "[I" ∈ GW := gw_t 702 (by decide +kernel) (by decide +kernel)
theorem q703 : Cond.fieldLink RX8 19 "TicketChainModel" "toldVehicle" "[I" ∈ GW := gw_t 703 (by decide +kernel) (by decide +kernel)
theorem q704 : Cond.fieldLink RX8 22 "TicketChainModel" "toldTare" "[I" ∈ GW := gw_t 704 (by decide +kernel) (by decide +kernel)
theorem q705 : Cond.fieldLink RX8 133 "TicketChainModel" "toldCount" "I" ∈ GW := gw_t 705 (by decide +kernel) (by decide +kernel)
theorem q706 : Cond.fieldLink RX8 25 "TicketChainModel" "fields" "[J" ∈ GW := gw_t 706 (by decide +kernel) (by decide +kernel)
theorem q707 : Cond.fieldLink RX8 29 "TicketChainModel" "weights" "[I" ∈ GW := gw_t 707 (by decide +kernel) (by decide +kernel)
theorem q708 : Cond.fieldLink RX8 112 "TicketChainModel" "tickets" "I" ∈ GW := gw_t 708 (by decide +kernel) (by decide +kernel)
theorem q709 : Cond.fieldLink RX8 146 "TicketChainModel" "numbers" "I" ∈ GW := gw_t 709 (by decide +kernel) (by decide +kernel)
theorem q710 : Cond.fieldLink RX8 32 "TicketChainModel" "gaps" "[I" ∈ GW := gw_t 710 (by decide +kernel) (by decide +kernel)
theorem q711 : Cond.fieldLink RX8 149 "TicketChainModel" "gapCount" "I" ∈ GW := gw_t 711 (by decide +kernel) (by decide +kernel)
theorem q712 : Cond.fieldLink RX8 35 "TicketChainModel" "bytes" "[B" ∈ GW := gw_t 712 (by decide +kernel) (by decide +kernel)
theorem q713 : Cond.fieldLink RX8 39 "TicketChainModel" "rowDay" "[I" ∈ GW := gw_t 713 (by decide +kernel) (by decide +kernel)
theorem q714 : Cond.fieldLink RX8 98 "TicketChainModel" "rowCount" "I" ∈ GW := gw_t 714 (by decide +kernel) (by decide +kernel)
theorem q715 : Cond.fieldLink RX8 67 "TicketChainModel" "fault" "I" ∈ GW := gw_t 715 (by decide +kernel) (by decide +kernel)
theorem q716 : Cond.fieldLink RX8 42 "TicketChainModel" "row" "[B" ∈ GW := gw_t 716 (by decide +kernel) (by decide +kernel)
theorem q717 : Cond.fieldLink RX8 81 "TicketChainModel" "rowSize" "I" ∈ GW := gw_t 717 (by decide +kernel) (by decide +kernel)
theorem q718 : Cond.fieldLink RX8 45 "TicketChainModel" "result" "[B" ∈ GW := gw_t 718 (by decide +kernel) (by decide +kernel)
theorem q719 : Cond.fieldLink RX8 48 "TicketChainModel" "state" "[I" ∈ GW := gw_t 719 (by decide +kernel) (by decide +kernel)
theorem q720 : Cond.fieldLink RX8 51 "TicketChainModel" "now" "[I" ∈ GW := gw_t 720 (by decide +kernel) (by decide +kernel)
theorem q721 : Cond.fieldLink RX8 54 "TicketChainModel" "words" "[I" ∈ GW := gw_t 721 (by decide +kernel) (by decide +kernel)
theorem q722 : Cond.fieldLink RX8 57 "TicketChainModel" "level" "[B" ∈ GW := gw_t 722 (by decide +kernel) (by decide +kernel)
theorem q723 : Cond.fieldLink RX8 60 "TicketChainModel" "form" "[B" ∈ GW := gw_t 723 (by decide +kernel) (by decide +kernel)
theorem q724 : Cond.fieldLink RX8 173 "TicketChainModel" "formSize" "I" ∈ GW := gw_t 724 (by decide +kernel) (by decide +kernel)
theorem q775 : Cond.superclass RX8 "java/lang/Object" ∈ GW := gw_t 775 (by decide +kernel) (by decide +kernel)
theorem q776 : Cond.methodLink RL 86 yX8_thrown ∈ GW := gw_t 776 (by decide +kernel) (by decide +kernel)
theorem q777 : Cond.instanceMethod yX8_thrown ∈ GW := gw_t 777 (by decide +kernel) (by decide +kernel)
theorem q778 : Cond.selects RX8 yX8_thrown yX8_thrown ∈ GW := gw_t 778 (by decide +kernel) (by decide +kernel)
theorem q779 : Cond.code yX8_thrown cX8_thrown 1 (some .int) ∈ GW := gw_t 779 (by decide +kernel) (by decide +kernel)
theorem q780 : Cond.methodLink RL 25 yX8_follows ∈ GW := gw_t 780 (by decide +kernel) (by decide +kernel)
theorem q781 : Cond.instanceMethod yX8_follows ∈ GW := gw_t 781 (by decide +kernel) (by decide +kernel)
theorem q782 : Cond.selects RX8 yX8_follows yX8_follows ∈ GW := gw_t 782 (by decide +kernel) (by decide +kernel)
theorem q783 : Cond.code yX8_follows cX8_follows 6 (some .boolean) ∈ GW := gw_t 783 (by decide +kernel) (by decide +kernel)
theorem q784 : Cond.constantLong RX8 131 (100000) ∈ GW := gw_t 784 (by decide +kernel) (by decide +kernel)
theorem q785 : Cond.methodLink RX8 119 yX8_isIn ∈ GW := gw_t 785 (by decide +kernel) (by decide +kernel)
theorem q786 : Cond.static yX8_isIn ∈ GW := gw_t 786 (by decide +kernel) (by decide +kernel)
theorem q787 : Cond.code yX8_isIn cX8_isIn 4 (some .boolean) ∈ GW := gw_t 787 (by decide +kernel) (by decide +kernel)
theorem q788 : Cond.constantLong RX8 117 (99) ∈ GW := gw_t 788 (by decide +kernel) (by decide +kernel)
theorem q789 : Cond.constantLong RX8 125 (1000000000) ∈ GW := gw_t 789 (by decide +kernel) (by decide +kernel)
theorem q790 : Cond.methodLink RL 30 yX8_ticket ∈ GW := gw_t 790 (by decide +kernel) (by decide +kernel)
theorem q791 : Cond.instanceMethod yX8_ticket ∈ GW := gw_t 791 (by decide +kernel) (by decide +kernel)
theorem q792 : Cond.selects RX8 yX8_ticket yX8_ticket ∈ GW := gw_t 792 (by decide +kernel) (by decide +kernel)
theorem q793 : Cond.code yX8_ticket cX8_ticket 15 (some .int) ∈ GW := gw_t 793 (by decide +kernel) (by decide +kernel)
theorem q794 : Cond.methodLink RX8 138 yX8_canBe ∈ GW := gw_t 794 (by decide +kernel) (by decide +kernel)
theorem q795 : Cond.static yX8_canBe ∈ GW := gw_t 795 (by decide +kernel) (by decide +kernel)
theorem q796 : Cond.code yX8_canBe cX8_canBe 3 (some .boolean) ∈ GW := gw_t 796 (by decide +kernel) (by decide +kernel)
theorem q797 : Cond.constantLong RX8 123 (9) ∈ GW := gw_t 797 (by decide +kernel) (by decide +kernel)
theorem q798 : Cond.constantLong RX8 127 (8000000000) ∈ GW := gw_t 798 (by decide +kernel) (by decide +kernel)
theorem q799 : Cond.constantLong RX8 129 (999) ∈ GW := gw_t 799 (by decide +kernel) (by decide +kernel)
theorem q800 : Cond.constantLong RX8 136 (-1) ∈ GW := gw_t 800 (by decide +kernel) (by decide +kernel)
theorem q801 : Cond.methodLink RX8 104 yX8_dayOf ∈ GW := gw_t 801 (by decide +kernel) (by decide +kernel)
theorem q802 : Cond.static yX8_dayOf ∈ GW := gw_t 802 (by decide +kernel) (by decide +kernel)
theorem q803 : Cond.code yX8_dayOf cX8_dayOf 2 (some .int) ∈ GW := gw_t 803 (by decide +kernel) (by decide +kernel)
theorem q804 : Cond.constantLong RX8 115 (86400) ∈ GW := gw_t 804 (by decide +kernel) (by decide +kernel)
theorem q805 : Cond.methodLink RX8 142 yX8_tareOf ∈ GW := gw_t 805 (by decide +kernel) (by decide +kernel)
theorem q807 : Cond.instanceMethod yX8_tareOf ∈ GW := gw_t 807 (by decide +kernel) (by decide +kernel)
theorem q808 : Cond.code yX8_tareOf cX8_tareOf 6 (some .long) ∈ GW := gw_t 808 (by decide +kernel) (by decide +kernel)
theorem q809 : Cond.methodLink RX8 152 yX8_open ∈ GW := gw_t 809 (by decide +kernel) (by decide +kernel)
theorem q811 : Cond.instanceMethod yX8_open ∈ GW := gw_t 811 (by decide +kernel) (by decide +kernel)
theorem q812 : Cond.code yX8_open cX8_open 5 (some .int) ∈ GW := gw_t 812 (by decide +kernel) (by decide +kernel)
theorem q813 : Cond.methodLink RX8 108 yX8_write ∈ GW := gw_t 813 (by decide +kernel) (by decide +kernel)
theorem q815 : Cond.instanceMethod yX8_write ∈ GW := gw_t 815 (by decide +kernel) (by decide +kernel)
theorem q816 : Cond.code yX8_write cX8_write 6 (some .int) ∈ GW := gw_t 816 (by decide +kernel) (by decide +kernel)
theorem q817 : Cond.methodLink RX8 155 yX8_close ∈ GW := gw_t 817 (by decide +kernel) (by decide +kernel)
theorem q819 : Cond.instanceMethod yX8_close ∈ GW := gw_t 819 (by decide +kernel) (by decide +kernel)
theorem q820 : Cond.code yX8_close cX8_close 3 (some .int) ∈ GW := gw_t 820 (by decide +kernel) (by decide +kernel)
theorem q821 : Cond.methodLink RX8 101 yX8_digestOf ∈ GW := gw_t 821 (by decide +kernel) (by decide +kernel)
theorem q823 : Cond.instanceMethod yX8_digestOf ∈ GW := gw_t 823 (by decide +kernel) (by decide +kernel)
theorem q824 : Cond.code yX8_digestOf cX8_digestOf 3 none ∈ GW := gw_t 824 (by decide +kernel) (by decide +kernel)
theorem q825 : Cond.methodLink RX8 84 yX8_lay ∈ GW := gw_t 825 (by decide +kernel) (by decide +kernel)
theorem q827 : Cond.instanceMethod yX8_lay ∈ GW := gw_t 827 (by decide +kernel) (by decide +kernel)
theorem q828 : Cond.code yX8_lay cX8_lay 2 none ∈ GW := gw_t 828 (by decide +kernel) (by decide +kernel)
theorem q829 : Cond.methodLink RX8 95 yX8_reckon ∈ GW := gw_t 829 (by decide +kernel) (by decide +kernel)
theorem q831 : Cond.instanceMethod yX8_reckon ∈ GW := gw_t 831 (by decide +kernel) (by decide +kernel)
theorem q832 : Cond.code yX8_reckon cX8_reckon 3 none ∈ GW := gw_t 832 (by decide +kernel) (by decide +kernel)
theorem q833 : Cond.methodLink RX8 88 yX8_mix ∈ GW := gw_t 833 (by decide +kernel) (by decide +kernel)
theorem q835 : Cond.instanceMethod yX8_mix ∈ GW := gw_t 835 (by decide +kernel) (by decide +kernel)
theorem q836 : Cond.code yX8_mix cX8_mix 8 none ∈ GW := gw_t 836 (by decide +kernel) (by decide +kernel)
theorem q837 : Cond.methodLink RX8 91 yX8_rot ∈ GW := gw_t 837 (by decide +kernel) (by decide +kernel)
theorem q838 : Cond.static yX8_rot ∈ GW := gw_t 838 (by decide +kernel) (by decide +kernel)
theorem q839 : Cond.code yX8_rot cX8_rot 2 (some .int) ∈ GW := gw_t 839 (by decide +kernel) (by decide +kernel)
theorem q840 : Cond.methodLink RL 35 yX8_correct ∈ GW := gw_t 840 (by decide +kernel) (by decide +kernel)
theorem q841 : Cond.instanceMethod yX8_correct ∈ GW := gw_t 841 (by decide +kernel) (by decide +kernel)
theorem q842 : Cond.selects RX8 yX8_correct yX8_correct ∈ GW := gw_t 842 (by decide +kernel) (by decide +kernel)
theorem q843 : Cond.code yX8_correct cX8_correct 11 (some .int) ∈ GW := gw_t 843 (by decide +kernel) (by decide +kernel)
theorem q844 : Cond.methodLink RX8 159 yX8_isTicket ∈ GW := gw_t 844 (by decide +kernel) (by decide +kernel)
theorem q846 : Cond.instanceMethod yX8_isTicket ∈ GW := gw_t 846 (by decide +kernel) (by decide +kernel)
theorem q847 : Cond.code yX8_isTicket cX8_isTicket 2 (some .boolean) ∈ GW := gw_t 847 (by decide +kernel) (by decide +kernel)
theorem q848 : Cond.methodLink RX8 163 yX8_isVoid ∈ GW := gw_t 848 (by decide +kernel) (by decide +kernel)
theorem q850 : Cond.instanceMethod yX8_isVoid ∈ GW := gw_t 850 (by decide +kernel) (by decide +kernel)
theorem q851 : Cond.code yX8_isVoid cX8_isVoid 2 (some .boolean) ∈ GW := gw_t 851 (by decide +kernel) (by decide +kernel)
theorem q852 : Cond.methodLink RL 39 yX8_voids ∈ GW := gw_t 852 (by decide +kernel) (by decide +kernel)
theorem q853 : Cond.instanceMethod yX8_voids ∈ GW := gw_t 853 (by decide +kernel) (by decide +kernel)
theorem q854 : Cond.selects RX8 yX8_voids yX8_voids ∈ GW := gw_t 854 (by decide +kernel) (by decide +kernel)
theorem q855 : Cond.code yX8_voids cX8_voids 4 (some .int) ∈ GW := gw_t 855 (by decide +kernel) (by decide +kernel)
theorem q856 : Cond.methodLink RL 44 yX8_at ∈ GW := gw_t 856 (by decide +kernel) (by decide +kernel)
theorem q857 : Cond.instanceMethod yX8_at ∈ GW := gw_t 857 (by decide +kernel) (by decide +kernel)
theorem q858 : Cond.selects RX8 yX8_at yX8_at ∈ GW := gw_t 858 (by decide +kernel) (by decide +kernel)
theorem q859 : Cond.code yX8_at cX8_at 3 (some .long) ∈ GW := gw_t 859 (by decide +kernel) (by decide +kernel)
theorem q860 : Cond.methodLink RL 49 yX8_number ∈ GW := gw_t 860 (by decide +kernel) (by decide +kernel)
theorem q861 : Cond.instanceMethod yX8_number ∈ GW := gw_t 861 (by decide +kernel) (by decide +kernel)
theorem q862 : Cond.selects RX8 yX8_number yX8_number ∈ GW := gw_t 862 (by decide +kernel) (by decide +kernel)
theorem q863 : Cond.code yX8_number cX8_number 2 (some .int) ∈ GW := gw_t 863 (by decide +kernel) (by decide +kernel)
theorem q864 : Cond.methodLink RL 53 yX8_gap ∈ GW := gw_t 864 (by decide +kernel) (by decide +kernel)
theorem q865 : Cond.instanceMethod yX8_gap ∈ GW := gw_t 865 (by decide +kernel) (by decide +kernel)
theorem q866 : Cond.selects RX8 yX8_gap yX8_gap ∈ GW := gw_t 866 (by decide +kernel) (by decide +kernel)
theorem q867 : Cond.code yX8_gap cX8_gap 2 (some .int) ∈ GW := gw_t 867 (by decide +kernel) (by decide +kernel)
theorem q868 : Cond.methodLink RL 58 yX8_rows ∈ GW := gw_t 868 (by decide +kernel) (by decide +kernel)
theorem q869 : Cond.instanceMethod yX8_rows ∈ GW := gw_t 869 (by decide +kernel) (by decide +kernel)
theorem q870 : Cond.selects RX8 yX8_rows yX8_rows ∈ GW := gw_t 870 (by decide +kernel) (by decide +kernel)
theorem q871 : Cond.code yX8_rows cX8_rows 1 (some .int) ∈ GW := gw_t 871 (by decide +kernel) (by decide +kernel)
theorem q872 : Cond.methodLink RL 62 yX8_made ∈ GW := gw_t 872 (by decide +kernel) (by decide +kernel)
theorem q873 : Cond.instanceMethod yX8_made ∈ GW := gw_t 873 (by decide +kernel) (by decide +kernel)
theorem q874 : Cond.selects RX8 yX8_made yX8_made ∈ GW := gw_t 874 (by decide +kernel) (by decide +kernel)
theorem q875 : Cond.code yX8_made cX8_made 1 (some .int) ∈ GW := gw_t 875 (by decide +kernel) (by decide +kernel)
theorem q876 : Cond.methodLink RL 66 yX8_split ∈ GW := gw_t 876 (by decide +kernel) (by decide +kernel)
theorem q877 : Cond.instanceMethod yX8_split ∈ GW := gw_t 877 (by decide +kernel) (by decide +kernel)
theorem q878 : Cond.selects RX8 yX8_split yX8_split ∈ GW := gw_t 878 (by decide +kernel) (by decide +kernel)
theorem q879 : Cond.code yX8_split cX8_split 5 (some .boolean) ∈ GW := gw_t 879 (by decide +kernel) (by decide +kernel)
theorem q880 : Cond.constantLong RX8 166 (7) ∈ GW := gw_t 880 (by decide +kernel) (by decide +kernel)
theorem q881 : Cond.constantLong RX8 168 (1000000) ∈ GW := gw_t 881 (by decide +kernel) (by decide +kernel)
theorem q882 : Cond.methodLink RL 70 yX8_share ∈ GW := gw_t 882 (by decide +kernel) (by decide +kernel)
theorem q883 : Cond.instanceMethod yX8_share ∈ GW := gw_t 883 (by decide +kernel) (by decide +kernel)
theorem q884 : Cond.selects RX8 yX8_share yX8_share ∈ GW := gw_t 884 (by decide +kernel) (by decide +kernel)
theorem q885 : Cond.code yX8_share cX8_share 16 (some .long) ∈ GW := gw_t 885 (by decide +kernel) (by decide +kernel)
theorem q886 : Cond.methodLink RX8 170 yX8_at ∈ GW := gw_t 886 (by decide +kernel) (by decide +kernel)
theorem q887 : Cond.methodLink RL 74 yX8_print ∈ GW := gw_t 887 (by decide +kernel) (by decide +kernel)
theorem q888 : Cond.instanceMethod yX8_print ∈ GW := gw_t 888 (by decide +kernel) (by decide +kernel)
theorem q889 : Cond.selects RX8 yX8_print yX8_print ∈ GW := gw_t 889 (by decide +kernel) (by decide +kernel)
theorem q890 : Cond.code yX8_print cX8_print 4 (some .int) ∈ GW := gw_t 890 (by decide +kernel) (by decide +kernel)
theorem q891 : Cond.methodLink RX8 180 yX8_put ∈ GW := gw_t 891 (by decide +kernel) (by decide +kernel)
theorem q893 : Cond.instanceMethod yX8_put ∈ GW := gw_t 893 (by decide +kernel) (by decide +kernel)
theorem q894 : Cond.code yX8_put cX8_put 2 none ∈ GW := gw_t 894 (by decide +kernel) (by decide +kernel)
theorem q895 : Cond.methodLink RX8 183 yX8_putNumber ∈ GW := gw_t 895 (by decide +kernel) (by decide +kernel)
theorem q897 : Cond.instanceMethod yX8_putNumber ∈ GW := gw_t 897 (by decide +kernel) (by decide +kernel)
theorem q898 : Cond.code yX8_putNumber cX8_putNumber 5 none ∈ GW := gw_t 898 (by decide +kernel) (by decide +kernel)
theorem q899 : Cond.constantLong RX8 176 (10) ∈ GW := gw_t 899 (by decide +kernel) (by decide +kernel)
theorem q900 : Cond.constantLong RX8 178 (48) ∈ GW := gw_t 900 (by decide +kernel) (by decide +kernel)
theorem q901 : Cond.methodLink RL 79 yX8_poke ∈ GW := gw_t 901 (by decide +kernel) (by decide +kernel)
theorem q902 : Cond.instanceMethod yX8_poke ∈ GW := gw_t 902 (by decide +kernel) (by decide +kernel)
theorem q903 : Cond.selects RX8 yX8_poke yX8_poke ∈ GW := gw_t 903 (by decide +kernel) (by decide +kernel)
theorem q904 : Cond.code yX8_poke cX8_poke 4 (some .boolean) ∈ GW := gw_t 904 (by decide +kernel) (by decide +kernel)
theorem q905 : Cond.methodLink RX8 187 yX8_isRow ∈ GW := gw_t 905 (by decide +kernel) (by decide +kernel)
theorem q907 : Cond.instanceMethod yX8_isRow ∈ GW := gw_t 907 (by decide +kernel) (by decide +kernel)
theorem q908 : Cond.code yX8_isRow cX8_isRow 2 (some .boolean) ∈ GW := gw_t 908 (by decide +kernel) (by decide +kernel)
theorem q909 : Cond.constantLong RX8 190 (72) ∈ GW := gw_t 909 (by decide +kernel) (by decide +kernel)
theorem q910 : Cond.methodLink RL 85 yX8_byteAt ∈ GW := gw_t 910 (by decide +kernel) (by decide +kernel)
theorem q911 : Cond.instanceMethod yX8_byteAt ∈ GW := gw_t 911 (by decide +kernel) (by decide +kernel)
theorem q912 : Cond.selects RX8 yX8_byteAt yX8_byteAt ∈ GW := gw_t 912 (by decide +kernel) (by decide +kernel)
theorem q913 : Cond.code yX8_byteAt cX8_byteAt 3 (some .int) ∈ GW := gw_t 913 (by decide +kernel) (by decide +kernel)
theorem q914 : Cond.methodLink RL 92 yX8_digest ∈ GW := gw_t 914 (by decide +kernel) (by decide +kernel)
theorem q915 : Cond.instanceMethod yX8_digest ∈ GW := gw_t 915 (by decide +kernel) (by decide +kernel)
theorem q916 : Cond.selects RX8 yX8_digest yX8_digest ∈ GW := gw_t 916 (by decide +kernel) (by decide +kernel)
theorem q917 : Cond.code yX8_digest cX8_digest 3 (some .int) ∈ GW := gw_t 917 (by decide +kernel) (by decide +kernel)
theorem q918 : Cond.constantLong RX8 192 (31) ∈ GW := gw_t 918 (by decide +kernel) (by decide +kernel)
theorem q919 : Cond.methodLink RL 96 yX8_check ∈ GW := gw_t 919 (by decide +kernel) (by decide +kernel)
theorem q920 : Cond.instanceMethod yX8_check ∈ GW := gw_t 920 (by decide +kernel) (by decide +kernel)
theorem q921 : Cond.selects RX8 yX8_check yX8_check ∈ GW := gw_t 921 (by decide +kernel) (by decide +kernel)
theorem q922 : Cond.code yX8_check cX8_check 4 (some .int) ∈ GW := gw_t 922 (by decide +kernel) (by decide +kernel)
theorem q923 : Cond.methodLink RL 100 yX8_root ∈ GW := gw_t 923 (by decide +kernel) (by decide +kernel)
theorem q924 : Cond.instanceMethod yX8_root ∈ GW := gw_t 924 (by decide +kernel) (by decide +kernel)
theorem q925 : Cond.selects RX8 yX8_root yX8_root ∈ GW := gw_t 925 (by decide +kernel) (by decide +kernel)
theorem q926 : Cond.code yX8_root cX8_root 6 (some .int) ∈ GW := gw_t 926 (by decide +kernel) (by decide +kernel)
theorem q927 : Cond.methodLink RX8 194 yX8_pair ∈ GW := gw_t 927 (by decide +kernel) (by decide +kernel)
theorem q929 : Cond.instanceMethod yX8_pair ∈ GW := gw_t 929 (by decide +kernel) (by decide +kernel)
theorem q930 : Cond.code yX8_pair cX8_pair 5 none ∈ GW := gw_t 930 (by decide +kernel) (by decide +kernel)
theorem q931 : Cond.constantLong RL 19 (4294967295) ∈ GW := gw_t 931 (by decide +kernel) (by decide +kernel)
theorem q932 : Cond.sameMethod "java/lang/Throwable" "java/lang/Throwable" "fillInStackTrace" "(I)Ljava/lang/Throwable;" ∈ GW := gw_t 932 (by decide +kernel) (by decide +kernel)
theorem q933 : Cond.castable RX7 "java/lang/Object" ∈ NW := nw_t 933 (by decide +kernel) (by decide +kernel)
theorem q934 : Cond.castable RX5 "java/lang/Object" ∈ NW := nw_t 934 (by decide +kernel) (by decide +kernel)
theorem q935 : Cond.castable RJx4a65c "java/lang/Object" ∈ NW := nw_t 935 (by decide +kernel) (by decide +kernel)
theorem q936 : Cond.castable RX0 "java/lang/Object" ∈ NW := nw_t 936 (by decide +kernel) (by decide +kernel)
theorem q937 : Cond.castable RX3 "java/lang/Object" ∈ NW := nw_t 937 (by decide +kernel) (by decide +kernel)
theorem q938 : Cond.castable RX1 "java/lang/Object" ∈ NW := nw_t 938 (by decide +kernel) (by decide +kernel)
theorem q939 : Cond.castable RX8 "java/lang/Object" ∈ NW := nw_t 939 (by decide +kernel) (by decide +kernel)
theorem q940 : Cond.castable RX4 "java/lang/Object" ∈ NW := nw_t 940 (by decide +kernel) (by decide +kernel)
theorem q941 : Cond.castable RX6 "java/lang/Object" ∈ NW := nw_t 941 (by decide +kernel) (by decide +kernel)
theorem q942 : Cond.castable RX2 "java/lang/Object" ∈ NW := nw_t 942 (by decide +kernel) (by decide +kernel)
theorem q943 : Cond.castable RJx00060 "java/lang/Object" ∈ NW := nw_t 943 (by decide +kernel) (by decide +kernel)
theorem q944 : Cond.castable "java/lang/Throwable" "java/lang/Object" ∈ NW := nw_t 944 (by decide +kernel) (by decide +kernel)
theorem q945 : Cond.castable RJ0 "java/lang/Object" ∈ NW := nw_t 945 (by decide +kernel) (by decide +kernel)
theorem q946 : Cond.sameMethod "[Ljava/lang/Object;" "java/lang/Object" "getClass" "()Ljava/lang/Class;" ∈ GW := gw_t 946 (by decide +kernel) (by decide +kernel)
theorem q947 : Cond.selects "[Ljava/lang/Object;" ⟨"java/lang/Object", "getClass", "()Ljava/lang/Class;"⟩ ⟨"java/lang/Object", "getClass", "()Ljava/lang/Class;"⟩ ∈ GW := gw_t 947 (by decide +kernel) (by decide +kernel)
theorem q948 : Cond.declares ⟨"java/lang/Object", "getClass", "()Ljava/lang/Class;"⟩ ∈ NW := nw_t 948 (by decide +kernel) (by decide +kernel)
theorem q949 : Cond.castable "[I" "java/lang/Object" ∈ NW := nw_t 949 (by decide +kernel) (by decide +kernel)
theorem q950 : Cond.castable "[B" "java/lang/Object" ∈ NW := nw_t 950 (by decide +kernel) (by decide +kernel)
theorem q951 : Cond.castable "[Ljava/lang/Object;" "java/lang/Object" ∈ NW := nw_t 951 (by decide +kernel) (by decide +kernel)
theorem q952 : Cond.castable "[J" "java/lang/Object" ∈ NW := nw_t 952 (by decide +kernel) (by decide +kernel)
theorem q953 : Cond.fieldLink RJ0 9 "java/lang/String" "value" "[B" ∈ GW := gw_t 953 (by decide +kernel) (by decide +kernel)
theorem q954 : Cond.fieldLink RJ0 15 "java/lang/String" "coder" "B" ∈ GW := gw_t 954 (by decide +kernel) (by decide +kernel)
theorem qp0 : Cond.selects RX5 yX5_lastUpTo yX5_lastUpTo ∈ GW := gw_p (q := (yX5_lastUpTo, 1)) 0 (by decide +kernel)
theorem qp1 : Cond.selects RJx4a65c yJx4a65c_add_72be8 yJx4a65c_add_72be8 ∈ GW := gw_p (q := (yJx4a65c_add_72be8, 3)) 1 (by decide +kernel)
theorem qp2 : Cond.selects RJx4a65c yJx4a65c_grow_d5877 yJx4a65c_grow_d5877 ∈ GW := gw_p (q := (yJx4a65c_grow_d5877, 3)) 2 (by decide +kernel)
theorem qp3 : Cond.selects RJx4a65c yJx4a65c_grow_92f84 yJx4a65c_grow_92f84 ∈ GW := gw_p (q := (yJx4a65c_grow_92f84, 3)) 3 (by decide +kernel)
theorem qp4 : Cond.selects RX7 yX7_spoilNumber yX7_spoilNumber ∈ GW := gw_p (q := (yX7_spoilNumber, 7)) 4 (by decide +kernel)
theorem qp5 : Cond.selects RX0 yX0_sumRow yX0_sumRow ∈ GW := gw_p (q := (yX0_sumRow, 3)) 5 (by decide +kernel)
theorem qp6 : Cond.selects RX3 yX3_addByte yX3_addByte ∈ GW := gw_p (q := (yX3_addByte, 4)) 6 (by decide +kernel)
theorem qp7 : Cond.selects RX3 yX3_readWords yX3_readWords ∈ GW := gw_p (q := (yX3_readWords, 4)) 7 (by decide +kernel)
theorem qp8 : Cond.selects RX3 yX3_mixWords yX3_mixWords ∈ GW := gw_p (q := (yX3_mixWords, 4)) 8 (by decide +kernel)
theorem qp9 : Cond.selects RX3 yX3_sumByte yX3_sumByte ∈ GW := gw_p (q := (yX3_sumByte, 4)) 9 (by decide +kernel)
theorem qp10 : Cond.selects RX7 yX7_find yX7_find ∈ GW := gw_p (q := (yX7_find, 7)) 10 (by decide +kernel)
theorem qp11 : Cond.selects RX6 yX6_totalWeight yX6_totalWeight ∈ GW := gw_p (q := (yX6_totalWeight, 2)) 11 (by decide +kernel)
theorem qp12 : Cond.selects RX1 yX1_add yX1_add ∈ GW := gw_p (q := (yX1_add, 2)) 12 (by decide +kernel)
theorem qp13 : Cond.selects RX1 yX1_addDecimals yX1_addDecimals ∈ GW := gw_p (q := (yX1_addDecimals, 2)) 13 (by decide +kernel)
theorem qp14 : Cond.selects RX0 yX0_gather yX0_gather ∈ GW := gw_p (q := (yX0_gather, 3)) 14 (by decide +kernel)
theorem qp15 : Cond.selects RX0 yX0_pairUp yX0_pairUp ∈ GW := gw_p (q := (yX0_pairUp, 3)) 15 (by decide +kernel)
theorem qp17 : Cond.selects RX8 yX8_tareOf yX8_tareOf ∈ GW := gw_p (q := (yX8_tareOf, 25)) 17 (by decide +kernel)
theorem qp18 : Cond.selects RX8 yX8_open yX8_open ∈ GW := gw_p (q := (yX8_open, 25)) 18 (by decide +kernel)
theorem qp19 : Cond.selects RX8 yX8_write yX8_write ∈ GW := gw_p (q := (yX8_write, 25)) 19 (by decide +kernel)
theorem qp20 : Cond.selects RX8 yX8_close yX8_close ∈ GW := gw_p (q := (yX8_close, 25)) 20 (by decide +kernel)
theorem qp21 : Cond.selects RX8 yX8_digestOf yX8_digestOf ∈ GW := gw_p (q := (yX8_digestOf, 25)) 21 (by decide +kernel)
theorem qp22 : Cond.selects RX8 yX8_lay yX8_lay ∈ GW := gw_p (q := (yX8_lay, 25)) 22 (by decide +kernel)
theorem qp23 : Cond.selects RX8 yX8_reckon yX8_reckon ∈ GW := gw_p (q := (yX8_reckon, 25)) 23 (by decide +kernel)
theorem qp24 : Cond.selects RX8 yX8_mix yX8_mix ∈ GW := gw_p (q := (yX8_mix, 25)) 24 (by decide +kernel)
theorem qp25 : Cond.selects RX8 yX8_isTicket yX8_isTicket ∈ GW := gw_p (q := (yX8_isTicket, 25)) 25 (by decide +kernel)
theorem qp26 : Cond.selects RX8 yX8_isVoid yX8_isVoid ∈ GW := gw_p (q := (yX8_isVoid, 25)) 26 (by decide +kernel)
theorem qp27 : Cond.selects RX8 yX8_put yX8_put ∈ GW := gw_p (q := (yX8_put, 25)) 27 (by decide +kernel)
theorem qp28 : Cond.selects RX8 yX8_putNumber yX8_putNumber ∈ GW := gw_p (q := (yX8_putNumber, 25)) 28 (by decide +kernel)
theorem qp29 : Cond.selects RX8 yX8_isRow yX8_isRow ∈ GW := gw_p (q := (yX8_isRow, 25)) 29 (by decide +kernel)
theorem qp30 : Cond.selects RX8 yX8_pair yX8_pair ∈ GW := gw_p (q := (yX8_pair, 25)) 30 (by decide +kernel)
theorem koX0 : KO 0 RX0 TX0 3 tyX0 := ⟨rfl, iwX0, tyX0_ok, nmX0⟩
theorem koX1 : KO 1 RX1 TX1 2 tyX1 := ⟨rfl, iwX1, tyX1_ok, nmX1⟩
theorem koX2 : KO 2 RX2 TX2 3 tyX2 := ⟨rfl, iwX2, tyX2_ok, nmX2⟩
theorem koX3 : KO 3 RX3 TX3 4 tyX3 := ⟨rfl, iwX3, tyX3_ok, nmX3⟩
theorem koX4 : KO 4 RX4 TX4 3 tyX4 := ⟨rfl, iwX4, tyX4_ok, nmX4⟩
theorem koX5 : KO 5 RX5 TX5 1 tyX5 := ⟨rfl, iwX5, tyX5_ok, nmX5⟩
theorem koX6 : KO 6 RX6 TX6 2 tyX6 := ⟨rfl, iwX6, tyX6_ok, nmX6⟩
theorem koX7 : KO 7 RX7 TX7 7 tyX7 := ⟨rfl, iwX7, tyX7_ok, nmX7⟩
theorem koX8 : KO 8 RX8 TX8 25 tyX8 := ⟨rfl, iwX8, tyX8_ok, nmX8⟩
theorem koJx4a65c : KO 9 RJx4a65c TJx4a65c 3 tyJx4a65c := ⟨rfl, iwJx4a65c, tyJx4a65c_ok, nmJx4a65c⟩
end
section
-- decode rows
theorem dX0_init_0 : decode cX0_init 0 = .ok (.aload_n 0, 1) := by decide +kernel
theorem dX0_init_1 : decode cX0_init 1 = .ok (.invokespecial 3, 3) := by decide +kernel
theorem dX0_init_4 : decode cX0_init 4 = .ok (.aload_n 0, 1) := by decide +kernel
theorem dX0_init_5 : decode cX0_init 5 = .ok (.new 9, 3) := by decide +kernel
theorem dX0_init_8 : decode cX0_init 8 = .ok (.dup, 1) := by decide +kernel
theorem dX0_init_9 : decode cX0_init 9 = .ok (.invokespecial 11, 3) := by decide +kernel
theorem dX0_init_12 : decode cX0_init 12 = .ok (.putfield 12, 3) := by decide +kernel
theorem dX0_init_15 : decode cX0_init 15 = .ok (.aload_n 0, 1) := by decide +kernel
theorem dX0_init_16 : decode cX0_init 16 = .ok (.new 18, 3) := by decide +kernel
theorem dX0_init_19 : decode cX0_init 19 = .ok (.dup, 1) := by decide +kernel
theorem dX0_init_20 : decode cX0_init 20 = .ok (.invokespecial 20, 3) := by decide +kernel
theorem dX0_init_23 : decode cX0_init 23 = .ok (.putfield 21, 3) := by decide +kernel
theorem dX0_init_26 : decode cX0_init 26 = .ok (.aload_n 0, 1) := by decide +kernel
theorem dX0_init_27 : decode cX0_init 27 = .ok (.sipush 6400, 3) := by decide +kernel
theorem dX0_init_30 : decode cX0_init 30 = .ok (.newarray .byte, 2) := by decide +kernel
theorem dX0_init_32 : decode cX0_init 32 = .ok (.putfield 25, 3) := by decide +kernel
theorem dX0_init_35 : decode cX0_init 35 = .ok (.return_, 1) := by decide +kernel
theorem dX0_count_0 : decode cX0_count 0 = .ok (.aload_n 0, 1) := by decide +kernel
theorem dX0_count_1 : decode cX0_count 1 = .ok (.getfield 12, 3) := by decide +kernel
theorem dX0_count_4 : decode cX0_count 4 = .ok (.invokevirtual 29, 3) := by decide +kernel
theorem dX0_count_7 : decode cX0_count 7 = .ok (.ireturn, 1) := by decide +kernel
theorem dX0_isFull_0 : decode cX0_isFull 0 = .ok (.aload_n 0, 1) := by decide +kernel
theorem dX0_isFull_1 : decode cX0_isFull 1 = .ok (.getfield 12, 3) := by decide +kernel
theorem dX0_isFull_4 : decode cX0_isFull 4 = .ok (.invokevirtual 29, 3) := by decide +kernel
theorem dX0_isFull_7 : decode cX0_isFull 7 = .ok (.sipush 200, 3) := by decide +kernel
theorem dX0_isFull_10 : decode cX0_isFull 10 = .ok (.if_icmp .lt 7, 3) := by decide +kernel
theorem dX0_isFull_13 : decode cX0_isFull 13 = .ok (.iconst 1, 1) := by decide +kernel
theorem dX0_isFull_14 : decode cX0_isFull 14 = .ok (.goto 4, 3) := by decide +kernel
theorem dX0_isFull_17 : decode cX0_isFull 17 = .ok (.iconst 0, 1) := by decide +kernel
theorem dX0_isFull_18 : decode cX0_isFull 18 = .ok (.ireturn, 1) := by decide +kernel
theorem dX0_find_0 : decode cX0_find 0 = .ok (.iload_n 1, 1) := by decide +kernel
theorem dX0_find_1 : decode cX0_find 1 = .ok (.ifCond .lt 28, 3) := by decide +kernel
theorem dX0_find_4 : decode cX0_find 4 = .ok (.iload_n 1, 1) := by decide +kernel
theorem dX0_find_5 : decode cX0_find 5 = .ok (.aload_n 0, 1) := by decide +kernel
theorem dX0_find_6 : decode cX0_find 6 = .ok (.getfield 12, 3) := by decide +kernel
theorem dX0_find_9 : decode cX0_find 9 = .ok (.invokevirtual 29, 3) := by decide +kernel
theorem dX0_find_12 : decode cX0_find 12 = .ok (.if_icmp .ge 17, 3) := by decide +kernel
theorem dX0_find_15 : decode cX0_find 15 = .ok (.aload_n 0, 1) := by decide +kernel
theorem dX0_find_16 : decode cX0_find 16 = .ok (.getfield 12, 3) := by decide +kernel
theorem dX0_find_19 : decode cX0_find 19 = .ok (.iload_n 1, 1) := by decide +kernel
theorem dX0_find_20 : decode cX0_find 20 = .ok (.invokevirtual 33, 3) := by decide +kernel
theorem dX0_find_23 : decode cX0_find 23 = .ok (.checkcast 37, 3) := by decide +kernel
theorem dX0_find_26 : decode cX0_find 26 = .ok (.goto 4, 3) := by decide +kernel
theorem dX0_find_29 : decode cX0_find 29 = .ok (.aconst_null, 1) := by decide +kernel
theorem dX0_find_30 : decode cX0_find 30 = .ok (.areturn, 1) := by decide +kernel
theorem dX0_append_0 : decode cX0_append 0 = .ok (.aload_n 0, 1) := by decide +kernel
theorem dX0_append_1 : decode cX0_append 1 = .ok (.aload_n 0, 1) := by decide +kernel
theorem dX0_append_2 : decode cX0_append 2 = .ok (.aload_n 0, 1) := by decide +kernel
theorem dX0_append_3 : decode cX0_append 3 = .ok (.getfield 12, 3) := by decide +kernel
theorem dX0_append_6 : decode cX0_append 6 = .ok (.invokevirtual 29, 3) := by decide +kernel
theorem dX0_append_9 : decode cX0_append 9 = .ok (.iconst 1, 1) := by decide +kernel
theorem dX0_append_10 : decode cX0_append 10 = .ok (.isub, 1) := by decide +kernel
theorem dX0_append_11 : decode cX0_append 11 = .ok (.invokevirtual 39, 3) := by decide +kernel
theorem dX0_append_14 : decode cX0_append 14 = .ok (.aload_n 1, 1) := by decide +kernel
theorem dX0_append_15 : decode cX0_append 15 = .ok (.invokevirtual 43, 3) := by decide +kernel
theorem dX0_append_18 : decode cX0_append 18 = .ok (.aload_n 0, 1) := by decide +kernel
theorem dX0_append_19 : decode cX0_append 19 = .ok (.getfield 21, 3) := by decide +kernel
theorem dX0_append_22 : decode cX0_append 22 = .ok (.aload_n 1, 1) := by decide +kernel
theorem dX0_append_23 : decode cX0_append 23 = .ok (.getfield 47, 3) := by decide +kernel
theorem dX0_append_26 : decode cX0_append 26 = .ok (.bipush 41, 2) := by decide +kernel
theorem dX0_append_28 : decode cX0_append 28 = .ok (.invokevirtual 50, 3) := by decide +kernel
theorem dX0_append_31 : decode cX0_append 31 = .ok (.aload_n 0, 1) := by decide +kernel
theorem dX0_append_32 : decode cX0_append 32 = .ok (.getfield 12, 3) := by decide +kernel
theorem dX0_append_35 : decode cX0_append 35 = .ok (.aload_n 1, 1) := by decide +kernel
theorem dX0_append_36 : decode cX0_append 36 = .ok (.invokevirtual 54, 3) := by decide +kernel
theorem dX0_append_39 : decode cX0_append 39 = .ok (.pop, 1) := by decide +kernel
theorem dX0_append_40 : decode cX0_append 40 = .ok (.aload_n 0, 1) := by decide +kernel
theorem dX0_append_41 : decode cX0_append 41 = .ok (.getfield 12, 3) := by decide +kernel
theorem dX0_append_44 : decode cX0_append 44 = .ok (.invokevirtual 29, 3) := by decide +kernel
theorem dX0_append_47 : decode cX0_append 47 = .ok (.iconst 1, 1) := by decide +kernel
theorem dX0_append_48 : decode cX0_append 48 = .ok (.isub, 1) := by decide +kernel
theorem dX0_append_49 : decode cX0_append 49 = .ok (.ireturn, 1) := by decide +kernel
theorem dX0_firstBroken_0 : decode cX0_firstBroken 0 = .ok (.iload_n 1, 1) := by decide +kernel
theorem dX0_firstBroken_1 : decode cX0_firstBroken 1 = .ok (.istore_n 2, 1) := by decide +kernel
theorem dX0_firstBroken_2 : decode cX0_firstBroken 2 = .ok (.iload_n 2, 1) := by decide +kernel
theorem dX0_firstBroken_3 : decode cX0_firstBroken 3 = .ok (.aload_n 0, 1) := by decide +kernel
theorem dX0_firstBroken_4 : decode cX0_firstBroken 4 = .ok (.getfield 12, 3) := by decide +kernel
theorem dX0_firstBroken_7 : decode cX0_firstBroken 7 = .ok (.invokevirtual 29, 3) := by decide +kernel
theorem dX0_firstBroken_10 : decode cX0_firstBroken 10 = .ok (.if_icmp .ge 49, 3) := by decide +kernel
theorem dX0_firstBroken_13 : decode cX0_firstBroken 13 = .ok (.aload_n 0, 1) := by decide +kernel
theorem dX0_firstBroken_14 : decode cX0_firstBroken 14 = .ok (.iload_n 2, 1) := by decide +kernel
theorem dX0_firstBroken_15 : decode cX0_firstBroken 15 = .ok (.invokevirtual 39, 3) := by decide +kernel
theorem dX0_firstBroken_18 : decode cX0_firstBroken 18 = .ok (.astore_n 3, 1) := by decide +kernel
theorem dX0_firstBroken_19 : decode cX0_firstBroken 19 = .ok (.aload_n 3, 1) := by decide +kernel
theorem dX0_firstBroken_20 : decode cX0_firstBroken 20 = .ok (.ifnull 33, 3) := by decide +kernel
theorem dX0_firstBroken_23 : decode cX0_firstBroken 23 = .ok (.aload_n 0, 1) := by decide +kernel
theorem dX0_firstBroken_24 : decode cX0_firstBroken 24 = .ok (.aload_n 0, 1) := by decide +kernel
theorem dX0_firstBroken_25 : decode cX0_firstBroken 25 = .ok (.iload_n 2, 1) := by decide +kernel
theorem dX0_firstBroken_26 : decode cX0_firstBroken 26 = .ok (.iconst 1, 1) := by decide +kernel
theorem dX0_firstBroken_27 : decode cX0_firstBroken 27 = .ok (.isub, 1) := by decide +kernel
theorem dX0_firstBroken_28 : decode cX0_firstBroken 28 = .ok (.invokevirtual 39, 3) := by decide +kernel
theorem dX0_firstBroken_31 : decode cX0_firstBroken 31 = .ok (.aload_n 3, 1) := by decide +kernel
theorem dX0_firstBroken_32 : decode cX0_firstBroken 32 = .ok (.invokevirtual 43, 3) := by decide +kernel
theorem dX0_firstBroken_35 : decode cX0_firstBroken 35 = .ok (.aload_n 0, 1) := by decide +kernel
theorem dX0_firstBroken_36 : decode cX0_firstBroken 36 = .ok (.getfield 21, 3) := by decide +kernel
theorem dX0_firstBroken_39 : decode cX0_firstBroken 39 = .ok (.aload_n 3, 1) := by decide +kernel
theorem dX0_firstBroken_40 : decode cX0_firstBroken 40 = .ok (.getfield 47, 3) := by decide +kernel
theorem dX0_firstBroken_43 : decode cX0_firstBroken 43 = .ok (.bipush 41, 2) := by decide +kernel
theorem dX0_firstBroken_45 : decode cX0_firstBroken 45 = .ok (.invokevirtual 58, 3) := by decide +kernel
theorem dX0_firstBroken_48 : decode cX0_firstBroken 48 = .ok (.ifCond .ne 5, 3) := by decide +kernel
theorem dX0_firstBroken_51 : decode cX0_firstBroken 51 = .ok (.iload_n 2, 1) := by decide +kernel
theorem dX0_firstBroken_52 : decode cX0_firstBroken 52 = .ok (.ireturn, 1) := by decide +kernel
theorem dX0_firstBroken_53 : decode cX0_firstBroken 53 = .ok (.iinc 2 1, 3) := by decide +kernel
theorem dX0_firstBroken_56 : decode cX0_firstBroken 56 = .ok (.goto (-54), 3) := by decide +kernel
theorem dX0_firstBroken_59 : decode cX0_firstBroken 59 = .ok (.iconst (-1), 1) := by decide +kernel
theorem dX0_firstBroken_60 : decode cX0_firstBroken 60 = .ok (.ireturn, 1) := by decide +kernel
theorem dX0_rootByte_0 : decode cX0_rootByte 0 = .ok (.iload_n 2, 1) := by decide +kernel
theorem dX0_rootByte_1 : decode cX0_rootByte 1 = .ok (.ifCond .lt 9, 3) := by decide +kernel
theorem dX0_rootByte_4 : decode cX0_rootByte 4 = .ok (.iload_n 2, 1) := by decide +kernel
theorem dX0_rootByte_5 : decode cX0_rootByte 5 = .ok (.bipush 32, 2) := by decide +kernel
theorem dX0_rootByte_7 : decode cX0_rootByte 7 = .ok (.if_icmp .lt 5, 3) := by decide +kernel
theorem dX0_rootByte_10 : decode cX0_rootByte 10 = .ok (.iconst (-1), 1) := by decide +kernel
theorem dX0_rootByte_11 : decode cX0_rootByte 11 = .ok (.ireturn, 1) := by decide +kernel
theorem dX0_rootByte_12 : decode cX0_rootByte 12 = .ok (.aload_n 0, 1) := by decide +kernel
theorem dX0_rootByte_13 : decode cX0_rootByte 13 = .ok (.iload_n 1, 1) := by decide +kernel
theorem dX0_rootByte_14 : decode cX0_rootByte 14 = .ok (.invokevirtual 62, 3) := by decide +kernel
theorem dX0_rootByte_17 : decode cX0_rootByte 17 = .ok (.istore_n 3, 1) := by decide +kernel
theorem dX0_rootByte_18 : decode cX0_rootByte 18 = .ok (.iload_n 3, 1) := by decide +kernel
theorem dX0_rootByte_19 : decode cX0_rootByte 19 = .ok (.ifCond .ne 5, 3) := by decide +kernel
theorem dX0_rootByte_22 : decode cX0_rootByte 22 = .ok (.iconst (-1), 1) := by decide +kernel
theorem dX0_rootByte_23 : decode cX0_rootByte 23 = .ok (.ireturn, 1) := by decide +kernel
theorem dX0_rootByte_24 : decode cX0_rootByte 24 = .ok (.iload_n 3, 1) := by decide +kernel
theorem dX0_rootByte_25 : decode cX0_rootByte 25 = .ok (.istore 4, 2) := by decide +kernel
theorem dX0_rootByte_27 : decode cX0_rootByte 27 = .ok (.iload 4, 2) := by decide +kernel
theorem dX0_rootByte_29 : decode cX0_rootByte 29 = .ok (.iconst 1, 1) := by decide +kernel
theorem dX0_rootByte_30 : decode cX0_rootByte 30 = .ok (.if_icmp .le 20, 3) := by decide +kernel
theorem dX0_rootByte_33 : decode cX0_rootByte 33 = .ok (.aload_n 0, 1) := by decide +kernel
theorem dX0_rootByte_34 : decode cX0_rootByte 34 = .ok (.iload 4, 2) := by decide +kernel
theorem dX0_rootByte_36 : decode cX0_rootByte 36 = .ok (.invokevirtual 66, 3) := by decide +kernel
theorem dX0_rootByte_39 : decode cX0_rootByte 39 = .ok (.iload 4, 2) := by decide +kernel
theorem dX0_rootByte_41 : decode cX0_rootByte 41 = .ok (.iconst 1, 1) := by decide +kernel
theorem dX0_rootByte_42 : decode cX0_rootByte 42 = .ok (.iadd, 1) := by decide +kernel
theorem dX0_rootByte_43 : decode cX0_rootByte 43 = .ok (.iconst 2, 1) := by decide +kernel
theorem dX0_rootByte_44 : decode cX0_rootByte 44 = .ok (.idiv, 1) := by decide +kernel
theorem dX0_rootByte_45 : decode cX0_rootByte 45 = .ok (.istore 4, 2) := by decide +kernel
theorem dX0_rootByte_47 : decode cX0_rootByte 47 = .ok (.goto (-20), 3) := by decide +kernel
theorem dX0_rootByte_50 : decode cX0_rootByte 50 = .ok (.aload_n 0, 1) := by decide +kernel
theorem dX0_rootByte_51 : decode cX0_rootByte 51 = .ok (.getfield 25, 3) := by decide +kernel
theorem dX0_rootByte_54 : decode cX0_rootByte 54 = .ok (.iload_n 2, 1) := by decide +kernel
theorem dX0_rootByte_55 : decode cX0_rootByte 55 = .ok (.baload, 1) := by decide +kernel
theorem dX0_rootByte_56 : decode cX0_rootByte 56 = .ok (.sipush 255, 3) := by decide +kernel
theorem dX0_rootByte_59 : decode cX0_rootByte 59 = .ok (.iand, 1) := by decide +kernel
theorem dX0_rootByte_60 : decode cX0_rootByte 60 = .ok (.ireturn, 1) := by decide +kernel
theorem dX0_sumRow_0 : decode cX0_sumRow 0 = .ok (.aload_n 0, 1) := by decide +kernel
theorem dX0_sumRow_1 : decode cX0_sumRow 1 = .ok (.getfield 21, 3) := by decide +kernel
theorem dX0_sumRow_4 : decode cX0_sumRow 4 = .ok (.invokevirtual 70, 3) := by decide +kernel
theorem dX0_sumRow_7 : decode cX0_sumRow 7 = .ok (.aload_n 1, 1) := by decide +kernel
theorem dX0_sumRow_8 : decode cX0_sumRow 8 = .ok (.ifnonnull 15, 3) := by decide +kernel
theorem dX0_sumRow_11 : decode cX0_sumRow 11 = .ok (.aload_n 0, 1) := by decide +kernel
theorem dX0_sumRow_12 : decode cX0_sumRow 12 = .ok (.getfield 21, 3) := by decide +kernel
theorem dX0_sumRow_15 : decode cX0_sumRow 15 = .ok (.bipush 32, 2) := by decide +kernel
theorem dX0_sumRow_17 : decode cX0_sumRow 17 = .ok (.invokevirtual 73, 3) := by decide +kernel
theorem dX0_sumRow_20 : decode cX0_sumRow 20 = .ok (.goto 18, 3) := by decide +kernel
theorem dX0_sumRow_23 : decode cX0_sumRow 23 = .ok (.aload_n 0, 1) := by decide +kernel
theorem dX0_sumRow_24 : decode cX0_sumRow 24 = .ok (.getfield 21, 3) := by decide +kernel
theorem dX0_sumRow_27 : decode cX0_sumRow 27 = .ok (.aload_n 1, 1) := by decide +kernel
theorem dX0_sumRow_28 : decode cX0_sumRow 28 = .ok (.getfield 47, 3) := by decide +kernel
theorem dX0_sumRow_31 : decode cX0_sumRow 31 = .ok (.bipush 41, 2) := by decide +kernel
theorem dX0_sumRow_33 : decode cX0_sumRow 33 = .ok (.bipush 32, 2) := by decide +kernel
theorem dX0_sumRow_35 : decode cX0_sumRow 35 = .ok (.invokevirtual 76, 3) := by decide +kernel
theorem dX0_sumRow_38 : decode cX0_sumRow 38 = .ok (.aload_n 0, 1) := by decide +kernel
theorem dX0_sumRow_39 : decode cX0_sumRow 39 = .ok (.getfield 21, 3) := by decide +kernel
theorem dX0_sumRow_42 : decode cX0_sumRow 42 = .ok (.aload_n 2, 1) := by decide +kernel
theorem dX0_sumRow_43 : decode cX0_sumRow 43 = .ok (.getfield 47, 3) := by decide +kernel
theorem dX0_sumRow_46 : decode cX0_sumRow 46 = .ok (.iconst 0, 1) := by decide +kernel
theorem dX0_sumRow_47 : decode cX0_sumRow 47 = .ok (.bipush 41, 2) := by decide +kernel
theorem dX0_sumRow_49 : decode cX0_sumRow 49 = .ok (.invokevirtual 76, 3) := by decide +kernel
theorem dX0_sumRow_52 : decode cX0_sumRow 52 = .ok (.aload_n 0, 1) := by decide +kernel
theorem dX0_sumRow_53 : decode cX0_sumRow 53 = .ok (.getfield 21, 3) := by decide +kernel
theorem dX0_sumRow_56 : decode cX0_sumRow 56 = .ok (.invokevirtual 79, 3) := by decide +kernel
theorem dX0_sumRow_59 : decode cX0_sumRow 59 = .ok (.return_, 1) := by decide +kernel
theorem dX0_gather_0 : decode cX0_gather 0 = .ok (.iconst 0, 1) := by decide +kernel
theorem dX0_gather_1 : decode cX0_gather 1 = .ok (.istore_n 2, 1) := by decide +kernel
theorem dX0_gather_2 : decode cX0_gather 2 = .ok (.iconst 0, 1) := by decide +kernel
theorem dX0_gather_3 : decode cX0_gather 3 = .ok (.istore_n 3, 1) := by decide +kernel
theorem dX0_gather_4 : decode cX0_gather 4 = .ok (.iload_n 3, 1) := by decide +kernel
theorem dX0_gather_5 : decode cX0_gather 5 = .ok (.aload_n 0, 1) := by decide +kernel
theorem dX0_gather_6 : decode cX0_gather 6 = .ok (.getfield 12, 3) := by decide +kernel
theorem dX0_gather_9 : decode cX0_gather 9 = .ok (.invokevirtual 29, 3) := by decide +kernel
theorem dX0_gather_12 : decode cX0_gather 12 = .ok (.if_icmp .ge 61, 3) := by decide +kernel
theorem dX0_gather_15 : decode cX0_gather 15 = .ok (.aload_n 0, 1) := by decide +kernel
theorem dX0_gather_16 : decode cX0_gather 16 = .ok (.getfield 12, 3) := by decide +kernel
theorem dX0_gather_19 : decode cX0_gather 19 = .ok (.iload_n 3, 1) := by decide +kernel
theorem dX0_gather_20 : decode cX0_gather 20 = .ok (.invokevirtual 33, 3) := by decide +kernel
theorem dX0_gather_23 : decode cX0_gather 23 = .ok (.checkcast 37, 3) := by decide +kernel
theorem dX0_gather_26 : decode cX0_gather 26 = .ok (.astore 4, 2) := by decide +kernel
theorem dX0_gather_28 : decode cX0_gather 28 = .ok (.aload 4, 2) := by decide +kernel
theorem dX0_gather_30 : decode cX0_gather 30 = .ok (.getfield 82, 3) := by decide +kernel
theorem dX0_gather_33 : decode cX0_gather 33 = .ok (.iload_n 1, 1) := by decide +kernel
theorem dX0_gather_34 : decode cX0_gather 34 = .ok (.if_icmp .ne 33, 3) := by decide +kernel
theorem dX0_gather_37 : decode cX0_gather 37 = .ok (.iload_n 2, 1) := by decide +kernel
theorem dX0_gather_38 : decode cX0_gather 38 = .ok (.sipush 200, 3) := by decide +kernel
theorem dX0_gather_41 : decode cX0_gather 41 = .ok (.if_icmp .ge 26, 3) := by decide +kernel
theorem dX0_gather_44 : decode cX0_gather 44 = .ok (.aload 4, 2) := by decide +kernel
theorem dX0_gather_46 : decode cX0_gather 46 = .ok (.getfield 47, 3) := by decide +kernel
theorem dX0_gather_49 : decode cX0_gather 49 = .ok (.bipush 41, 2) := by decide +kernel
theorem dX0_gather_51 : decode cX0_gather 51 = .ok (.aload_n 0, 1) := by decide +kernel
theorem dX0_gather_52 : decode cX0_gather 52 = .ok (.getfield 25, 3) := by decide +kernel
theorem dX0_gather_55 : decode cX0_gather 55 = .ok (.iload_n 2, 1) := by decide +kernel
theorem dX0_gather_56 : decode cX0_gather 56 = .ok (.bipush 32, 2) := by decide +kernel
theorem dX0_gather_58 : decode cX0_gather 58 = .ok (.imul, 1) := by decide +kernel
theorem dX0_gather_59 : decode cX0_gather 59 = .ok (.bipush 32, 2) := by decide +kernel
theorem dX0_gather_61 : decode cX0_gather 61 = .ok (.invokestatic 86, 3) := by decide +kernel
theorem dX0_gather_64 : decode cX0_gather 64 = .ok (.iinc 2 1, 3) := by decide +kernel
theorem dX0_gather_67 : decode cX0_gather 67 = .ok (.iinc 3 1, 3) := by decide +kernel
theorem dX0_gather_70 : decode cX0_gather 70 = .ok (.goto (-66), 3) := by decide +kernel
theorem dX0_gather_73 : decode cX0_gather 73 = .ok (.iload_n 2, 1) := by decide +kernel
theorem dX0_gather_74 : decode cX0_gather 74 = .ok (.ireturn, 1) := by decide +kernel
theorem dX0_pairUp_0 : decode cX0_pairUp 0 = .ok (.iconst 0, 1) := by decide +kernel
theorem dX0_pairUp_1 : decode cX0_pairUp 1 = .ok (.istore_n 2, 1) := by decide +kernel
theorem dX0_pairUp_2 : decode cX0_pairUp 2 = .ok (.iload_n 2, 1) := by decide +kernel
theorem dX0_pairUp_3 : decode cX0_pairUp 3 = .ok (.iload_n 1, 1) := by decide +kernel
theorem dX0_pairUp_4 : decode cX0_pairUp 4 = .ok (.if_icmp .ge 89, 3) := by decide +kernel
theorem dX0_pairUp_7 : decode cX0_pairUp 7 = .ok (.iload_n 2, 1) := by decide +kernel
theorem dX0_pairUp_8 : decode cX0_pairUp 8 = .ok (.bipush 32, 2) := by decide +kernel
theorem dX0_pairUp_10 : decode cX0_pairUp 10 = .ok (.imul, 1) := by decide +kernel
theorem dX0_pairUp_11 : decode cX0_pairUp 11 = .ok (.istore_n 3, 1) := by decide +kernel
theorem dX0_pairUp_12 : decode cX0_pairUp 12 = .ok (.iload_n 2, 1) := by decide +kernel
theorem dX0_pairUp_13 : decode cX0_pairUp 13 = .ok (.iconst 2, 1) := by decide +kernel
theorem dX0_pairUp_14 : decode cX0_pairUp 14 = .ok (.idiv, 1) := by decide +kernel
theorem dX0_pairUp_15 : decode cX0_pairUp 15 = .ok (.bipush 32, 2) := by decide +kernel
theorem dX0_pairUp_17 : decode cX0_pairUp 17 = .ok (.imul, 1) := by decide +kernel
theorem dX0_pairUp_18 : decode cX0_pairUp 18 = .ok (.istore 4, 2) := by decide +kernel
theorem dX0_pairUp_20 : decode cX0_pairUp 20 = .ok (.iload_n 2, 1) := by decide +kernel
theorem dX0_pairUp_21 : decode cX0_pairUp 21 = .ok (.iconst 1, 1) := by decide +kernel
theorem dX0_pairUp_22 : decode cX0_pairUp 22 = .ok (.iadd, 1) := by decide +kernel
theorem dX0_pairUp_23 : decode cX0_pairUp 23 = .ok (.iload_n 1, 1) := by decide +kernel
theorem dX0_pairUp_24 : decode cX0_pairUp 24 = .ok (.if_icmp .ge 47, 3) := by decide +kernel
theorem dX0_pairUp_27 : decode cX0_pairUp 27 = .ok (.aload_n 0, 1) := by decide +kernel
theorem dX0_pairUp_28 : decode cX0_pairUp 28 = .ok (.getfield 21, 3) := by decide +kernel
theorem dX0_pairUp_31 : decode cX0_pairUp 31 = .ok (.invokevirtual 70, 3) := by decide +kernel
theorem dX0_pairUp_34 : decode cX0_pairUp 34 = .ok (.aload_n 0, 1) := by decide +kernel
theorem dX0_pairUp_35 : decode cX0_pairUp 35 = .ok (.getfield 21, 3) := by decide +kernel
theorem dX0_pairUp_38 : decode cX0_pairUp 38 = .ok (.aload_n 0, 1) := by decide +kernel
theorem dX0_pairUp_39 : decode cX0_pairUp 39 = .ok (.getfield 25, 3) := by decide +kernel
theorem dX0_pairUp_42 : decode cX0_pairUp 42 = .ok (.iload_n 3, 1) := by decide +kernel
theorem dX0_pairUp_43 : decode cX0_pairUp 43 = .ok (.bipush 64, 2) := by decide +kernel
theorem dX0_pairUp_45 : decode cX0_pairUp 45 = .ok (.invokevirtual 76, 3) := by decide +kernel
theorem dX0_pairUp_48 : decode cX0_pairUp 48 = .ok (.aload_n 0, 1) := by decide +kernel
theorem dX0_pairUp_49 : decode cX0_pairUp 49 = .ok (.getfield 21, 3) := by decide +kernel
theorem dX0_pairUp_52 : decode cX0_pairUp 52 = .ok (.invokevirtual 79, 3) := by decide +kernel
theorem dX0_pairUp_55 : decode cX0_pairUp 55 = .ok (.aload_n 0, 1) := by decide +kernel
theorem dX0_pairUp_56 : decode cX0_pairUp 56 = .ok (.getfield 21, 3) := by decide +kernel
theorem dX0_pairUp_59 : decode cX0_pairUp 59 = .ok (.aload_n 0, 1) := by decide +kernel
theorem dX0_pairUp_60 : decode cX0_pairUp 60 = .ok (.getfield 25, 3) := by decide +kernel
theorem dX0_pairUp_63 : decode cX0_pairUp 63 = .ok (.iload 4, 2) := by decide +kernel
theorem dX0_pairUp_65 : decode cX0_pairUp 65 = .ok (.invokevirtual 50, 3) := by decide +kernel
theorem dX0_pairUp_68 : decode cX0_pairUp 68 = .ok (.goto 19, 3) := by decide +kernel
theorem dX0_pairUp_71 : decode cX0_pairUp 71 = .ok (.aload_n 0, 1) := by decide +kernel
theorem dX0_pairUp_72 : decode cX0_pairUp 72 = .ok (.getfield 25, 3) := by decide +kernel
theorem dX0_pairUp_75 : decode cX0_pairUp 75 = .ok (.iload_n 3, 1) := by decide +kernel
theorem dX0_pairUp_76 : decode cX0_pairUp 76 = .ok (.aload_n 0, 1) := by decide +kernel
theorem dX0_pairUp_77 : decode cX0_pairUp 77 = .ok (.getfield 25, 3) := by decide +kernel
theorem dX0_pairUp_80 : decode cX0_pairUp 80 = .ok (.iload 4, 2) := by decide +kernel
theorem dX0_pairUp_82 : decode cX0_pairUp 82 = .ok (.bipush 32, 2) := by decide +kernel
theorem dX0_pairUp_84 : decode cX0_pairUp 84 = .ok (.invokestatic 86, 3) := by decide +kernel
theorem dX0_pairUp_87 : decode cX0_pairUp 87 = .ok (.iinc 2 2, 3) := by decide +kernel
theorem dX0_pairUp_90 : decode cX0_pairUp 90 = .ok (.goto (-88), 3) := by decide +kernel
theorem dX0_pairUp_93 : decode cX0_pairUp 93 = .ok (.return_, 1) := by decide +kernel
theorem dX1_init_0 : decode cX1_init 0 = .ok (.aload_n 0, 1) := by decide +kernel
theorem dX1_init_1 : decode cX1_init 1 = .ok (.invokespecial 3, 3) := by decide +kernel
theorem dX1_init_4 : decode cX1_init 4 = .ok (.aload_n 0, 1) := by decide +kernel
theorem dX1_init_5 : decode cX1_init 5 = .ok (.bipush 64, 2) := by decide +kernel
theorem dX1_init_7 : decode cX1_init 7 = .ok (.newarray .byte, 2) := by decide +kernel
theorem dX1_init_9 : decode cX1_init 9 = .ok (.putfield 9, 3) := by decide +kernel
theorem dX1_init_12 : decode cX1_init 12 = .ok (.aload_n 0, 1) := by decide +kernel
theorem dX1_init_13 : decode cX1_init 13 = .ok (.iconst 0, 1) := by decide +kernel
theorem dX1_init_14 : decode cX1_init 14 = .ok (.putfield 15, 3) := by decide +kernel
theorem dX1_init_17 : decode cX1_init 17 = .ok (.return_, 1) := by decide +kernel
theorem dX1_fill_0 : decode cX1_fill 0 = .ok (.aload_n 0, 1) := by decide +kernel
theorem dX1_fill_1 : decode cX1_fill 1 = .ok (.iconst 0, 1) := by decide +kernel
theorem dX1_fill_2 : decode cX1_fill 2 = .ok (.putfield 15, 3) := by decide +kernel
theorem dX1_fill_5 : decode cX1_fill 5 = .ok (.iconst 0, 1) := by decide +kernel
theorem dX1_fill_6 : decode cX1_fill 6 = .ok (.istore_n 2, 1) := by decide +kernel
theorem dX1_fill_7 : decode cX1_fill 7 = .ok (.iload_n 2, 1) := by decide +kernel
theorem dX1_fill_8 : decode cX1_fill 8 = .ok (.bipush 7, 2) := by decide +kernel
theorem dX1_fill_10 : decode cX1_fill 10 = .ok (.if_icmp .gt 28, 3) := by decide +kernel
theorem dX1_fill_13 : decode cX1_fill 13 = .ok (.iload_n 2, 1) := by decide +kernel
theorem dX1_fill_14 : decode cX1_fill 14 = .ok (.ifCond .le 9, 3) := by decide +kernel
theorem dX1_fill_17 : decode cX1_fill 17 = .ok (.aload_n 0, 1) := by decide +kernel
theorem dX1_fill_18 : decode cX1_fill 18 = .ok (.bipush 32, 2) := by decide +kernel
theorem dX1_fill_20 : decode cX1_fill 20 = .ok (.invokevirtual 19, 3) := by decide +kernel
theorem dX1_fill_23 : decode cX1_fill 23 = .ok (.aload_n 0, 1) := by decide +kernel
theorem dX1_fill_24 : decode cX1_fill 24 = .ok (.aload_n 1, 1) := by decide +kernel
theorem dX1_fill_25 : decode cX1_fill 25 = .ok (.iload_n 2, 1) := by decide +kernel
theorem dX1_fill_26 : decode cX1_fill 26 = .ok (.invokevirtual 23, 3) := by decide +kernel
theorem dX1_fill_29 : decode cX1_fill 29 = .ok (.invokevirtual 29, 3) := by decide +kernel
theorem dX1_fill_32 : decode cX1_fill 32 = .ok (.iinc 2 1, 3) := by decide +kernel
theorem dX1_fill_35 : decode cX1_fill 35 = .ok (.goto (-28), 3) := by decide +kernel
theorem dX1_fill_38 : decode cX1_fill 38 = .ok (.aload_n 1, 1) := by decide +kernel
theorem dX1_fill_39 : decode cX1_fill 39 = .ok (.invokevirtual 33, 3) := by decide +kernel
theorem dX1_fill_42 : decode cX1_fill 42 = .ok (.ifCond .eq 40, 3) := by decide +kernel
theorem dX1_fill_45 : decode cX1_fill 45 = .ok (.iconst 0, 1) := by decide +kernel
theorem dX1_fill_46 : decode cX1_fill 46 = .ok (.istore_n 2, 1) := by decide +kernel
theorem dX1_fill_47 : decode cX1_fill 47 = .ok (.iload_n 2, 1) := by decide +kernel
theorem dX1_fill_48 : decode cX1_fill 48 = .ok (.ldc 37, 2) := by decide +kernel
theorem dX1_fill_50 : decode cX1_fill 50 = .ok (.invokevirtual 39, 3) := by decide +kernel
theorem dX1_fill_53 : decode cX1_fill 53 = .ok (.if_icmp .ge 19, 3) := by decide +kernel
theorem dX1_fill_56 : decode cX1_fill 56 = .ok (.aload_n 0, 1) := by decide +kernel
theorem dX1_fill_57 : decode cX1_fill 57 = .ok (.ldc 37, 2) := by decide +kernel
theorem dX1_fill_59 : decode cX1_fill 59 = .ok (.iload_n 2, 1) := by decide +kernel
theorem dX1_fill_60 : decode cX1_fill 60 = .ok (.invokevirtual 44, 3) := by decide +kernel
theorem dX1_fill_63 : decode cX1_fill 63 = .ok (.invokevirtual 19, 3) := by decide +kernel
theorem dX1_fill_66 : decode cX1_fill 66 = .ok (.iinc 2 1, 3) := by decide +kernel
theorem dX1_fill_69 : decode cX1_fill 69 = .ok (.goto (-22), 3) := by decide +kernel
theorem dX1_fill_72 : decode cX1_fill 72 = .ok (.aload_n 0, 1) := by decide +kernel
theorem dX1_fill_73 : decode cX1_fill 73 = .ok (.aload_n 1, 1) := by decide +kernel
theorem dX1_fill_74 : decode cX1_fill 74 = .ok (.bipush 8, 2) := by decide +kernel
theorem dX1_fill_76 : decode cX1_fill 76 = .ok (.invokevirtual 23, 3) := by decide +kernel
theorem dX1_fill_79 : decode cX1_fill 79 = .ok (.invokevirtual 29, 3) := by decide +kernel
theorem dX1_fill_82 : decode cX1_fill 82 = .ok (.return_, 1) := by decide +kernel
theorem dX1_sign_0 : decode cX1_sign 0 = .ok (.iload_n 1, 1) := by decide +kernel
theorem dX1_sign_1 : decode cX1_sign 1 = .ok (.ifCond .lt 29, 3) := by decide +kernel
theorem dX1_sign_4 : decode cX1_sign 4 = .ok (.iload_n 1, 1) := by decide +kernel
theorem dX1_sign_5 : decode cX1_sign 5 = .ok (.aload_n 0, 1) := by decide +kernel
theorem dX1_sign_6 : decode cX1_sign 6 = .ok (.getfield 15, 3) := by decide +kernel
theorem dX1_sign_9 : decode cX1_sign 9 = .ok (.if_icmp .ge 21, 3) := by decide +kernel
theorem dX1_sign_12 : decode cX1_sign 12 = .ok (.iload_n 1, 1) := by decide +kernel
theorem dX1_sign_13 : decode cX1_sign 13 = .ok (.aload_n 0, 1) := by decide +kernel
theorem dX1_sign_14 : decode cX1_sign 14 = .ok (.getfield 9, 3) := by decide +kernel
theorem dX1_sign_17 : decode cX1_sign 17 = .ok (.arraylength, 1) := by decide +kernel
theorem dX1_sign_18 : decode cX1_sign 18 = .ok (.if_icmp .ge 12, 3) := by decide +kernel
theorem dX1_sign_21 : decode cX1_sign 21 = .ok (.aload_n 0, 1) := by decide +kernel
theorem dX1_sign_22 : decode cX1_sign 22 = .ok (.getfield 9, 3) := by decide +kernel
theorem dX1_sign_25 : decode cX1_sign 25 = .ok (.iload_n 1, 1) := by decide +kernel
theorem dX1_sign_26 : decode cX1_sign 26 = .ok (.baload, 1) := by decide +kernel
theorem dX1_sign_27 : decode cX1_sign 27 = .ok (.goto 4, 3) := by decide +kernel
theorem dX1_sign_30 : decode cX1_sign 30 = .ok (.iconst (-1), 1) := by decide +kernel
theorem dX1_sign_31 : decode cX1_sign 31 = .ok (.ireturn, 1) := by decide +kernel
theorem dX1_add_0 : decode cX1_add 0 = .ok (.aload_n 0, 1) := by decide +kernel
theorem dX1_add_1 : decode cX1_add 1 = .ok (.getfield 15, 3) := by decide +kernel
theorem dX1_add_4 : decode cX1_add 4 = .ok (.aload_n 0, 1) := by decide +kernel
theorem dX1_add_5 : decode cX1_add 5 = .ok (.getfield 9, 3) := by decide +kernel
theorem dX1_add_8 : decode cX1_add 8 = .ok (.arraylength, 1) := by decide +kernel
theorem dX1_add_9 : decode cX1_add 9 = .ok (.if_icmp .ge 24, 3) := by decide +kernel
theorem dX1_add_12 : decode cX1_add 12 = .ok (.aload_n 0, 1) := by decide +kernel
theorem dX1_add_13 : decode cX1_add 13 = .ok (.getfield 9, 3) := by decide +kernel
theorem dX1_add_16 : decode cX1_add 16 = .ok (.aload_n 0, 1) := by decide +kernel
theorem dX1_add_17 : decode cX1_add 17 = .ok (.getfield 15, 3) := by decide +kernel
theorem dX1_add_20 : decode cX1_add 20 = .ok (.iload_n 1, 1) := by decide +kernel
theorem dX1_add_21 : decode cX1_add 21 = .ok (.i2b, 1) := by decide +kernel
theorem dX1_add_22 : decode cX1_add 22 = .ok (.bastore, 1) := by decide +kernel
theorem dX1_add_23 : decode cX1_add 23 = .ok (.aload_n 0, 1) := by decide +kernel
theorem dX1_add_24 : decode cX1_add 24 = .ok (.dup, 1) := by decide +kernel
theorem dX1_add_25 : decode cX1_add 25 = .ok (.getfield 15, 3) := by decide +kernel
theorem dX1_add_28 : decode cX1_add 28 = .ok (.iconst 1, 1) := by decide +kernel
theorem dX1_add_29 : decode cX1_add 29 = .ok (.iadd, 1) := by decide +kernel
theorem dX1_add_30 : decode cX1_add 30 = .ok (.putfield 15, 3) := by decide +kernel
theorem dX1_add_33 : decode cX1_add 33 = .ok (.return_, 1) := by decide +kernel
theorem dX1_addDecimals_0 : decode cX1_addDecimals 0 = .ok (.iconst 0, 1) := by decide +kernel
theorem dX1_addDecimals_1 : decode cX1_addDecimals 1 = .ok (.istore_n 3, 1) := by decide +kernel
theorem dX1_addDecimals_2 : decode cX1_addDecimals 2 = .ok (.ldc2_w 48, 3) := by decide +kernel
theorem dX1_addDecimals_5 : decode cX1_addDecimals 5 = .ok (.lstore 4, 2) := by decide +kernel
theorem dX1_addDecimals_7 : decode cX1_addDecimals 7 = .ok (.lload 4, 2) := by decide +kernel
theorem dX1_addDecimals_9 : decode cX1_addDecimals 9 = .ok (.lconst 0, 1) := by decide +kernel
theorem dX1_addDecimals_10 : decode cX1_addDecimals 10 = .ok (.lcmp, 1) := by decide +kernel
theorem dX1_addDecimals_11 : decode cX1_addDecimals 11 = .ok (.ifCond .le 61, 3) := by decide +kernel
theorem dX1_addDecimals_14 : decode cX1_addDecimals 14 = .ok (.lload_n 1, 1) := by decide +kernel
theorem dX1_addDecimals_15 : decode cX1_addDecimals 15 = .ok (.lload 4, 2) := by decide +kernel
theorem dX1_addDecimals_17 : decode cX1_addDecimals 17 = .ok (.ldiv, 1) := by decide +kernel
theorem dX1_addDecimals_18 : decode cX1_addDecimals 18 = .ok (.ldc2_w 50, 3) := by decide +kernel
theorem dX1_addDecimals_21 : decode cX1_addDecimals 21 = .ok (.lrem, 1) := by decide +kernel
theorem dX1_addDecimals_22 : decode cX1_addDecimals 22 = .ok (.l2i, 1) := by decide +kernel
theorem dX1_addDecimals_23 : decode cX1_addDecimals 23 = .ok (.istore 6, 2) := by decide +kernel
theorem dX1_addDecimals_25 : decode cX1_addDecimals 25 = .ok (.iload_n 3, 1) := by decide +kernel
theorem dX1_addDecimals_26 : decode cX1_addDecimals 26 = .ok (.ifCond .ne 15, 3) := by decide +kernel
theorem dX1_addDecimals_29 : decode cX1_addDecimals 29 = .ok (.iload 6, 2) := by decide +kernel
theorem dX1_addDecimals_31 : decode cX1_addDecimals 31 = .ok (.ifCond .gt 10, 3) := by decide +kernel
theorem dX1_addDecimals_34 : decode cX1_addDecimals 34 = .ok (.lload 4, 2) := by decide +kernel
theorem dX1_addDecimals_36 : decode cX1_addDecimals 36 = .ok (.lconst 1, 1) := by decide +kernel
theorem dX1_addDecimals_37 : decode cX1_addDecimals 37 = .ok (.lcmp, 1) := by decide +kernel
theorem dX1_addDecimals_38 : decode cX1_addDecimals 38 = .ok (.ifCond .ne 7, 3) := by decide +kernel
theorem dX1_addDecimals_41 : decode cX1_addDecimals 41 = .ok (.iconst 1, 1) := by decide +kernel
theorem dX1_addDecimals_42 : decode cX1_addDecimals 42 = .ok (.goto 4, 3) := by decide +kernel
theorem dX1_addDecimals_45 : decode cX1_addDecimals 45 = .ok (.iconst 0, 1) := by decide +kernel
theorem dX1_addDecimals_46 : decode cX1_addDecimals 46 = .ok (.istore_n 3, 1) := by decide +kernel
theorem dX1_addDecimals_47 : decode cX1_addDecimals 47 = .ok (.iload_n 3, 1) := by decide +kernel
theorem dX1_addDecimals_48 : decode cX1_addDecimals 48 = .ok (.ifCond .eq 13, 3) := by decide +kernel
theorem dX1_addDecimals_51 : decode cX1_addDecimals 51 = .ok (.aload_n 0, 1) := by decide +kernel
theorem dX1_addDecimals_52 : decode cX1_addDecimals 52 = .ok (.bipush 48, 2) := by decide +kernel
theorem dX1_addDecimals_54 : decode cX1_addDecimals 54 = .ok (.iload 6, 2) := by decide +kernel
theorem dX1_addDecimals_56 : decode cX1_addDecimals 56 = .ok (.iadd, 1) := by decide +kernel
theorem dX1_addDecimals_57 : decode cX1_addDecimals 57 = .ok (.i2c, 1) := by decide +kernel
theorem dX1_addDecimals_58 : decode cX1_addDecimals 58 = .ok (.invokevirtual 19, 3) := by decide +kernel
theorem dX1_addDecimals_61 : decode cX1_addDecimals 61 = .ok (.lload 4, 2) := by decide +kernel
theorem dX1_addDecimals_63 : decode cX1_addDecimals 63 = .ok (.ldc2_w 50, 3) := by decide +kernel
theorem dX1_addDecimals_66 : decode cX1_addDecimals 66 = .ok (.ldiv, 1) := by decide +kernel
theorem dX1_addDecimals_67 : decode cX1_addDecimals 67 = .ok (.lstore 4, 2) := by decide +kernel
theorem dX1_addDecimals_69 : decode cX1_addDecimals 69 = .ok (.goto (-62), 3) := by decide +kernel
theorem dX1_addDecimals_72 : decode cX1_addDecimals 72 = .ok (.return_, 1) := by decide +kernel
theorem dX2_init_0 : decode cX2_init 0 = .ok (.aload_n 0, 1) := by decide +kernel
theorem dX2_init_1 : decode cX2_init 1 = .ok (.invokespecial 3, 3) := by decide +kernel
theorem dX2_init_4 : decode cX2_init 4 = .ok (.aload_n 0, 1) := by decide +kernel
theorem dX2_init_5 : decode cX2_init 5 = .ok (.bipush 73, 2) := by decide +kernel
theorem dX2_init_7 : decode cX2_init 7 = .ok (.newarray .byte, 2) := by decide +kernel
theorem dX2_init_9 : decode cX2_init 9 = .ok (.putfield 9, 3) := by decide +kernel
theorem dX2_init_12 : decode cX2_init 12 = .ok (.aload_n 0, 1) := by decide +kernel
theorem dX2_init_13 : decode cX2_init 13 = .ok (.iconst 0, 1) := by decide +kernel
theorem dX2_init_14 : decode cX2_init 14 = .ok (.putfield 15, 3) := by decide +kernel
theorem dX2_init_17 : decode cX2_init 17 = .ok (.aload_n 0, 1) := by decide +kernel
theorem dX2_init_18 : decode cX2_init 18 = .ok (.iload_n 1, 1) := by decide +kernel
theorem dX2_init_19 : decode cX2_init 19 = .ok (.putfield 19, 3) := by decide +kernel
theorem dX2_init_22 : decode cX2_init 22 = .ok (.return_, 1) := by decide +kernel
theorem dX2_write_0 : decode cX2_write 0 = .ok (.iload_n 3, 1) := by decide +kernel
theorem dX2_write_1 : decode cX2_write 1 = .ok (.iconst 1, 1) := by decide +kernel
theorem dX2_write_2 : decode cX2_write 2 = .ok (.isub, 1) := by decide +kernel
theorem dX2_write_3 : decode cX2_write 3 = .ok (.istore 4, 2) := by decide +kernel
theorem dX2_write_5 : decode cX2_write 5 = .ok (.iload 4, 2) := by decide +kernel
theorem dX2_write_7 : decode cX2_write 7 = .ok (.ifCond .lt 46, 3) := by decide +kernel
theorem dX2_write_10 : decode cX2_write 10 = .ok (.aload_n 0, 1) := by decide +kernel
theorem dX2_write_11 : decode cX2_write 11 = .ok (.getfield 15, 3) := by decide +kernel
theorem dX2_write_14 : decode cX2_write 14 = .ok (.bipush 41, 2) := by decide +kernel
theorem dX2_write_16 : decode cX2_write 16 = .ok (.if_icmp .ge 31, 3) := by decide +kernel
theorem dX2_write_19 : decode cX2_write 19 = .ok (.aload_n 0, 1) := by decide +kernel
theorem dX2_write_20 : decode cX2_write 20 = .ok (.getfield 9, 3) := by decide +kernel
theorem dX2_write_23 : decode cX2_write 23 = .ok (.aload_n 0, 1) := by decide +kernel
theorem dX2_write_24 : decode cX2_write 24 = .ok (.getfield 15, 3) := by decide +kernel
theorem dX2_write_27 : decode cX2_write 27 = .ok (.lload_n 1, 1) := by decide +kernel
theorem dX2_write_28 : decode cX2_write 28 = .ok (.bipush 8, 2) := by decide +kernel
theorem dX2_write_30 : decode cX2_write 30 = .ok (.iload 4, 2) := by decide +kernel
theorem dX2_write_32 : decode cX2_write 32 = .ok (.imul, 1) := by decide +kernel
theorem dX2_write_33 : decode cX2_write 33 = .ok (.lushr, 1) := by decide +kernel
theorem dX2_write_34 : decode cX2_write 34 = .ok (.l2i, 1) := by decide +kernel
theorem dX2_write_35 : decode cX2_write 35 = .ok (.i2b, 1) := by decide +kernel
theorem dX2_write_36 : decode cX2_write 36 = .ok (.bastore, 1) := by decide +kernel
theorem dX2_write_37 : decode cX2_write 37 = .ok (.aload_n 0, 1) := by decide +kernel
theorem dX2_write_38 : decode cX2_write 38 = .ok (.dup, 1) := by decide +kernel
theorem dX2_write_39 : decode cX2_write 39 = .ok (.getfield 15, 3) := by decide +kernel
theorem dX2_write_42 : decode cX2_write 42 = .ok (.iconst 1, 1) := by decide +kernel
theorem dX2_write_43 : decode cX2_write 43 = .ok (.iadd, 1) := by decide +kernel
theorem dX2_write_44 : decode cX2_write 44 = .ok (.putfield 15, 3) := by decide +kernel
theorem dX2_write_47 : decode cX2_write 47 = .ok (.iinc 4 (-1), 3) := by decide +kernel
theorem dX2_write_50 : decode cX2_write 50 = .ok (.goto (-45), 3) := by decide +kernel
theorem dX2_write_53 : decode cX2_write 53 = .ok (.return_, 1) := by decide +kernel
theorem dX2_has_0 : decode cX2_has 0 = .ok (.iload_n 1, 1) := by decide +kernel
theorem dX2_has_1 : decode cX2_has 1 = .ok (.ifCond .lt 16, 3) := by decide +kernel
theorem dX2_has_4 : decode cX2_has 4 = .ok (.iload_n 1, 1) := by decide +kernel
theorem dX2_has_5 : decode cX2_has 5 = .ok (.aload_n 0, 1) := by decide +kernel
theorem dX2_has_6 : decode cX2_has 6 = .ok (.getfield 9, 3) := by decide +kernel
theorem dX2_has_9 : decode cX2_has 9 = .ok (.arraylength, 1) := by decide +kernel
theorem dX2_has_10 : decode cX2_has 10 = .ok (.if_icmp .ge 7, 3) := by decide +kernel
theorem dX2_has_13 : decode cX2_has 13 = .ok (.iconst 1, 1) := by decide +kernel
theorem dX2_has_14 : decode cX2_has 14 = .ok (.goto 4, 3) := by decide +kernel
theorem dX2_has_17 : decode cX2_has 17 = .ok (.iconst 0, 1) := by decide +kernel
theorem dX2_has_18 : decode cX2_has 18 = .ok (.ireturn, 1) := by decide +kernel
theorem dX2_value_0 : decode cX2_value 0 = .ok (.aload_n 0, 1) := by decide +kernel
theorem dX2_value_1 : decode cX2_value 1 = .ok (.iload_n 1, 1) := by decide +kernel
theorem dX2_value_2 : decode cX2_value 2 = .ok (.invokevirtual 22, 3) := by decide +kernel
theorem dX2_value_5 : decode cX2_value 5 = .ok (.ifCond .eq 16, 3) := by decide +kernel
theorem dX2_value_8 : decode cX2_value 8 = .ok (.aload_n 0, 1) := by decide +kernel
theorem dX2_value_9 : decode cX2_value 9 = .ok (.getfield 9, 3) := by decide +kernel
theorem dX2_value_12 : decode cX2_value 12 = .ok (.iload_n 1, 1) := by decide +kernel
theorem dX2_value_13 : decode cX2_value 13 = .ok (.baload, 1) := by decide +kernel
theorem dX2_value_14 : decode cX2_value 14 = .ok (.sipush 255, 3) := by decide +kernel
theorem dX2_value_17 : decode cX2_value 17 = .ok (.iand, 1) := by decide +kernel
theorem dX2_value_18 : decode cX2_value 18 = .ok (.goto 4, 3) := by decide +kernel
theorem dX2_value_21 : decode cX2_value 21 = .ok (.iconst (-1), 1) := by decide +kernel
theorem dX2_value_22 : decode cX2_value 22 = .ok (.ireturn, 1) := by decide +kernel
theorem dX2_change_0 : decode cX2_change 0 = .ok (.aload_n 0, 1) := by decide +kernel
theorem dX2_change_1 : decode cX2_change 1 = .ok (.iload_n 1, 1) := by decide +kernel
theorem dX2_change_2 : decode cX2_change 2 = .ok (.invokevirtual 22, 3) := by decide +kernel
theorem dX2_change_5 : decode cX2_change 5 = .ok (.ifCond .ne 5, 3) := by decide +kernel
theorem dX2_change_8 : decode cX2_change 8 = .ok (.iconst 0, 1) := by decide +kernel
theorem dX2_change_9 : decode cX2_change 9 = .ok (.ireturn, 1) := by decide +kernel
theorem dX2_change_10 : decode cX2_change 10 = .ok (.aload_n 0, 1) := by decide +kernel
theorem dX2_change_11 : decode cX2_change 11 = .ok (.getfield 9, 3) := by decide +kernel
theorem dX2_change_14 : decode cX2_change 14 = .ok (.iload_n 1, 1) := by decide +kernel
theorem dX2_change_15 : decode cX2_change 15 = .ok (.aload_n 0, 1) := by decide +kernel
theorem dX2_change_16 : decode cX2_change 16 = .ok (.getfield 9, 3) := by decide +kernel
theorem dX2_change_19 : decode cX2_change 19 = .ok (.iload_n 1, 1) := by decide +kernel
theorem dX2_change_20 : decode cX2_change 20 = .ok (.baload, 1) := by decide +kernel
theorem dX2_change_21 : decode cX2_change 21 = .ok (.iload_n 2, 1) := by decide +kernel
theorem dX2_change_22 : decode cX2_change 22 = .ok (.ixor, 1) := by decide +kernel
theorem dX2_change_23 : decode cX2_change 23 = .ok (.i2b, 1) := by decide +kernel
theorem dX2_change_24 : decode cX2_change 24 = .ok (.bastore, 1) := by decide +kernel
theorem dX2_change_25 : decode cX2_change 25 = .ok (.iconst 1, 1) := by decide +kernel
theorem dX2_change_26 : decode cX2_change 26 = .ok (.ireturn, 1) := by decide +kernel
theorem dX3_init_0 : decode cX3_init 0 = .ok (.aload_n 0, 1) := by decide +kernel
theorem dX3_init_1 : decode cX3_init 1 = .ok (.invokespecial 5, 3) := by decide +kernel
theorem dX3_init_4 : decode cX3_init 4 = .ok (.aload_n 0, 1) := by decide +kernel
theorem dX3_init_5 : decode cX3_init 5 = .ok (.sipush 128, 3) := by decide +kernel
theorem dX3_init_8 : decode cX3_init 8 = .ok (.newarray .byte, 2) := by decide +kernel
theorem dX3_init_10 : decode cX3_init 10 = .ok (.putfield 11, 3) := by decide +kernel
theorem dX3_init_13 : decode cX3_init 13 = .ok (.aload_n 0, 1) := by decide +kernel
theorem dX3_init_14 : decode cX3_init 14 = .ok (.bipush 64, 2) := by decide +kernel
theorem dX3_init_16 : decode cX3_init 16 = .ok (.newarray .int, 2) := by decide +kernel
theorem dX3_init_18 : decode cX3_init 18 = .ok (.putfield 15, 3) := by decide +kernel
theorem dX3_init_21 : decode cX3_init 21 = .ok (.aload_n 0, 1) := by decide +kernel
theorem dX3_init_22 : decode cX3_init 22 = .ok (.bipush 8, 2) := by decide +kernel
theorem dX3_init_24 : decode cX3_init 24 = .ok (.newarray .int, 2) := by decide +kernel
theorem dX3_init_26 : decode cX3_init 26 = .ok (.putfield 19, 3) := by decide +kernel
theorem dX3_init_29 : decode cX3_init 29 = .ok (.aload_n 0, 1) := by decide +kernel
theorem dX3_init_30 : decode cX3_init 30 = .ok (.iconst 0, 1) := by decide +kernel
theorem dX3_init_31 : decode cX3_init 31 = .ok (.putfield 22, 3) := by decide +kernel
theorem dX3_init_34 : decode cX3_init 34 = .ok (.return_, 1) := by decide +kernel
theorem dX3_start_0 : decode cX3_start 0 = .ok (.aload_n 0, 1) := by decide +kernel
theorem dX3_start_1 : decode cX3_start 1 = .ok (.iconst 0, 1) := by decide +kernel
theorem dX3_start_2 : decode cX3_start 2 = .ok (.putfield 22, 3) := by decide +kernel
theorem dX3_start_5 : decode cX3_start 5 = .ok (.return_, 1) := by decide +kernel
theorem dX3_add_0 : decode cX3_add 0 = .ok (.iconst 0, 1) := by decide +kernel
theorem dX3_add_1 : decode cX3_add 1 = .ok (.istore 4, 2) := by decide +kernel
theorem dX3_add_3 : decode cX3_add 3 = .ok (.iload 4, 2) := by decide +kernel
theorem dX3_add_5 : decode cX3_add 5 = .ok (.iload_n 3, 1) := by decide +kernel
theorem dX3_add_6 : decode cX3_add 6 = .ok (.if_icmp .ge 35, 3) := by decide +kernel
theorem dX3_add_9 : decode cX3_add 9 = .ok (.iload_n 2, 1) := by decide +kernel
theorem dX3_add_10 : decode cX3_add 10 = .ok (.iload 4, 2) := by decide +kernel
theorem dX3_add_12 : decode cX3_add 12 = .ok (.iadd, 1) := by decide +kernel
theorem dX3_add_13 : decode cX3_add 13 = .ok (.istore 5, 2) := by decide +kernel
theorem dX3_add_15 : decode cX3_add 15 = .ok (.iload 5, 2) := by decide +kernel
theorem dX3_add_17 : decode cX3_add 17 = .ok (.ifCond .lt 18, 3) := by decide +kernel
theorem dX3_add_20 : decode cX3_add 20 = .ok (.iload 5, 2) := by decide +kernel
theorem dX3_add_22 : decode cX3_add 22 = .ok (.aload_n 1, 1) := by decide +kernel
theorem dX3_add_23 : decode cX3_add 23 = .ok (.arraylength, 1) := by decide +kernel
theorem dX3_add_24 : decode cX3_add 24 = .ok (.if_icmp .ge 11, 3) := by decide +kernel
theorem dX3_add_27 : decode cX3_add 27 = .ok (.aload_n 0, 1) := by decide +kernel
theorem dX3_add_28 : decode cX3_add 28 = .ok (.aload_n 1, 1) := by decide +kernel
theorem dX3_add_29 : decode cX3_add 29 = .ok (.iload 5, 2) := by decide +kernel
theorem dX3_add_31 : decode cX3_add 31 = .ok (.baload, 1) := by decide +kernel
theorem dX3_add_32 : decode cX3_add 32 = .ok (.invokevirtual 26, 3) := by decide +kernel
theorem dX3_add_35 : decode cX3_add 35 = .ok (.iinc 4 1, 3) := by decide +kernel
theorem dX3_add_38 : decode cX3_add 38 = .ok (.goto (-35), 3) := by decide +kernel
theorem dX3_add_41 : decode cX3_add 41 = .ok (.return_, 1) := by decide +kernel
theorem dX3_addZeros_0 : decode cX3_addZeros 0 = .ok (.iconst 0, 1) := by decide +kernel
theorem dX3_addZeros_1 : decode cX3_addZeros 1 = .ok (.istore_n 2, 1) := by decide +kernel
theorem dX3_addZeros_2 : decode cX3_addZeros 2 = .ok (.iload_n 2, 1) := by decide +kernel
theorem dX3_addZeros_3 : decode cX3_addZeros 3 = .ok (.iload_n 1, 1) := by decide +kernel
theorem dX3_addZeros_4 : decode cX3_addZeros 4 = .ok (.if_icmp .ge 14, 3) := by decide +kernel
theorem dX3_addZeros_7 : decode cX3_addZeros 7 = .ok (.aload_n 0, 1) := by decide +kernel
theorem dX3_addZeros_8 : decode cX3_addZeros 8 = .ok (.iconst 0, 1) := by decide +kernel
theorem dX3_addZeros_9 : decode cX3_addZeros 9 = .ok (.invokevirtual 26, 3) := by decide +kernel
theorem dX3_addZeros_12 : decode cX3_addZeros 12 = .ok (.iinc 2 1, 3) := by decide +kernel
theorem dX3_addZeros_15 : decode cX3_addZeros 15 = .ok (.goto (-13), 3) := by decide +kernel
theorem dX3_addZeros_18 : decode cX3_addZeros 18 = .ok (.return_, 1) := by decide +kernel
theorem dX3_finish_0 : decode cX3_finish 0 = .ok (.ldc2_w 30, 3) := by decide +kernel
theorem dX3_finish_3 : decode cX3_finish 3 = .ok (.aload_n 0, 1) := by decide +kernel
theorem dX3_finish_4 : decode cX3_finish 4 = .ok (.getfield 22, 3) := by decide +kernel
theorem dX3_finish_7 : decode cX3_finish 7 = .ok (.i2l, 1) := by decide +kernel
theorem dX3_finish_8 : decode cX3_finish 8 = .ok (.lmul, 1) := by decide +kernel
theorem dX3_finish_9 : decode cX3_finish 9 = .ok (.lstore_n 1, 1) := by decide +kernel
theorem dX3_finish_10 : decode cX3_finish 10 = .ok (.aload_n 0, 1) := by decide +kernel
theorem dX3_finish_11 : decode cX3_finish 11 = .ok (.sipush 128, 3) := by decide +kernel
theorem dX3_finish_14 : decode cX3_finish 14 = .ok (.invokevirtual 26, 3) := by decide +kernel
theorem dX3_finish_17 : decode cX3_finish 17 = .ok (.iconst 0, 1) := by decide +kernel
theorem dX3_finish_18 : decode cX3_finish 18 = .ok (.istore_n 3, 1) := by decide +kernel
theorem dX3_finish_19 : decode cX3_finish 19 = .ok (.iload_n 3, 1) := by decide +kernel
theorem dX3_finish_20 : decode cX3_finish 20 = .ok (.bipush 64, 2) := by decide +kernel
theorem dX3_finish_22 : decode cX3_finish 22 = .ok (.if_icmp .ge 26, 3) := by decide +kernel
theorem dX3_finish_25 : decode cX3_finish 25 = .ok (.aload_n 0, 1) := by decide +kernel
theorem dX3_finish_26 : decode cX3_finish 26 = .ok (.getfield 22, 3) := by decide +kernel
theorem dX3_finish_29 : decode cX3_finish 29 = .ok (.bipush 64, 2) := by decide +kernel
theorem dX3_finish_31 : decode cX3_finish 31 = .ok (.irem, 1) := by decide +kernel
theorem dX3_finish_32 : decode cX3_finish 32 = .ok (.bipush 56, 2) := by decide +kernel
theorem dX3_finish_34 : decode cX3_finish 34 = .ok (.if_icmp .eq 14, 3) := by decide +kernel
theorem dX3_finish_37 : decode cX3_finish 37 = .ok (.aload_n 0, 1) := by decide +kernel
theorem dX3_finish_38 : decode cX3_finish 38 = .ok (.iconst 0, 1) := by decide +kernel
theorem dX3_finish_39 : decode cX3_finish 39 = .ok (.invokevirtual 26, 3) := by decide +kernel
theorem dX3_finish_42 : decode cX3_finish 42 = .ok (.iinc 3 1, 3) := by decide +kernel
theorem dX3_finish_45 : decode cX3_finish 45 = .ok (.goto (-26), 3) := by decide +kernel
theorem dX3_finish_48 : decode cX3_finish 48 = .ok (.bipush 7, 2) := by decide +kernel
theorem dX3_finish_50 : decode cX3_finish 50 = .ok (.istore_n 3, 1) := by decide +kernel
theorem dX3_finish_51 : decode cX3_finish 51 = .ok (.iload_n 3, 1) := by decide +kernel
theorem dX3_finish_52 : decode cX3_finish 52 = .ok (.ifCond .lt 20, 3) := by decide +kernel
theorem dX3_finish_55 : decode cX3_finish 55 = .ok (.aload_n 0, 1) := by decide +kernel
theorem dX3_finish_56 : decode cX3_finish 56 = .ok (.lload_n 1, 1) := by decide +kernel
theorem dX3_finish_57 : decode cX3_finish 57 = .ok (.bipush 8, 2) := by decide +kernel
theorem dX3_finish_59 : decode cX3_finish 59 = .ok (.iload_n 3, 1) := by decide +kernel
theorem dX3_finish_60 : decode cX3_finish 60 = .ok (.imul, 1) := by decide +kernel
theorem dX3_finish_61 : decode cX3_finish 61 = .ok (.lushr, 1) := by decide +kernel
theorem dX3_finish_62 : decode cX3_finish 62 = .ok (.l2i, 1) := by decide +kernel
theorem dX3_finish_63 : decode cX3_finish 63 = .ok (.invokevirtual 26, 3) := by decide +kernel
theorem dX3_finish_66 : decode cX3_finish 66 = .ok (.iinc 3 (-1), 3) := by decide +kernel
theorem dX3_finish_69 : decode cX3_finish 69 = .ok (.goto (-18), 3) := by decide +kernel
theorem dX3_finish_72 : decode cX3_finish 72 = .ok (.getstatic 32, 3) := by decide +kernel
theorem dX3_finish_75 : decode cX3_finish 75 = .ok (.iconst 0, 1) := by decide +kernel
theorem dX3_finish_76 : decode cX3_finish 76 = .ok (.aload_n 0, 1) := by decide +kernel
theorem dX3_finish_77 : decode cX3_finish 77 = .ok (.getfield 19, 3) := by decide +kernel
theorem dX3_finish_80 : decode cX3_finish 80 = .ok (.iconst 0, 1) := by decide +kernel
theorem dX3_finish_81 : decode cX3_finish 81 = .ok (.bipush 8, 2) := by decide +kernel
theorem dX3_finish_83 : decode cX3_finish 83 = .ok (.invokestatic 35, 3) := by decide +kernel
theorem dX3_finish_86 : decode cX3_finish 86 = .ok (.iconst 0, 1) := by decide +kernel
theorem dX3_finish_87 : decode cX3_finish 87 = .ok (.istore_n 3, 1) := by decide +kernel
theorem dX3_finish_88 : decode cX3_finish 88 = .ok (.iload_n 3, 1) := by decide +kernel
theorem dX3_finish_89 : decode cX3_finish 89 = .ok (.bipush 64, 2) := by decide +kernel
theorem dX3_finish_91 : decode cX3_finish 91 = .ok (.iadd, 1) := by decide +kernel
theorem dX3_finish_92 : decode cX3_finish 92 = .ok (.aload_n 0, 1) := by decide +kernel
theorem dX3_finish_93 : decode cX3_finish 93 = .ok (.getfield 22, 3) := by decide +kernel
theorem dX3_finish_96 : decode cX3_finish 96 = .ok (.if_icmp .gt 18, 3) := by decide +kernel
theorem dX3_finish_99 : decode cX3_finish 99 = .ok (.aload_n 0, 1) := by decide +kernel
theorem dX3_finish_100 : decode cX3_finish 100 = .ok (.iload_n 3, 1) := by decide +kernel
theorem dX3_finish_101 : decode cX3_finish 101 = .ok (.invokevirtual 41, 3) := by decide +kernel
theorem dX3_finish_104 : decode cX3_finish 104 = .ok (.aload_n 0, 1) := by decide +kernel
theorem dX3_finish_105 : decode cX3_finish 105 = .ok (.invokevirtual 44, 3) := by decide +kernel
theorem dX3_finish_108 : decode cX3_finish 108 = .ok (.iinc 3 64, 3) := by decide +kernel
theorem dX3_finish_111 : decode cX3_finish 111 = .ok (.goto (-23), 3) := by decide +kernel
theorem dX3_finish_114 : decode cX3_finish 114 = .ok (.return_, 1) := by decide +kernel
theorem dX3_copyTo_0 : decode cX3_copyTo 0 = .ok (.iconst 0, 1) := by decide +kernel
theorem dX3_copyTo_1 : decode cX3_copyTo 1 = .ok (.istore_n 3, 1) := by decide +kernel
theorem dX3_copyTo_2 : decode cX3_copyTo 2 = .ok (.iload_n 3, 1) := by decide +kernel
theorem dX3_copyTo_3 : decode cX3_copyTo 3 = .ok (.bipush 32, 2) := by decide +kernel
theorem dX3_copyTo_5 : decode cX3_copyTo 5 = .ok (.if_icmp .ge 35, 3) := by decide +kernel
theorem dX3_copyTo_8 : decode cX3_copyTo 8 = .ok (.iload_n 2, 1) := by decide +kernel
theorem dX3_copyTo_9 : decode cX3_copyTo 9 = .ok (.iload_n 3, 1) := by decide +kernel
theorem dX3_copyTo_10 : decode cX3_copyTo 10 = .ok (.iadd, 1) := by decide +kernel
theorem dX3_copyTo_11 : decode cX3_copyTo 11 = .ok (.istore 4, 2) := by decide +kernel
theorem dX3_copyTo_13 : decode cX3_copyTo 13 = .ok (.iload 4, 2) := by decide +kernel
theorem dX3_copyTo_15 : decode cX3_copyTo 15 = .ok (.ifCond .lt 19, 3) := by decide +kernel
theorem dX3_copyTo_18 : decode cX3_copyTo 18 = .ok (.iload 4, 2) := by decide +kernel
theorem dX3_copyTo_20 : decode cX3_copyTo 20 = .ok (.aload_n 1, 1) := by decide +kernel
theorem dX3_copyTo_21 : decode cX3_copyTo 21 = .ok (.arraylength, 1) := by decide +kernel
theorem dX3_copyTo_22 : decode cX3_copyTo 22 = .ok (.if_icmp .ge 12, 3) := by decide +kernel
theorem dX3_copyTo_25 : decode cX3_copyTo 25 = .ok (.aload_n 1, 1) := by decide +kernel
theorem dX3_copyTo_26 : decode cX3_copyTo 26 = .ok (.iload 4, 2) := by decide +kernel
theorem dX3_copyTo_28 : decode cX3_copyTo 28 = .ok (.aload_n 0, 1) := by decide +kernel
theorem dX3_copyTo_29 : decode cX3_copyTo 29 = .ok (.iload_n 3, 1) := by decide +kernel
theorem dX3_copyTo_30 : decode cX3_copyTo 30 = .ok (.invokevirtual 47, 3) := by decide +kernel
theorem dX3_copyTo_33 : decode cX3_copyTo 33 = .ok (.bastore, 1) := by decide +kernel
theorem dX3_copyTo_34 : decode cX3_copyTo 34 = .ok (.iinc 3 1, 3) := by decide +kernel
theorem dX3_copyTo_37 : decode cX3_copyTo 37 = .ok (.goto (-35), 3) := by decide +kernel
theorem dX3_copyTo_40 : decode cX3_copyTo 40 = .ok (.return_, 1) := by decide +kernel
theorem dX3_isAt_0 : decode cX3_isAt 0 = .ok (.iconst 0, 1) := by decide +kernel
theorem dX3_isAt_1 : decode cX3_isAt 1 = .ok (.istore_n 3, 1) := by decide +kernel
theorem dX3_isAt_2 : decode cX3_isAt 2 = .ok (.iload_n 3, 1) := by decide +kernel
theorem dX3_isAt_3 : decode cX3_isAt 3 = .ok (.bipush 32, 2) := by decide +kernel
theorem dX3_isAt_5 : decode cX3_isAt 5 = .ok (.if_icmp .ge 40, 3) := by decide +kernel
theorem dX3_isAt_8 : decode cX3_isAt 8 = .ok (.iload_n 2, 1) := by decide +kernel
theorem dX3_isAt_9 : decode cX3_isAt 9 = .ok (.iload_n 3, 1) := by decide +kernel
theorem dX3_isAt_10 : decode cX3_isAt 10 = .ok (.iadd, 1) := by decide +kernel
theorem dX3_isAt_11 : decode cX3_isAt 11 = .ok (.istore 4, 2) := by decide +kernel
theorem dX3_isAt_13 : decode cX3_isAt 13 = .ok (.iload 4, 2) := by decide +kernel
theorem dX3_isAt_15 : decode cX3_isAt 15 = .ok (.ifCond .lt 22, 3) := by decide +kernel
theorem dX3_isAt_18 : decode cX3_isAt 18 = .ok (.iload 4, 2) := by decide +kernel
theorem dX3_isAt_20 : decode cX3_isAt 20 = .ok (.aload_n 1, 1) := by decide +kernel
theorem dX3_isAt_21 : decode cX3_isAt 21 = .ok (.arraylength, 1) := by decide +kernel
theorem dX3_isAt_22 : decode cX3_isAt 22 = .ok (.if_icmp .ge 15, 3) := by decide +kernel
theorem dX3_isAt_25 : decode cX3_isAt 25 = .ok (.aload_n 1, 1) := by decide +kernel
theorem dX3_isAt_26 : decode cX3_isAt 26 = .ok (.iload 4, 2) := by decide +kernel
theorem dX3_isAt_28 : decode cX3_isAt 28 = .ok (.baload, 1) := by decide +kernel
theorem dX3_isAt_29 : decode cX3_isAt 29 = .ok (.aload_n 0, 1) := by decide +kernel
theorem dX3_isAt_30 : decode cX3_isAt 30 = .ok (.iload_n 3, 1) := by decide +kernel
theorem dX3_isAt_31 : decode cX3_isAt 31 = .ok (.invokevirtual 47, 3) := by decide +kernel
theorem dX3_isAt_34 : decode cX3_isAt 34 = .ok (.if_icmp .eq 5, 3) := by decide +kernel
theorem dX3_isAt_37 : decode cX3_isAt 37 = .ok (.iconst 0, 1) := by decide +kernel
theorem dX3_isAt_38 : decode cX3_isAt 38 = .ok (.ireturn, 1) := by decide +kernel
theorem dX3_isAt_39 : decode cX3_isAt 39 = .ok (.iinc 3 1, 3) := by decide +kernel
theorem dX3_isAt_42 : decode cX3_isAt 42 = .ok (.goto (-40), 3) := by decide +kernel
theorem dX3_isAt_45 : decode cX3_isAt 45 = .ok (.iconst 1, 1) := by decide +kernel
theorem dX3_isAt_46 : decode cX3_isAt 46 = .ok (.ireturn, 1) := by decide +kernel
theorem dX3_sumByte_0 : decode cX3_sumByte 0 = .ok (.aload_n 0, 1) := by decide +kernel
theorem dX3_sumByte_1 : decode cX3_sumByte 1 = .ok (.getfield 19, 3) := by decide +kernel
theorem dX3_sumByte_4 : decode cX3_sumByte 4 = .ok (.iload_n 1, 1) := by decide +kernel
theorem dX3_sumByte_5 : decode cX3_sumByte 5 = .ok (.iconst 4, 1) := by decide +kernel
theorem dX3_sumByte_6 : decode cX3_sumByte 6 = .ok (.idiv, 1) := by decide +kernel
theorem dX3_sumByte_7 : decode cX3_sumByte 7 = .ok (.iaload, 1) := by decide +kernel
theorem dX3_sumByte_8 : decode cX3_sumByte 8 = .ok (.bipush 24, 2) := by decide +kernel
theorem dX3_sumByte_10 : decode cX3_sumByte 10 = .ok (.bipush 8, 2) := by decide +kernel
theorem dX3_sumByte_12 : decode cX3_sumByte 12 = .ok (.iload_n 1, 1) := by decide +kernel
theorem dX3_sumByte_13 : decode cX3_sumByte 13 = .ok (.iconst 4, 1) := by decide +kernel
theorem dX3_sumByte_14 : decode cX3_sumByte 14 = .ok (.irem, 1) := by decide +kernel
theorem dX3_sumByte_15 : decode cX3_sumByte 15 = .ok (.imul, 1) := by decide +kernel
theorem dX3_sumByte_16 : decode cX3_sumByte 16 = .ok (.isub, 1) := by decide +kernel
theorem dX3_sumByte_17 : decode cX3_sumByte 17 = .ok (.iushr, 1) := by decide +kernel
theorem dX3_sumByte_18 : decode cX3_sumByte 18 = .ok (.i2b, 1) := by decide +kernel
theorem dX3_sumByte_19 : decode cX3_sumByte 19 = .ok (.ireturn, 1) := by decide +kernel
theorem dX3_addByte_0 : decode cX3_addByte 0 = .ok (.aload_n 0, 1) := by decide +kernel
theorem dX3_addByte_1 : decode cX3_addByte 1 = .ok (.getfield 22, 3) := by decide +kernel
theorem dX3_addByte_4 : decode cX3_addByte 4 = .ok (.aload_n 0, 1) := by decide +kernel
theorem dX3_addByte_5 : decode cX3_addByte 5 = .ok (.getfield 11, 3) := by decide +kernel
theorem dX3_addByte_8 : decode cX3_addByte 8 = .ok (.arraylength, 1) := by decide +kernel
theorem dX3_addByte_9 : decode cX3_addByte 9 = .ok (.if_icmp .ge 24, 3) := by decide +kernel
theorem dX3_addByte_12 : decode cX3_addByte 12 = .ok (.aload_n 0, 1) := by decide +kernel
theorem dX3_addByte_13 : decode cX3_addByte 13 = .ok (.getfield 11, 3) := by decide +kernel
theorem dX3_addByte_16 : decode cX3_addByte 16 = .ok (.aload_n 0, 1) := by decide +kernel
theorem dX3_addByte_17 : decode cX3_addByte 17 = .ok (.getfield 22, 3) := by decide +kernel
theorem dX3_addByte_20 : decode cX3_addByte 20 = .ok (.iload_n 1, 1) := by decide +kernel
theorem dX3_addByte_21 : decode cX3_addByte 21 = .ok (.i2b, 1) := by decide +kernel
theorem dX3_addByte_22 : decode cX3_addByte 22 = .ok (.bastore, 1) := by decide +kernel
theorem dX3_addByte_23 : decode cX3_addByte 23 = .ok (.aload_n 0, 1) := by decide +kernel
theorem dX3_addByte_24 : decode cX3_addByte 24 = .ok (.dup, 1) := by decide +kernel
theorem dX3_addByte_25 : decode cX3_addByte 25 = .ok (.getfield 22, 3) := by decide +kernel
theorem dX3_addByte_28 : decode cX3_addByte 28 = .ok (.iconst 1, 1) := by decide +kernel
theorem dX3_addByte_29 : decode cX3_addByte 29 = .ok (.iadd, 1) := by decide +kernel
theorem dX3_addByte_30 : decode cX3_addByte 30 = .ok (.putfield 22, 3) := by decide +kernel
theorem dX3_addByte_33 : decode cX3_addByte 33 = .ok (.return_, 1) := by decide +kernel
theorem dX3_readWords_0 : decode cX3_readWords 0 = .ok (.iconst 0, 1) := by decide +kernel
theorem dX3_readWords_1 : decode cX3_readWords 1 = .ok (.istore_n 2, 1) := by decide +kernel
theorem dX3_readWords_2 : decode cX3_readWords 2 = .ok (.iload_n 2, 1) := by decide +kernel
theorem dX3_readWords_3 : decode cX3_readWords 3 = .ok (.bipush 16, 2) := by decide +kernel
theorem dX3_readWords_5 : decode cX3_readWords 5 = .ok (.if_icmp .ge 56, 3) := by decide +kernel
theorem dX3_readWords_8 : decode cX3_readWords 8 = .ok (.iconst 0, 1) := by decide +kernel
theorem dX3_readWords_9 : decode cX3_readWords 9 = .ok (.istore_n 3, 1) := by decide +kernel
theorem dX3_readWords_10 : decode cX3_readWords 10 = .ok (.iconst 0, 1) := by decide +kernel
theorem dX3_readWords_11 : decode cX3_readWords 11 = .ok (.istore 4, 2) := by decide +kernel
theorem dX3_readWords_13 : decode cX3_readWords 13 = .ok (.iload 4, 2) := by decide +kernel
theorem dX3_readWords_15 : decode cX3_readWords 15 = .ok (.iconst 4, 1) := by decide +kernel
theorem dX3_readWords_16 : decode cX3_readWords 16 = .ok (.if_icmp .ge 32, 3) := by decide +kernel
theorem dX3_readWords_19 : decode cX3_readWords 19 = .ok (.iload_n 3, 1) := by decide +kernel
theorem dX3_readWords_20 : decode cX3_readWords 20 = .ok (.bipush 8, 2) := by decide +kernel
theorem dX3_readWords_22 : decode cX3_readWords 22 = .ok (.ishl, 1) := by decide +kernel
theorem dX3_readWords_23 : decode cX3_readWords 23 = .ok (.aload_n 0, 1) := by decide +kernel
theorem dX3_readWords_24 : decode cX3_readWords 24 = .ok (.getfield 11, 3) := by decide +kernel
theorem dX3_readWords_27 : decode cX3_readWords 27 = .ok (.iload_n 1, 1) := by decide +kernel
theorem dX3_readWords_28 : decode cX3_readWords 28 = .ok (.iconst 4, 1) := by decide +kernel
theorem dX3_readWords_29 : decode cX3_readWords 29 = .ok (.iload_n 2, 1) := by decide +kernel
theorem dX3_readWords_30 : decode cX3_readWords 30 = .ok (.imul, 1) := by decide +kernel
theorem dX3_readWords_31 : decode cX3_readWords 31 = .ok (.iadd, 1) := by decide +kernel
theorem dX3_readWords_32 : decode cX3_readWords 32 = .ok (.iload 4, 2) := by decide +kernel
theorem dX3_readWords_34 : decode cX3_readWords 34 = .ok (.iadd, 1) := by decide +kernel
theorem dX3_readWords_35 : decode cX3_readWords 35 = .ok (.baload, 1) := by decide +kernel
theorem dX3_readWords_36 : decode cX3_readWords 36 = .ok (.sipush 255, 3) := by decide +kernel
theorem dX3_readWords_39 : decode cX3_readWords 39 = .ok (.iand, 1) := by decide +kernel
theorem dX3_readWords_40 : decode cX3_readWords 40 = .ok (.ior, 1) := by decide +kernel
theorem dX3_readWords_41 : decode cX3_readWords 41 = .ok (.istore_n 3, 1) := by decide +kernel
theorem dX3_readWords_42 : decode cX3_readWords 42 = .ok (.iinc 4 1, 3) := by decide +kernel
theorem dX3_readWords_45 : decode cX3_readWords 45 = .ok (.goto (-32), 3) := by decide +kernel
theorem dX3_readWords_48 : decode cX3_readWords 48 = .ok (.aload_n 0, 1) := by decide +kernel
theorem dX3_readWords_49 : decode cX3_readWords 49 = .ok (.getfield 15, 3) := by decide +kernel
theorem dX3_readWords_52 : decode cX3_readWords 52 = .ok (.iload_n 2, 1) := by decide +kernel
theorem dX3_readWords_53 : decode cX3_readWords 53 = .ok (.iload_n 3, 1) := by decide +kernel
theorem dX3_readWords_54 : decode cX3_readWords 54 = .ok (.iastore, 1) := by decide +kernel
theorem dX3_readWords_55 : decode cX3_readWords 55 = .ok (.iinc 2 1, 3) := by decide +kernel
theorem dX3_readWords_58 : decode cX3_readWords 58 = .ok (.goto (-56), 3) := by decide +kernel
theorem dX3_readWords_61 : decode cX3_readWords 61 = .ok (.bipush 16, 2) := by decide +kernel
theorem dX3_readWords_63 : decode cX3_readWords 63 = .ok (.istore_n 2, 1) := by decide +kernel
theorem dX3_readWords_64 : decode cX3_readWords 64 = .ok (.iload_n 2, 1) := by decide +kernel
theorem dX3_readWords_65 : decode cX3_readWords 65 = .ok (.bipush 64, 2) := by decide +kernel
theorem dX3_readWords_67 : decode cX3_readWords 67 = .ok (.if_icmp .ge 59, 3) := by decide +kernel
theorem dX3_readWords_70 : decode cX3_readWords 70 = .ok (.aload_n 0, 1) := by decide +kernel
theorem dX3_readWords_71 : decode cX3_readWords 71 = .ok (.getfield 15, 3) := by decide +kernel
theorem dX3_readWords_74 : decode cX3_readWords 74 = .ok (.iload_n 2, 1) := by decide +kernel
theorem dX3_readWords_75 : decode cX3_readWords 75 = .ok (.aload_n 0, 1) := by decide +kernel
theorem dX3_readWords_76 : decode cX3_readWords 76 = .ok (.getfield 15, 3) := by decide +kernel
theorem dX3_readWords_79 : decode cX3_readWords 79 = .ok (.iload_n 2, 1) := by decide +kernel
theorem dX3_readWords_80 : decode cX3_readWords 80 = .ok (.iconst 2, 1) := by decide +kernel
theorem dX3_readWords_81 : decode cX3_readWords 81 = .ok (.isub, 1) := by decide +kernel
theorem dX3_readWords_82 : decode cX3_readWords 82 = .ok (.iaload, 1) := by decide +kernel
theorem dX3_readWords_83 : decode cX3_readWords 83 = .ok (.invokestatic 51, 3) := by decide +kernel
theorem dX3_readWords_86 : decode cX3_readWords 86 = .ok (.aload_n 0, 1) := by decide +kernel
theorem dX3_readWords_87 : decode cX3_readWords 87 = .ok (.getfield 15, 3) := by decide +kernel
theorem dX3_readWords_90 : decode cX3_readWords 90 = .ok (.iload_n 2, 1) := by decide +kernel
theorem dX3_readWords_91 : decode cX3_readWords 91 = .ok (.bipush 7, 2) := by decide +kernel
theorem dX3_readWords_93 : decode cX3_readWords 93 = .ok (.isub, 1) := by decide +kernel
theorem dX3_readWords_94 : decode cX3_readWords 94 = .ok (.iaload, 1) := by decide +kernel
theorem dX3_readWords_95 : decode cX3_readWords 95 = .ok (.iadd, 1) := by decide +kernel
theorem dX3_readWords_96 : decode cX3_readWords 96 = .ok (.aload_n 0, 1) := by decide +kernel
theorem dX3_readWords_97 : decode cX3_readWords 97 = .ok (.getfield 15, 3) := by decide +kernel
theorem dX3_readWords_100 : decode cX3_readWords 100 = .ok (.iload_n 2, 1) := by decide +kernel
theorem dX3_readWords_101 : decode cX3_readWords 101 = .ok (.bipush 15, 2) := by decide +kernel
theorem dX3_readWords_103 : decode cX3_readWords 103 = .ok (.isub, 1) := by decide +kernel
theorem dX3_readWords_104 : decode cX3_readWords 104 = .ok (.iaload, 1) := by decide +kernel
theorem dX3_readWords_105 : decode cX3_readWords 105 = .ok (.invokestatic 55, 3) := by decide +kernel
theorem dX3_readWords_108 : decode cX3_readWords 108 = .ok (.iadd, 1) := by decide +kernel
theorem dX3_readWords_109 : decode cX3_readWords 109 = .ok (.aload_n 0, 1) := by decide +kernel
theorem dX3_readWords_110 : decode cX3_readWords 110 = .ok (.getfield 15, 3) := by decide +kernel
theorem dX3_readWords_113 : decode cX3_readWords 113 = .ok (.iload_n 2, 1) := by decide +kernel
theorem dX3_readWords_114 : decode cX3_readWords 114 = .ok (.bipush 16, 2) := by decide +kernel
theorem dX3_readWords_116 : decode cX3_readWords 116 = .ok (.isub, 1) := by decide +kernel
theorem dX3_readWords_117 : decode cX3_readWords 117 = .ok (.iaload, 1) := by decide +kernel
theorem dX3_readWords_118 : decode cX3_readWords 118 = .ok (.iadd, 1) := by decide +kernel
theorem dX3_readWords_119 : decode cX3_readWords 119 = .ok (.iastore, 1) := by decide +kernel
theorem dX3_readWords_120 : decode cX3_readWords 120 = .ok (.iinc 2 1, 3) := by decide +kernel
theorem dX3_readWords_123 : decode cX3_readWords 123 = .ok (.goto (-59), 3) := by decide +kernel
theorem dX3_readWords_126 : decode cX3_readWords 126 = .ok (.return_, 1) := by decide +kernel
theorem dX3_mixWords_0 : decode cX3_mixWords 0 = .ok (.aload_n 0, 1) := by decide +kernel
theorem dX3_mixWords_1 : decode cX3_mixWords 1 = .ok (.getfield 19, 3) := by decide +kernel
theorem dX3_mixWords_4 : decode cX3_mixWords 4 = .ok (.iconst 0, 1) := by decide +kernel
theorem dX3_mixWords_5 : decode cX3_mixWords 5 = .ok (.iaload, 1) := by decide +kernel
theorem dX3_mixWords_6 : decode cX3_mixWords 6 = .ok (.istore_n 1, 1) := by decide +kernel
theorem dX3_mixWords_7 : decode cX3_mixWords 7 = .ok (.aload_n 0, 1) := by decide +kernel
theorem dX3_mixWords_8 : decode cX3_mixWords 8 = .ok (.getfield 19, 3) := by decide +kernel
theorem dX3_mixWords_11 : decode cX3_mixWords 11 = .ok (.iconst 1, 1) := by decide +kernel
theorem dX3_mixWords_12 : decode cX3_mixWords 12 = .ok (.iaload, 1) := by decide +kernel
theorem dX3_mixWords_13 : decode cX3_mixWords 13 = .ok (.istore_n 2, 1) := by decide +kernel
theorem dX3_mixWords_14 : decode cX3_mixWords 14 = .ok (.aload_n 0, 1) := by decide +kernel
theorem dX3_mixWords_15 : decode cX3_mixWords 15 = .ok (.getfield 19, 3) := by decide +kernel
theorem dX3_mixWords_18 : decode cX3_mixWords 18 = .ok (.iconst 2, 1) := by decide +kernel
theorem dX3_mixWords_19 : decode cX3_mixWords 19 = .ok (.iaload, 1) := by decide +kernel
theorem dX3_mixWords_20 : decode cX3_mixWords 20 = .ok (.istore_n 3, 1) := by decide +kernel
theorem dX3_mixWords_21 : decode cX3_mixWords 21 = .ok (.aload_n 0, 1) := by decide +kernel
theorem dX3_mixWords_22 : decode cX3_mixWords 22 = .ok (.getfield 19, 3) := by decide +kernel
theorem dX3_mixWords_25 : decode cX3_mixWords 25 = .ok (.iconst 3, 1) := by decide +kernel
theorem dX3_mixWords_26 : decode cX3_mixWords 26 = .ok (.iaload, 1) := by decide +kernel
theorem dX3_mixWords_27 : decode cX3_mixWords 27 = .ok (.istore 4, 2) := by decide +kernel
theorem dX3_mixWords_29 : decode cX3_mixWords 29 = .ok (.aload_n 0, 1) := by decide +kernel
theorem dX3_mixWords_30 : decode cX3_mixWords 30 = .ok (.getfield 19, 3) := by decide +kernel
theorem dX3_mixWords_33 : decode cX3_mixWords 33 = .ok (.iconst 4, 1) := by decide +kernel
theorem dX3_mixWords_34 : decode cX3_mixWords 34 = .ok (.iaload, 1) := by decide +kernel
theorem dX3_mixWords_35 : decode cX3_mixWords 35 = .ok (.istore 5, 2) := by decide +kernel
theorem dX3_mixWords_37 : decode cX3_mixWords 37 = .ok (.aload_n 0, 1) := by decide +kernel
theorem dX3_mixWords_38 : decode cX3_mixWords 38 = .ok (.getfield 19, 3) := by decide +kernel
theorem dX3_mixWords_41 : decode cX3_mixWords 41 = .ok (.iconst 5, 1) := by decide +kernel
theorem dX3_mixWords_42 : decode cX3_mixWords 42 = .ok (.iaload, 1) := by decide +kernel
theorem dX3_mixWords_43 : decode cX3_mixWords 43 = .ok (.istore 6, 2) := by decide +kernel
theorem dX3_mixWords_45 : decode cX3_mixWords 45 = .ok (.aload_n 0, 1) := by decide +kernel
theorem dX3_mixWords_46 : decode cX3_mixWords 46 = .ok (.getfield 19, 3) := by decide +kernel
theorem dX3_mixWords_49 : decode cX3_mixWords 49 = .ok (.bipush 6, 2) := by decide +kernel
theorem dX3_mixWords_51 : decode cX3_mixWords 51 = .ok (.iaload, 1) := by decide +kernel
theorem dX3_mixWords_52 : decode cX3_mixWords 52 = .ok (.istore 7, 2) := by decide +kernel
theorem dX3_mixWords_54 : decode cX3_mixWords 54 = .ok (.aload_n 0, 1) := by decide +kernel
theorem dX3_mixWords_55 : decode cX3_mixWords 55 = .ok (.getfield 19, 3) := by decide +kernel
theorem dX3_mixWords_58 : decode cX3_mixWords 58 = .ok (.bipush 7, 2) := by decide +kernel
theorem dX3_mixWords_60 : decode cX3_mixWords 60 = .ok (.iaload, 1) := by decide +kernel
theorem dX3_mixWords_61 : decode cX3_mixWords 61 = .ok (.istore 8, 2) := by decide +kernel
theorem dX3_mixWords_63 : decode cX3_mixWords 63 = .ok (.iconst 0, 1) := by decide +kernel
theorem dX3_mixWords_64 : decode cX3_mixWords 64 = .ok (.istore 9, 2) := by decide +kernel
theorem dX3_mixWords_66 : decode cX3_mixWords 66 = .ok (.iload 9, 2) := by decide +kernel
theorem dX3_mixWords_68 : decode cX3_mixWords 68 = .ok (.bipush 64, 2) := by decide +kernel
theorem dX3_mixWords_70 : decode cX3_mixWords 70 = .ok (.if_icmp .ge 131, 3) := by decide +kernel
theorem dX3_mixWords_73 : decode cX3_mixWords 73 = .ok (.iload 8, 2) := by decide +kernel
theorem dX3_mixWords_75 : decode cX3_mixWords 75 = .ok (.iload 5, 2) := by decide +kernel
theorem dX3_mixWords_77 : decode cX3_mixWords 77 = .ok (.bipush 6, 2) := by decide +kernel
theorem dX3_mixWords_79 : decode cX3_mixWords 79 = .ok (.invokestatic 58, 3) := by decide +kernel
theorem dX3_mixWords_82 : decode cX3_mixWords 82 = .ok (.iload 5, 2) := by decide +kernel
theorem dX3_mixWords_84 : decode cX3_mixWords 84 = .ok (.bipush 11, 2) := by decide +kernel
theorem dX3_mixWords_86 : decode cX3_mixWords 86 = .ok (.invokestatic 58, 3) := by decide +kernel
theorem dX3_mixWords_89 : decode cX3_mixWords 89 = .ok (.ixor, 1) := by decide +kernel
theorem dX3_mixWords_90 : decode cX3_mixWords 90 = .ok (.iload 5, 2) := by decide +kernel
theorem dX3_mixWords_92 : decode cX3_mixWords 92 = .ok (.bipush 25, 2) := by decide +kernel
theorem dX3_mixWords_94 : decode cX3_mixWords 94 = .ok (.invokestatic 58, 3) := by decide +kernel
theorem dX3_mixWords_97 : decode cX3_mixWords 97 = .ok (.ixor, 1) := by decide +kernel
theorem dX3_mixWords_98 : decode cX3_mixWords 98 = .ok (.iadd, 1) := by decide +kernel
theorem dX3_mixWords_99 : decode cX3_mixWords 99 = .ok (.iload 5, 2) := by decide +kernel
theorem dX3_mixWords_101 : decode cX3_mixWords 101 = .ok (.iload 6, 2) := by decide +kernel
theorem dX3_mixWords_103 : decode cX3_mixWords 103 = .ok (.iand, 1) := by decide +kernel
theorem dX3_mixWords_104 : decode cX3_mixWords 104 = .ok (.iload 5, 2) := by decide +kernel
theorem dX3_mixWords_106 : decode cX3_mixWords 106 = .ok (.iconst (-1), 1) := by decide +kernel
theorem dX3_mixWords_107 : decode cX3_mixWords 107 = .ok (.ixor, 1) := by decide +kernel
theorem dX3_mixWords_108 : decode cX3_mixWords 108 = .ok (.iload 7, 2) := by decide +kernel
theorem dX3_mixWords_110 : decode cX3_mixWords 110 = .ok (.iand, 1) := by decide +kernel
theorem dX3_mixWords_111 : decode cX3_mixWords 111 = .ok (.ixor, 1) := by decide +kernel
theorem dX3_mixWords_112 : decode cX3_mixWords 112 = .ok (.iadd, 1) := by decide +kernel
theorem dX3_mixWords_113 : decode cX3_mixWords 113 = .ok (.getstatic 62, 3) := by decide +kernel
theorem dX3_mixWords_116 : decode cX3_mixWords 116 = .ok (.iload 9, 2) := by decide +kernel
theorem dX3_mixWords_118 : decode cX3_mixWords 118 = .ok (.iaload, 1) := by decide +kernel
theorem dX3_mixWords_119 : decode cX3_mixWords 119 = .ok (.iadd, 1) := by decide +kernel
theorem dX3_mixWords_120 : decode cX3_mixWords 120 = .ok (.aload_n 0, 1) := by decide +kernel
theorem dX3_mixWords_121 : decode cX3_mixWords 121 = .ok (.getfield 15, 3) := by decide +kernel
theorem dX3_mixWords_124 : decode cX3_mixWords 124 = .ok (.iload 9, 2) := by decide +kernel
theorem dX3_mixWords_126 : decode cX3_mixWords 126 = .ok (.iaload, 1) := by decide +kernel
theorem dX3_mixWords_127 : decode cX3_mixWords 127 = .ok (.iadd, 1) := by decide +kernel
theorem dX3_mixWords_128 : decode cX3_mixWords 128 = .ok (.istore 10, 2) := by decide +kernel
theorem dX3_mixWords_130 : decode cX3_mixWords 130 = .ok (.iload_n 1, 1) := by decide +kernel
theorem dX3_mixWords_131 : decode cX3_mixWords 131 = .ok (.iconst 2, 1) := by decide +kernel
theorem dX3_mixWords_132 : decode cX3_mixWords 132 = .ok (.invokestatic 58, 3) := by decide +kernel
theorem dX3_mixWords_135 : decode cX3_mixWords 135 = .ok (.iload_n 1, 1) := by decide +kernel
theorem dX3_mixWords_136 : decode cX3_mixWords 136 = .ok (.bipush 13, 2) := by decide +kernel
theorem dX3_mixWords_138 : decode cX3_mixWords 138 = .ok (.invokestatic 58, 3) := by decide +kernel
theorem dX3_mixWords_141 : decode cX3_mixWords 141 = .ok (.ixor, 1) := by decide +kernel
theorem dX3_mixWords_142 : decode cX3_mixWords 142 = .ok (.iload_n 1, 1) := by decide +kernel
theorem dX3_mixWords_143 : decode cX3_mixWords 143 = .ok (.bipush 22, 2) := by decide +kernel
theorem dX3_mixWords_145 : decode cX3_mixWords 145 = .ok (.invokestatic 58, 3) := by decide +kernel
theorem dX3_mixWords_148 : decode cX3_mixWords 148 = .ok (.ixor, 1) := by decide +kernel
theorem dX3_mixWords_149 : decode cX3_mixWords 149 = .ok (.iload_n 1, 1) := by decide +kernel
theorem dX3_mixWords_150 : decode cX3_mixWords 150 = .ok (.iload_n 2, 1) := by decide +kernel
theorem dX3_mixWords_151 : decode cX3_mixWords 151 = .ok (.iand, 1) := by decide +kernel
theorem dX3_mixWords_152 : decode cX3_mixWords 152 = .ok (.iload_n 1, 1) := by decide +kernel
theorem dX3_mixWords_153 : decode cX3_mixWords 153 = .ok (.iload_n 3, 1) := by decide +kernel
theorem dX3_mixWords_154 : decode cX3_mixWords 154 = .ok (.iand, 1) := by decide +kernel
theorem dX3_mixWords_155 : decode cX3_mixWords 155 = .ok (.ixor, 1) := by decide +kernel
theorem dX3_mixWords_156 : decode cX3_mixWords 156 = .ok (.iload_n 2, 1) := by decide +kernel
theorem dX3_mixWords_157 : decode cX3_mixWords 157 = .ok (.iload_n 3, 1) := by decide +kernel
theorem dX3_mixWords_158 : decode cX3_mixWords 158 = .ok (.iand, 1) := by decide +kernel
theorem dX3_mixWords_159 : decode cX3_mixWords 159 = .ok (.ixor, 1) := by decide +kernel
theorem dX3_mixWords_160 : decode cX3_mixWords 160 = .ok (.iadd, 1) := by decide +kernel
theorem dX3_mixWords_161 : decode cX3_mixWords 161 = .ok (.istore 11, 2) := by decide +kernel
theorem dX3_mixWords_163 : decode cX3_mixWords 163 = .ok (.iload 7, 2) := by decide +kernel
theorem dX3_mixWords_165 : decode cX3_mixWords 165 = .ok (.istore 8, 2) := by decide +kernel
theorem dX3_mixWords_167 : decode cX3_mixWords 167 = .ok (.iload 6, 2) := by decide +kernel
theorem dX3_mixWords_169 : decode cX3_mixWords 169 = .ok (.istore 7, 2) := by decide +kernel
theorem dX3_mixWords_171 : decode cX3_mixWords 171 = .ok (.iload 5, 2) := by decide +kernel
theorem dX3_mixWords_173 : decode cX3_mixWords 173 = .ok (.istore 6, 2) := by decide +kernel
theorem dX3_mixWords_175 : decode cX3_mixWords 175 = .ok (.iload 4, 2) := by decide +kernel
theorem dX3_mixWords_177 : decode cX3_mixWords 177 = .ok (.iload 10, 2) := by decide +kernel
theorem dX3_mixWords_179 : decode cX3_mixWords 179 = .ok (.iadd, 1) := by decide +kernel
theorem dX3_mixWords_180 : decode cX3_mixWords 180 = .ok (.istore 5, 2) := by decide +kernel
theorem dX3_mixWords_182 : decode cX3_mixWords 182 = .ok (.iload_n 3, 1) := by decide +kernel
theorem dX3_mixWords_183 : decode cX3_mixWords 183 = .ok (.istore 4, 2) := by decide +kernel
theorem dX3_mixWords_185 : decode cX3_mixWords 185 = .ok (.iload_n 2, 1) := by decide +kernel
theorem dX3_mixWords_186 : decode cX3_mixWords 186 = .ok (.istore_n 3, 1) := by decide +kernel
theorem dX3_mixWords_187 : decode cX3_mixWords 187 = .ok (.iload_n 1, 1) := by decide +kernel
theorem dX3_mixWords_188 : decode cX3_mixWords 188 = .ok (.istore_n 2, 1) := by decide +kernel
theorem dX3_mixWords_189 : decode cX3_mixWords 189 = .ok (.iload 10, 2) := by decide +kernel
theorem dX3_mixWords_191 : decode cX3_mixWords 191 = .ok (.iload 11, 2) := by decide +kernel
theorem dX3_mixWords_193 : decode cX3_mixWords 193 = .ok (.iadd, 1) := by decide +kernel
theorem dX3_mixWords_194 : decode cX3_mixWords 194 = .ok (.istore_n 1, 1) := by decide +kernel
theorem dX3_mixWords_195 : decode cX3_mixWords 195 = .ok (.iinc 9 1, 3) := by decide +kernel
theorem dX3_mixWords_198 : decode cX3_mixWords 198 = .ok (.goto (-132), 3) := by decide +kernel
theorem dX3_mixWords_201 : decode cX3_mixWords 201 = .ok (.aload_n 0, 1) := by decide +kernel
theorem dX3_mixWords_202 : decode cX3_mixWords 202 = .ok (.getfield 19, 3) := by decide +kernel
theorem dX3_mixWords_205 : decode cX3_mixWords 205 = .ok (.iconst 0, 1) := by decide +kernel
theorem dX3_mixWords_206 : decode cX3_mixWords 206 = .ok (.dup2, 1) := by decide +kernel
theorem dX3_mixWords_207 : decode cX3_mixWords 207 = .ok (.iaload, 1) := by decide +kernel
theorem dX3_mixWords_208 : decode cX3_mixWords 208 = .ok (.iload_n 1, 1) := by decide +kernel
theorem dX3_mixWords_209 : decode cX3_mixWords 209 = .ok (.iadd, 1) := by decide +kernel
theorem dX3_mixWords_210 : decode cX3_mixWords 210 = .ok (.iastore, 1) := by decide +kernel
theorem dX3_mixWords_211 : decode cX3_mixWords 211 = .ok (.aload_n 0, 1) := by decide +kernel
theorem dX3_mixWords_212 : decode cX3_mixWords 212 = .ok (.getfield 19, 3) := by decide +kernel
theorem dX3_mixWords_215 : decode cX3_mixWords 215 = .ok (.iconst 1, 1) := by decide +kernel
theorem dX3_mixWords_216 : decode cX3_mixWords 216 = .ok (.dup2, 1) := by decide +kernel
theorem dX3_mixWords_217 : decode cX3_mixWords 217 = .ok (.iaload, 1) := by decide +kernel
theorem dX3_mixWords_218 : decode cX3_mixWords 218 = .ok (.iload_n 2, 1) := by decide +kernel
theorem dX3_mixWords_219 : decode cX3_mixWords 219 = .ok (.iadd, 1) := by decide +kernel
theorem dX3_mixWords_220 : decode cX3_mixWords 220 = .ok (.iastore, 1) := by decide +kernel
theorem dX3_mixWords_221 : decode cX3_mixWords 221 = .ok (.aload_n 0, 1) := by decide +kernel
theorem dX3_mixWords_222 : decode cX3_mixWords 222 = .ok (.getfield 19, 3) := by decide +kernel
theorem dX3_mixWords_225 : decode cX3_mixWords 225 = .ok (.iconst 2, 1) := by decide +kernel
theorem dX3_mixWords_226 : decode cX3_mixWords 226 = .ok (.dup2, 1) := by decide +kernel
theorem dX3_mixWords_227 : decode cX3_mixWords 227 = .ok (.iaload, 1) := by decide +kernel
theorem dX3_mixWords_228 : decode cX3_mixWords 228 = .ok (.iload_n 3, 1) := by decide +kernel
theorem dX3_mixWords_229 : decode cX3_mixWords 229 = .ok (.iadd, 1) := by decide +kernel
theorem dX3_mixWords_230 : decode cX3_mixWords 230 = .ok (.iastore, 1) := by decide +kernel
theorem dX3_mixWords_231 : decode cX3_mixWords 231 = .ok (.aload_n 0, 1) := by decide +kernel
theorem dX3_mixWords_232 : decode cX3_mixWords 232 = .ok (.getfield 19, 3) := by decide +kernel
theorem dX3_mixWords_235 : decode cX3_mixWords 235 = .ok (.iconst 3, 1) := by decide +kernel
theorem dX3_mixWords_236 : decode cX3_mixWords 236 = .ok (.dup2, 1) := by decide +kernel
theorem dX3_mixWords_237 : decode cX3_mixWords 237 = .ok (.iaload, 1) := by decide +kernel
theorem dX3_mixWords_238 : decode cX3_mixWords 238 = .ok (.iload 4, 2) := by decide +kernel
theorem dX3_mixWords_240 : decode cX3_mixWords 240 = .ok (.iadd, 1) := by decide +kernel
theorem dX3_mixWords_241 : decode cX3_mixWords 241 = .ok (.iastore, 1) := by decide +kernel
theorem dX3_mixWords_242 : decode cX3_mixWords 242 = .ok (.aload_n 0, 1) := by decide +kernel
theorem dX3_mixWords_243 : decode cX3_mixWords 243 = .ok (.getfield 19, 3) := by decide +kernel
theorem dX3_mixWords_246 : decode cX3_mixWords 246 = .ok (.iconst 4, 1) := by decide +kernel
theorem dX3_mixWords_247 : decode cX3_mixWords 247 = .ok (.dup2, 1) := by decide +kernel
theorem dX3_mixWords_248 : decode cX3_mixWords 248 = .ok (.iaload, 1) := by decide +kernel
theorem dX3_mixWords_249 : decode cX3_mixWords 249 = .ok (.iload 5, 2) := by decide +kernel
theorem dX3_mixWords_251 : decode cX3_mixWords 251 = .ok (.iadd, 1) := by decide +kernel
theorem dX3_mixWords_252 : decode cX3_mixWords 252 = .ok (.iastore, 1) := by decide +kernel
theorem dX3_mixWords_253 : decode cX3_mixWords 253 = .ok (.aload_n 0, 1) := by decide +kernel
theorem dX3_mixWords_254 : decode cX3_mixWords 254 = .ok (.getfield 19, 3) := by decide +kernel
theorem dX3_mixWords_257 : decode cX3_mixWords 257 = .ok (.iconst 5, 1) := by decide +kernel
theorem dX3_mixWords_258 : decode cX3_mixWords 258 = .ok (.dup2, 1) := by decide +kernel
theorem dX3_mixWords_259 : decode cX3_mixWords 259 = .ok (.iaload, 1) := by decide +kernel
theorem dX3_mixWords_260 : decode cX3_mixWords 260 = .ok (.iload 6, 2) := by decide +kernel
theorem dX3_mixWords_262 : decode cX3_mixWords 262 = .ok (.iadd, 1) := by decide +kernel
theorem dX3_mixWords_263 : decode cX3_mixWords 263 = .ok (.iastore, 1) := by decide +kernel
theorem dX3_mixWords_264 : decode cX3_mixWords 264 = .ok (.aload_n 0, 1) := by decide +kernel
theorem dX3_mixWords_265 : decode cX3_mixWords 265 = .ok (.getfield 19, 3) := by decide +kernel
theorem dX3_mixWords_268 : decode cX3_mixWords 268 = .ok (.bipush 6, 2) := by decide +kernel
theorem dX3_mixWords_270 : decode cX3_mixWords 270 = .ok (.dup2, 1) := by decide +kernel
theorem dX3_mixWords_271 : decode cX3_mixWords 271 = .ok (.iaload, 1) := by decide +kernel
theorem dX3_mixWords_272 : decode cX3_mixWords 272 = .ok (.iload 7, 2) := by decide +kernel
theorem dX3_mixWords_274 : decode cX3_mixWords 274 = .ok (.iadd, 1) := by decide +kernel
theorem dX3_mixWords_275 : decode cX3_mixWords 275 = .ok (.iastore, 1) := by decide +kernel
theorem dX3_mixWords_276 : decode cX3_mixWords 276 = .ok (.aload_n 0, 1) := by decide +kernel
theorem dX3_mixWords_277 : decode cX3_mixWords 277 = .ok (.getfield 19, 3) := by decide +kernel
theorem dX3_mixWords_280 : decode cX3_mixWords 280 = .ok (.bipush 7, 2) := by decide +kernel
theorem dX3_mixWords_282 : decode cX3_mixWords 282 = .ok (.dup2, 1) := by decide +kernel
theorem dX3_mixWords_283 : decode cX3_mixWords 283 = .ok (.iaload, 1) := by decide +kernel
theorem dX3_mixWords_284 : decode cX3_mixWords 284 = .ok (.iload 8, 2) := by decide +kernel
theorem dX3_mixWords_286 : decode cX3_mixWords 286 = .ok (.iadd, 1) := by decide +kernel
theorem dX3_mixWords_287 : decode cX3_mixWords 287 = .ok (.iastore, 1) := by decide +kernel
theorem dX3_mixWords_288 : decode cX3_mixWords 288 = .ok (.return_, 1) := by decide +kernel
theorem dX3_earlyWord_0 : decode cX3_earlyWord 0 = .ok (.iload_n 0, 1) := by decide +kernel
theorem dX3_earlyWord_1 : decode cX3_earlyWord 1 = .ok (.bipush 7, 2) := by decide +kernel
theorem dX3_earlyWord_3 : decode cX3_earlyWord 3 = .ok (.invokestatic 58, 3) := by decide +kernel
theorem dX3_earlyWord_6 : decode cX3_earlyWord 6 = .ok (.iload_n 0, 1) := by decide +kernel
theorem dX3_earlyWord_7 : decode cX3_earlyWord 7 = .ok (.bipush 18, 2) := by decide +kernel
theorem dX3_earlyWord_9 : decode cX3_earlyWord 9 = .ok (.invokestatic 58, 3) := by decide +kernel
theorem dX3_earlyWord_12 : decode cX3_earlyWord 12 = .ok (.ixor, 1) := by decide +kernel
theorem dX3_earlyWord_13 : decode cX3_earlyWord 13 = .ok (.iload_n 0, 1) := by decide +kernel
theorem dX3_earlyWord_14 : decode cX3_earlyWord 14 = .ok (.iconst 3, 1) := by decide +kernel
theorem dX3_earlyWord_15 : decode cX3_earlyWord 15 = .ok (.iushr, 1) := by decide +kernel
theorem dX3_earlyWord_16 : decode cX3_earlyWord 16 = .ok (.ixor, 1) := by decide +kernel
theorem dX3_earlyWord_17 : decode cX3_earlyWord 17 = .ok (.ireturn, 1) := by decide +kernel
theorem dX3_lateWord_0 : decode cX3_lateWord 0 = .ok (.iload_n 0, 1) := by decide +kernel
theorem dX3_lateWord_1 : decode cX3_lateWord 1 = .ok (.bipush 17, 2) := by decide +kernel
theorem dX3_lateWord_3 : decode cX3_lateWord 3 = .ok (.invokestatic 58, 3) := by decide +kernel
theorem dX3_lateWord_6 : decode cX3_lateWord 6 = .ok (.iload_n 0, 1) := by decide +kernel
theorem dX3_lateWord_7 : decode cX3_lateWord 7 = .ok (.bipush 19, 2) := by decide +kernel
theorem dX3_lateWord_9 : decode cX3_lateWord 9 = .ok (.invokestatic 58, 3) := by decide +kernel
theorem dX3_lateWord_12 : decode cX3_lateWord 12 = .ok (.ixor, 1) := by decide +kernel
theorem dX3_lateWord_13 : decode cX3_lateWord 13 = .ok (.iload_n 0, 1) := by decide +kernel
theorem dX3_lateWord_14 : decode cX3_lateWord 14 = .ok (.bipush 10, 2) := by decide +kernel
theorem dX3_lateWord_16 : decode cX3_lateWord 16 = .ok (.iushr, 1) := by decide +kernel
theorem dX3_lateWord_17 : decode cX3_lateWord 17 = .ok (.ixor, 1) := by decide +kernel
theorem dX3_lateWord_18 : decode cX3_lateWord 18 = .ok (.ireturn, 1) := by decide +kernel
theorem dX3_turn_0 : decode cX3_turn 0 = .ok (.iload_n 0, 1) := by decide +kernel
theorem dX3_turn_1 : decode cX3_turn 1 = .ok (.iload_n 1, 1) := by decide +kernel
theorem dX3_turn_2 : decode cX3_turn 2 = .ok (.iushr, 1) := by decide +kernel
theorem dX3_turn_3 : decode cX3_turn 3 = .ok (.iload_n 0, 1) := by decide +kernel
theorem dX3_turn_4 : decode cX3_turn 4 = .ok (.bipush 32, 2) := by decide +kernel
theorem dX3_turn_6 : decode cX3_turn 6 = .ok (.iload_n 1, 1) := by decide +kernel
theorem dX3_turn_7 : decode cX3_turn 7 = .ok (.isub, 1) := by decide +kernel
theorem dX3_turn_8 : decode cX3_turn 8 = .ok (.ishl, 1) := by decide +kernel
theorem dX3_turn_9 : decode cX3_turn 9 = .ok (.ior, 1) := by decide +kernel
theorem dX3_turn_10 : decode cX3_turn 10 = .ok (.ireturn, 1) := by decide +kernel
theorem dX4_init_0 : decode cX4_init 0 = .ok (.aload_n 0, 1) := by decide +kernel
theorem dX4_init_1 : decode cX4_init 1 = .ok (.invokespecial 1, 3) := by decide +kernel
theorem dX4_init_4 : decode cX4_init 4 = .ok (.aload_n 0, 1) := by decide +kernel
theorem dX4_init_5 : decode cX4_init 5 = .ok (.iload_n 1, 1) := by decide +kernel
theorem dX4_init_6 : decode cX4_init 6 = .ok (.putfield 7, 3) := by decide +kernel
theorem dX4_init_9 : decode cX4_init 9 = .ok (.aload_n 0, 1) := by decide +kernel
theorem dX4_init_10 : decode cX4_init 10 = .ok (.iload_n 2, 1) := by decide +kernel
theorem dX4_init_11 : decode cX4_init 11 = .ok (.putfield 13, 3) := by decide +kernel
theorem dX4_init_14 : decode cX4_init 14 = .ok (.aload_n 0, 1) := by decide +kernel
theorem dX4_init_15 : decode cX4_init 15 = .ok (.lload_n 3, 1) := by decide +kernel
theorem dX4_init_16 : decode cX4_init 16 = .ok (.putfield 16, 3) := by decide +kernel
theorem dX4_init_19 : decode cX4_init 19 = .ok (.return_, 1) := by decide +kernel
theorem dX5_init_0 : decode cX5_init 0 = .ok (.aload_n 0, 1) := by decide +kernel
theorem dX5_init_1 : decode cX5_init 1 = .ok (.invokespecial 3, 3) := by decide +kernel
theorem dX5_init_4 : decode cX5_init 4 = .ok (.aload_n 0, 1) := by decide +kernel
theorem dX5_init_5 : decode cX5_init 5 = .ok (.new 9, 3) := by decide +kernel
theorem dX5_init_8 : decode cX5_init 8 = .ok (.dup, 1) := by decide +kernel
theorem dX5_init_9 : decode cX5_init 9 = .ok (.invokespecial 11, 3) := by decide +kernel
theorem dX5_init_12 : decode cX5_init 12 = .ok (.putfield 12, 3) := by decide +kernel
theorem dX5_init_15 : decode cX5_init 15 = .ok (.return_, 1) := by decide +kernel
theorem dX5_tell_0 : decode cX5_tell 0 = .ok (.aload_n 0, 1) := by decide +kernel
theorem dX5_tell_1 : decode cX5_tell 1 = .ok (.iload_n 1, 1) := by decide +kernel
theorem dX5_tell_2 : decode cX5_tell 2 = .ok (.iload_n 2, 1) := by decide +kernel
theorem dX5_tell_3 : decode cX5_tell 3 = .ok (.invokevirtual 18, 3) := by decide +kernel
theorem dX5_tell_6 : decode cX5_tell 6 = .ok (.astore 5, 2) := by decide +kernel
theorem dX5_tell_8 : decode cX5_tell 8 = .ok (.aload 5, 2) := by decide +kernel
theorem dX5_tell_10 : decode cX5_tell 10 = .ok (.ifnull 20, 3) := by decide +kernel
theorem dX5_tell_13 : decode cX5_tell 13 = .ok (.aload 5, 2) := by decide +kernel
theorem dX5_tell_15 : decode cX5_tell 15 = .ok (.getfield 22, 3) := by decide +kernel
theorem dX5_tell_18 : decode cX5_tell 18 = .ok (.iload_n 1, 1) := by decide +kernel
theorem dX5_tell_19 : decode cX5_tell 19 = .ok (.if_icmp .ne 11, 3) := by decide +kernel
theorem dX5_tell_22 : decode cX5_tell 22 = .ok (.aload 5, 2) := by decide +kernel
theorem dX5_tell_24 : decode cX5_tell 24 = .ok (.lload_n 3, 1) := by decide +kernel
theorem dX5_tell_25 : decode cX5_tell 25 = .ok (.putfield 28, 3) := by decide +kernel
theorem dX5_tell_28 : decode cX5_tell 28 = .ok (.iconst 1, 1) := by decide +kernel
theorem dX5_tell_29 : decode cX5_tell 29 = .ok (.ireturn, 1) := by decide +kernel
theorem dX5_tell_30 : decode cX5_tell 30 = .ok (.aload_n 0, 1) := by decide +kernel
theorem dX5_tell_31 : decode cX5_tell 31 = .ok (.getfield 12, 3) := by decide +kernel
theorem dX5_tell_34 : decode cX5_tell 34 = .ok (.invokevirtual 32, 3) := by decide +kernel
theorem dX5_tell_37 : decode cX5_tell 37 = .ok (.sipush 512, 3) := by decide +kernel
theorem dX5_tell_40 : decode cX5_tell 40 = .ok (.if_icmp .lt 5, 3) := by decide +kernel
theorem dX5_tell_43 : decode cX5_tell 43 = .ok (.iconst 0, 1) := by decide +kernel
theorem dX5_tell_44 : decode cX5_tell 44 = .ok (.ireturn, 1) := by decide +kernel
theorem dX5_tell_45 : decode cX5_tell 45 = .ok (.aload_n 0, 1) := by decide +kernel
theorem dX5_tell_46 : decode cX5_tell 46 = .ok (.getfield 12, 3) := by decide +kernel
theorem dX5_tell_49 : decode cX5_tell 49 = .ok (.new 23, 3) := by decide +kernel
theorem dX5_tell_52 : decode cX5_tell 52 = .ok (.dup, 1) := by decide +kernel
theorem dX5_tell_53 : decode cX5_tell 53 = .ok (.iload_n 1, 1) := by decide +kernel
theorem dX5_tell_54 : decode cX5_tell 54 = .ok (.iload_n 2, 1) := by decide +kernel
theorem dX5_tell_55 : decode cX5_tell 55 = .ok (.lload_n 3, 1) := by decide +kernel
theorem dX5_tell_56 : decode cX5_tell 56 = .ok (.invokespecial 36, 3) := by decide +kernel
theorem dX5_tell_59 : decode cX5_tell 59 = .ok (.invokevirtual 39, 3) := by decide +kernel
theorem dX5_tell_62 : decode cX5_tell 62 = .ok (.pop, 1) := by decide +kernel
theorem dX5_tell_63 : decode cX5_tell 63 = .ok (.iconst 1, 1) := by decide +kernel
theorem dX5_tell_64 : decode cX5_tell 64 = .ok (.ireturn, 1) := by decide +kernel
theorem dX5_tareOn_0 : decode cX5_tareOn 0 = .ok (.aload_n 0, 1) := by decide +kernel
theorem dX5_tareOn_1 : decode cX5_tareOn 1 = .ok (.iload_n 1, 1) := by decide +kernel
theorem dX5_tareOn_2 : decode cX5_tareOn 2 = .ok (.iload_n 2, 1) := by decide +kernel
theorem dX5_tareOn_3 : decode cX5_tareOn 3 = .ok (.invokevirtual 18, 3) := by decide +kernel
theorem dX5_tareOn_6 : decode cX5_tareOn 6 = .ok (.astore_n 3, 1) := by decide +kernel
theorem dX5_tareOn_7 : decode cX5_tareOn 7 = .ok (.aload_n 3, 1) := by decide +kernel
theorem dX5_tareOn_8 : decode cX5_tareOn 8 = .ok (.ifnonnull 9, 3) := by decide +kernel
theorem dX5_tareOn_11 : decode cX5_tareOn 11 = .ok (.ldc2_w 43, 3) := by decide +kernel
theorem dX5_tareOn_14 : decode cX5_tareOn 14 = .ok (.goto 7, 3) := by decide +kernel
theorem dX5_tareOn_17 : decode cX5_tareOn 17 = .ok (.aload_n 3, 1) := by decide +kernel
theorem dX5_tareOn_18 : decode cX5_tareOn 18 = .ok (.getfield 28, 3) := by decide +kernel
theorem dX5_tareOn_21 : decode cX5_tareOn 21 = .ok (.lreturn, 1) := by decide +kernel
theorem dX5_lastUpTo_0 : decode cX5_lastUpTo 0 = .ok (.aconst_null, 1) := by decide +kernel
theorem dX5_lastUpTo_1 : decode cX5_lastUpTo 1 = .ok (.astore_n 3, 1) := by decide +kernel
theorem dX5_lastUpTo_2 : decode cX5_lastUpTo 2 = .ok (.iconst 0, 1) := by decide +kernel
theorem dX5_lastUpTo_3 : decode cX5_lastUpTo 3 = .ok (.istore 4, 2) := by decide +kernel
theorem dX5_lastUpTo_5 : decode cX5_lastUpTo 5 = .ok (.iload 4, 2) := by decide +kernel
theorem dX5_lastUpTo_7 : decode cX5_lastUpTo 7 = .ok (.aload_n 0, 1) := by decide +kernel
theorem dX5_lastUpTo_8 : decode cX5_lastUpTo 8 = .ok (.getfield 12, 3) := by decide +kernel
theorem dX5_lastUpTo_11 : decode cX5_lastUpTo 11 = .ok (.invokevirtual 32, 3) := by decide +kernel
theorem dX5_lastUpTo_14 : decode cX5_lastUpTo 14 = .ok (.if_icmp .ge 60, 3) := by decide +kernel
theorem dX5_lastUpTo_17 : decode cX5_lastUpTo 17 = .ok (.aload_n 0, 1) := by decide +kernel
theorem dX5_lastUpTo_18 : decode cX5_lastUpTo 18 = .ok (.getfield 12, 3) := by decide +kernel
theorem dX5_lastUpTo_21 : decode cX5_lastUpTo 21 = .ok (.iload 4, 2) := by decide +kernel
theorem dX5_lastUpTo_23 : decode cX5_lastUpTo 23 = .ok (.invokevirtual 45, 3) := by decide +kernel
theorem dX5_lastUpTo_26 : decode cX5_lastUpTo 26 = .ok (.checkcast 23, 3) := by decide +kernel
theorem dX5_lastUpTo_29 : decode cX5_lastUpTo 29 = .ok (.astore 5, 2) := by decide +kernel
theorem dX5_lastUpTo_31 : decode cX5_lastUpTo 31 = .ok (.aload 5, 2) := by decide +kernel
theorem dX5_lastUpTo_33 : decode cX5_lastUpTo 33 = .ok (.getfield 49, 3) := by decide +kernel
theorem dX5_lastUpTo_36 : decode cX5_lastUpTo 36 = .ok (.iload_n 2, 1) := by decide +kernel
theorem dX5_lastUpTo_37 : decode cX5_lastUpTo 37 = .ok (.if_icmp .ne 31, 3) := by decide +kernel
theorem dX5_lastUpTo_40 : decode cX5_lastUpTo 40 = .ok (.aload 5, 2) := by decide +kernel
theorem dX5_lastUpTo_42 : decode cX5_lastUpTo 42 = .ok (.getfield 22, 3) := by decide +kernel
theorem dX5_lastUpTo_45 : decode cX5_lastUpTo 45 = .ok (.iload_n 1, 1) := by decide +kernel
theorem dX5_lastUpTo_46 : decode cX5_lastUpTo 46 = .ok (.if_icmp .gt 22, 3) := by decide +kernel
theorem dX5_lastUpTo_49 : decode cX5_lastUpTo 49 = .ok (.aload_n 3, 1) := by decide +kernel
theorem dX5_lastUpTo_50 : decode cX5_lastUpTo 50 = .ok (.ifnull 15, 3) := by decide +kernel
theorem dX5_lastUpTo_53 : decode cX5_lastUpTo 53 = .ok (.aload 5, 2) := by decide +kernel
theorem dX5_lastUpTo_55 : decode cX5_lastUpTo 55 = .ok (.getfield 22, 3) := by decide +kernel
theorem dX5_lastUpTo_58 : decode cX5_lastUpTo 58 = .ok (.aload_n 3, 1) := by decide +kernel
theorem dX5_lastUpTo_59 : decode cX5_lastUpTo 59 = .ok (.getfield 22, 3) := by decide +kernel
theorem dX5_lastUpTo_62 : decode cX5_lastUpTo 62 = .ok (.if_icmp .le 6, 3) := by decide +kernel
theorem dX5_lastUpTo_65 : decode cX5_lastUpTo 65 = .ok (.aload 5, 2) := by decide +kernel
theorem dX5_lastUpTo_67 : decode cX5_lastUpTo 67 = .ok (.astore_n 3, 1) := by decide +kernel
theorem dX5_lastUpTo_68 : decode cX5_lastUpTo 68 = .ok (.iinc 4 1, 3) := by decide +kernel
theorem dX5_lastUpTo_71 : decode cX5_lastUpTo 71 = .ok (.goto (-66), 3) := by decide +kernel
theorem dX5_lastUpTo_74 : decode cX5_lastUpTo 74 = .ok (.aload_n 3, 1) := by decide +kernel
theorem dX5_lastUpTo_75 : decode cX5_lastUpTo 75 = .ok (.areturn, 1) := by decide +kernel
theorem dX6_init_0 : decode cX6_init 0 = .ok (.aload_n 0, 1) := by decide +kernel
theorem dX6_init_1 : decode cX6_init 1 = .ok (.invokespecial 3, 3) := by decide +kernel
theorem dX6_init_4 : decode cX6_init 4 = .ok (.aload_n 0, 1) := by decide +kernel
theorem dX6_init_5 : decode cX6_init 5 = .ok (.bipush 9, 2) := by decide +kernel
theorem dX6_init_7 : decode cX6_init 7 = .ok (.newarray .long, 2) := by decide +kernel
theorem dX6_init_9 : decode cX6_init 9 = .ok (.putfield 9, 3) := by decide +kernel
theorem dX6_init_12 : decode cX6_init 12 = .ok (.aload_n 0, 1) := by decide +kernel
theorem dX6_init_13 : decode cX6_init 13 = .ok (.bipush 8, 2) := by decide +kernel
theorem dX6_init_15 : decode cX6_init 15 = .ok (.newarray .long, 2) := by decide +kernel
theorem dX6_init_17 : decode cX6_init 17 = .ok (.putfield 15, 3) := by decide +kernel
theorem dX6_init_20 : decode cX6_init 20 = .ok (.aload_n 0, 1) := by decide +kernel
theorem dX6_init_21 : decode cX6_init 21 = .ok (.getfield 9, 3) := by decide +kernel
theorem dX6_init_24 : decode cX6_init 24 = .ok (.iconst 0, 1) := by decide +kernel
theorem dX6_init_25 : decode cX6_init 25 = .ok (.iload_n 1, 1) := by decide +kernel
theorem dX6_init_26 : decode cX6_init 26 = .ok (.i2l, 1) := by decide +kernel
theorem dX6_init_27 : decode cX6_init 27 = .ok (.lastore, 1) := by decide +kernel
theorem dX6_init_28 : decode cX6_init 28 = .ok (.aload_n 0, 1) := by decide +kernel
theorem dX6_init_29 : decode cX6_init 29 = .ok (.getfield 9, 3) := by decide +kernel
theorem dX6_init_32 : decode cX6_init 32 = .ok (.iconst 1, 1) := by decide +kernel
theorem dX6_init_33 : decode cX6_init 33 = .ok (.iload_n 2, 1) := by decide +kernel
theorem dX6_init_34 : decode cX6_init 34 = .ok (.i2l, 1) := by decide +kernel
theorem dX6_init_35 : decode cX6_init 35 = .ok (.lastore, 1) := by decide +kernel
theorem dX6_init_36 : decode cX6_init 36 = .ok (.aload_n 0, 1) := by decide +kernel
theorem dX6_init_37 : decode cX6_init 37 = .ok (.getfield 9, 3) := by decide +kernel
theorem dX6_init_40 : decode cX6_init 40 = .ok (.iconst 2, 1) := by decide +kernel
theorem dX6_init_41 : decode cX6_init 41 = .ok (.iload_n 3, 1) := by decide +kernel
theorem dX6_init_42 : decode cX6_init 42 = .ok (.i2l, 1) := by decide +kernel
theorem dX6_init_43 : decode cX6_init 43 = .ok (.lastore, 1) := by decide +kernel
theorem dX6_init_44 : decode cX6_init 44 = .ok (.aload_n 0, 1) := by decide +kernel
theorem dX6_init_45 : decode cX6_init 45 = .ok (.getfield 9, 3) := by decide +kernel
theorem dX6_init_48 : decode cX6_init 48 = .ok (.iconst 3, 1) := by decide +kernel
theorem dX6_init_49 : decode cX6_init 49 = .ok (.lload 4, 2) := by decide +kernel
theorem dX6_init_51 : decode cX6_init 51 = .ok (.lastore, 1) := by decide +kernel
theorem dX6_init_52 : decode cX6_init 52 = .ok (.aload_n 0, 1) := by decide +kernel
theorem dX6_init_53 : decode cX6_init 53 = .ok (.getfield 9, 3) := by decide +kernel
theorem dX6_init_56 : decode cX6_init 56 = .ok (.iconst 4, 1) := by decide +kernel
theorem dX6_init_57 : decode cX6_init 57 = .ok (.lload 6, 2) := by decide +kernel
theorem dX6_init_59 : decode cX6_init 59 = .ok (.lastore, 1) := by decide +kernel
theorem dX6_init_60 : decode cX6_init 60 = .ok (.aload_n 0, 1) := by decide +kernel
theorem dX6_init_61 : decode cX6_init 61 = .ok (.getfield 9, 3) := by decide +kernel
theorem dX6_init_64 : decode cX6_init 64 = .ok (.iconst 5, 1) := by decide +kernel
theorem dX6_init_65 : decode cX6_init 65 = .ok (.lload 4, 2) := by decide +kernel
theorem dX6_init_67 : decode cX6_init 67 = .ok (.lload 6, 2) := by decide +kernel
theorem dX6_init_69 : decode cX6_init 69 = .ok (.lsub, 1) := by decide +kernel
theorem dX6_init_70 : decode cX6_init 70 = .ok (.lastore, 1) := by decide +kernel
theorem dX6_init_71 : decode cX6_init 71 = .ok (.aload_n 0, 1) := by decide +kernel
theorem dX6_init_72 : decode cX6_init 72 = .ok (.getfield 9, 3) := by decide +kernel
theorem dX6_init_75 : decode cX6_init 75 = .ok (.bipush 6, 2) := by decide +kernel
theorem dX6_init_77 : decode cX6_init 77 = .ok (.lload 8, 2) := by decide +kernel
theorem dX6_init_79 : decode cX6_init 79 = .ok (.lastore, 1) := by decide +kernel
theorem dX6_init_80 : decode cX6_init 80 = .ok (.aload_n 0, 1) := by decide +kernel
theorem dX6_init_81 : decode cX6_init 81 = .ok (.getfield 9, 3) := by decide +kernel
theorem dX6_init_84 : decode cX6_init 84 = .ok (.bipush 7, 2) := by decide +kernel
theorem dX6_init_86 : decode cX6_init 86 = .ok (.iload 10, 2) := by decide +kernel
theorem dX6_init_88 : decode cX6_init 88 = .ok (.i2l, 1) := by decide +kernel
theorem dX6_init_89 : decode cX6_init 89 = .ok (.lastore, 1) := by decide +kernel
theorem dX6_init_90 : decode cX6_init 90 = .ok (.return_, 1) := by decide +kernel
theorem dX6_field_0 : decode cX6_field 0 = .ok (.iload_n 1, 1) := by decide +kernel
theorem dX6_field_1 : decode cX6_field 1 = .ok (.ifCond .lt 21, 3) := by decide +kernel
theorem dX6_field_4 : decode cX6_field 4 = .ok (.iload_n 1, 1) := by decide +kernel
theorem dX6_field_5 : decode cX6_field 5 = .ok (.aload_n 0, 1) := by decide +kernel
theorem dX6_field_6 : decode cX6_field 6 = .ok (.getfield 9, 3) := by decide +kernel
theorem dX6_field_9 : decode cX6_field 9 = .ok (.arraylength, 1) := by decide +kernel
theorem dX6_field_10 : decode cX6_field 10 = .ok (.if_icmp .ge 12, 3) := by decide +kernel
theorem dX6_field_13 : decode cX6_field 13 = .ok (.aload_n 0, 1) := by decide +kernel
theorem dX6_field_14 : decode cX6_field 14 = .ok (.getfield 9, 3) := by decide +kernel
theorem dX6_field_17 : decode cX6_field 17 = .ok (.iload_n 1, 1) := by decide +kernel
theorem dX6_field_18 : decode cX6_field 18 = .ok (.laload, 1) := by decide +kernel
theorem dX6_field_19 : decode cX6_field 19 = .ok (.goto 6, 3) := by decide +kernel
theorem dX6_field_22 : decode cX6_field 22 = .ok (.ldc2_w 18, 3) := by decide +kernel
theorem dX6_field_25 : decode cX6_field 25 = .ok (.lreturn, 1) := by decide +kernel
theorem dX6_isVoid_0 : decode cX6_isVoid 0 = .ok (.aload_n 0, 1) := by decide +kernel
theorem dX6_isVoid_1 : decode cX6_isVoid 1 = .ok (.getfield 9, 3) := by decide +kernel
theorem dX6_isVoid_4 : decode cX6_isVoid 4 = .ok (.bipush 8, 2) := by decide +kernel
theorem dX6_isVoid_6 : decode cX6_isVoid 6 = .ok (.laload, 1) := by decide +kernel
theorem dX6_isVoid_7 : decode cX6_isVoid 7 = .ok (.lconst 0, 1) := by decide +kernel
theorem dX6_isVoid_8 : decode cX6_isVoid 8 = .ok (.lcmp, 1) := by decide +kernel
theorem dX6_isVoid_9 : decode cX6_isVoid 9 = .ok (.ifCond .eq 7, 3) := by decide +kernel
theorem dX6_isVoid_12 : decode cX6_isVoid 12 = .ok (.iconst 1, 1) := by decide +kernel
theorem dX6_isVoid_13 : decode cX6_isVoid 13 = .ok (.goto 4, 3) := by decide +kernel
theorem dX6_isVoid_16 : decode cX6_isVoid 16 = .ok (.iconst 0, 1) := by decide +kernel
theorem dX6_isVoid_17 : decode cX6_isVoid 17 = .ok (.ireturn, 1) := by decide +kernel
theorem dX6_keepsNet_0 : decode cX6_keepsNet 0 = .ok (.iload_n 1, 1) := by decide +kernel
theorem dX6_keepsNet_1 : decode cX6_keepsNet 1 = .ok (.iconst 3, 1) := by decide +kernel
theorem dX6_keepsNet_2 : decode cX6_keepsNet 2 = .ok (.if_icmp .ne 7, 3) := by decide +kernel
theorem dX6_keepsNet_5 : decode cX6_keepsNet 5 = .ok (.lload_n 2, 1) := by decide +kernel
theorem dX6_keepsNet_6 : decode cX6_keepsNet 6 = .ok (.goto 9, 3) := by decide +kernel
theorem dX6_keepsNet_9 : decode cX6_keepsNet 9 = .ok (.aload_n 0, 1) := by decide +kernel
theorem dX6_keepsNet_10 : decode cX6_keepsNet 10 = .ok (.getfield 9, 3) := by decide +kernel
theorem dX6_keepsNet_13 : decode cX6_keepsNet 13 = .ok (.iconst 3, 1) := by decide +kernel
theorem dX6_keepsNet_14 : decode cX6_keepsNet 14 = .ok (.laload, 1) := by decide +kernel
theorem dX6_keepsNet_15 : decode cX6_keepsNet 15 = .ok (.lstore 4, 2) := by decide +kernel
theorem dX6_keepsNet_17 : decode cX6_keepsNet 17 = .ok (.iload_n 1, 1) := by decide +kernel
theorem dX6_keepsNet_18 : decode cX6_keepsNet 18 = .ok (.iconst 4, 1) := by decide +kernel
theorem dX6_keepsNet_19 : decode cX6_keepsNet 19 = .ok (.if_icmp .ne 7, 3) := by decide +kernel
theorem dX6_keepsNet_22 : decode cX6_keepsNet 22 = .ok (.lload_n 2, 1) := by decide +kernel
theorem dX6_keepsNet_23 : decode cX6_keepsNet 23 = .ok (.goto 9, 3) := by decide +kernel
theorem dX6_keepsNet_26 : decode cX6_keepsNet 26 = .ok (.aload_n 0, 1) := by decide +kernel
theorem dX6_keepsNet_27 : decode cX6_keepsNet 27 = .ok (.getfield 9, 3) := by decide +kernel
theorem dX6_keepsNet_30 : decode cX6_keepsNet 30 = .ok (.iconst 4, 1) := by decide +kernel
theorem dX6_keepsNet_31 : decode cX6_keepsNet 31 = .ok (.laload, 1) := by decide +kernel
theorem dX6_keepsNet_32 : decode cX6_keepsNet 32 = .ok (.lstore 6, 2) := by decide +kernel
theorem dX6_keepsNet_34 : decode cX6_keepsNet 34 = .ok (.lload 4, 2) := by decide +kernel
theorem dX6_keepsNet_36 : decode cX6_keepsNet 36 = .ok (.lload 6, 2) := by decide +kernel
theorem dX6_keepsNet_38 : decode cX6_keepsNet 38 = .ok (.lcmp, 1) := by decide +kernel
theorem dX6_keepsNet_39 : decode cX6_keepsNet 39 = .ok (.ifCond .lt 7, 3) := by decide +kernel
theorem dX6_keepsNet_42 : decode cX6_keepsNet 42 = .ok (.iconst 1, 1) := by decide +kernel
theorem dX6_keepsNet_43 : decode cX6_keepsNet 43 = .ok (.goto 4, 3) := by decide +kernel
theorem dX6_keepsNet_46 : decode cX6_keepsNet 46 = .ok (.iconst 0, 1) := by decide +kernel
theorem dX6_keepsNet_47 : decode cX6_keepsNet 47 = .ok (.ireturn, 1) := by decide +kernel
theorem dX6_put_0 : decode cX6_put 0 = .ok (.iload_n 1, 1) := by decide +kernel
theorem dX6_put_1 : decode cX6_put 1 = .ok (.ifCond .lt 38, 3) := by decide +kernel
theorem dX6_put_4 : decode cX6_put 4 = .ok (.iload_n 1, 1) := by decide +kernel
theorem dX6_put_5 : decode cX6_put 5 = .ok (.aload_n 0, 1) := by decide +kernel
theorem dX6_put_6 : decode cX6_put 6 = .ok (.getfield 9, 3) := by decide +kernel
theorem dX6_put_9 : decode cX6_put 9 = .ok (.arraylength, 1) := by decide +kernel
theorem dX6_put_10 : decode cX6_put 10 = .ok (.if_icmp .ge 29, 3) := by decide +kernel
theorem dX6_put_13 : decode cX6_put 13 = .ok (.aload_n 0, 1) := by decide +kernel
theorem dX6_put_14 : decode cX6_put 14 = .ok (.getfield 9, 3) := by decide +kernel
theorem dX6_put_17 : decode cX6_put 17 = .ok (.iload_n 1, 1) := by decide +kernel
theorem dX6_put_18 : decode cX6_put 18 = .ok (.lload_n 2, 1) := by decide +kernel
theorem dX6_put_19 : decode cX6_put 19 = .ok (.lastore, 1) := by decide +kernel
theorem dX6_put_20 : decode cX6_put 20 = .ok (.aload_n 0, 1) := by decide +kernel
theorem dX6_put_21 : decode cX6_put 21 = .ok (.getfield 9, 3) := by decide +kernel
theorem dX6_put_24 : decode cX6_put 24 = .ok (.iconst 5, 1) := by decide +kernel
theorem dX6_put_25 : decode cX6_put 25 = .ok (.aload_n 0, 1) := by decide +kernel
theorem dX6_put_26 : decode cX6_put 26 = .ok (.getfield 9, 3) := by decide +kernel
theorem dX6_put_29 : decode cX6_put 29 = .ok (.iconst 3, 1) := by decide +kernel
theorem dX6_put_30 : decode cX6_put 30 = .ok (.laload, 1) := by decide +kernel
theorem dX6_put_31 : decode cX6_put 31 = .ok (.aload_n 0, 1) := by decide +kernel
theorem dX6_put_32 : decode cX6_put 32 = .ok (.getfield 9, 3) := by decide +kernel
theorem dX6_put_35 : decode cX6_put 35 = .ok (.iconst 4, 1) := by decide +kernel
theorem dX6_put_36 : decode cX6_put 36 = .ok (.laload, 1) := by decide +kernel
theorem dX6_put_37 : decode cX6_put 37 = .ok (.lsub, 1) := by decide +kernel
theorem dX6_put_38 : decode cX6_put 38 = .ok (.lastore, 1) := by decide +kernel
theorem dX6_put_39 : decode cX6_put 39 = .ok (.return_, 1) := by decide +kernel
theorem dX6_weigh_0 : decode cX6_weigh 0 = .ok (.iload_n 1, 1) := by decide +kernel
theorem dX6_weigh_1 : decode cX6_weigh 1 = .ok (.ifCond .lt 12, 3) := by decide +kernel
theorem dX6_weigh_4 : decode cX6_weigh 4 = .ok (.iload_n 1, 1) := by decide +kernel
theorem dX6_weigh_5 : decode cX6_weigh 5 = .ok (.aload_n 0, 1) := by decide +kernel
theorem dX6_weigh_6 : decode cX6_weigh 6 = .ok (.getfield 15, 3) := by decide +kernel
theorem dX6_weigh_9 : decode cX6_weigh 9 = .ok (.arraylength, 1) := by decide +kernel
theorem dX6_weigh_10 : decode cX6_weigh 10 = .ok (.if_icmp .lt 5, 3) := by decide +kernel
theorem dX6_weigh_13 : decode cX6_weigh 13 = .ok (.iconst 0, 1) := by decide +kernel
theorem dX6_weigh_14 : decode cX6_weigh 14 = .ok (.ireturn, 1) := by decide +kernel
theorem dX6_weigh_15 : decode cX6_weigh 15 = .ok (.aload_n 0, 1) := by decide +kernel
theorem dX6_weigh_16 : decode cX6_weigh 16 = .ok (.getfield 15, 3) := by decide +kernel
theorem dX6_weigh_19 : decode cX6_weigh 19 = .ok (.iload_n 1, 1) := by decide +kernel
theorem dX6_weigh_20 : decode cX6_weigh 20 = .ok (.lload_n 2, 1) := by decide +kernel
theorem dX6_weigh_21 : decode cX6_weigh 21 = .ok (.lastore, 1) := by decide +kernel
theorem dX6_weigh_22 : decode cX6_weigh 22 = .ok (.iconst 1, 1) := by decide +kernel
theorem dX6_weigh_23 : decode cX6_weigh 23 = .ok (.ireturn, 1) := by decide +kernel
theorem dX6_shareOf_0 : decode cX6_shareOf 0 = .ok (.aload_n 0, 1) := by decide +kernel
theorem dX6_shareOf_1 : decode cX6_shareOf 1 = .ok (.invokevirtual 20, 3) := by decide +kernel
theorem dX6_shareOf_4 : decode cX6_shareOf 4 = .ok (.lstore_n 2, 1) := by decide +kernel
theorem dX6_shareOf_5 : decode cX6_shareOf 5 = .ok (.iload_n 1, 1) := by decide +kernel
theorem dX6_shareOf_6 : decode cX6_shareOf 6 = .ok (.ifCond .lt 18, 3) := by decide +kernel
theorem dX6_shareOf_9 : decode cX6_shareOf 9 = .ok (.iload_n 1, 1) := by decide +kernel
theorem dX6_shareOf_10 : decode cX6_shareOf 10 = .ok (.aload_n 0, 1) := by decide +kernel
theorem dX6_shareOf_11 : decode cX6_shareOf 11 = .ok (.getfield 15, 3) := by decide +kernel
theorem dX6_shareOf_14 : decode cX6_shareOf 14 = .ok (.arraylength, 1) := by decide +kernel
theorem dX6_shareOf_15 : decode cX6_shareOf 15 = .ok (.if_icmp .ge 9, 3) := by decide +kernel
theorem dX6_shareOf_18 : decode cX6_shareOf 18 = .ok (.lload_n 2, 1) := by decide +kernel
theorem dX6_shareOf_19 : decode cX6_shareOf 19 = .ok (.lconst 0, 1) := by decide +kernel
theorem dX6_shareOf_20 : decode cX6_shareOf 20 = .ok (.lcmp, 1) := by decide +kernel
theorem dX6_shareOf_21 : decode cX6_shareOf 21 = .ok (.ifCond .gt 7, 3) := by decide +kernel
theorem dX6_shareOf_24 : decode cX6_shareOf 24 = .ok (.ldc2_w 18, 3) := by decide +kernel
theorem dX6_shareOf_27 : decode cX6_shareOf 27 = .ok (.lreturn, 1) := by decide +kernel
theorem dX6_shareOf_28 : decode cX6_shareOf 28 = .ok (.aload_n 0, 1) := by decide +kernel
theorem dX6_shareOf_29 : decode cX6_shareOf 29 = .ok (.invokevirtual 24, 3) := by decide +kernel
theorem dX6_shareOf_32 : decode cX6_shareOf 32 = .ok (.ifCond .eq 7, 3) := by decide +kernel
theorem dX6_shareOf_35 : decode cX6_shareOf 35 = .ok (.lconst 0, 1) := by decide +kernel
theorem dX6_shareOf_36 : decode cX6_shareOf 36 = .ok (.goto 9, 3) := by decide +kernel
theorem dX6_shareOf_39 : decode cX6_shareOf 39 = .ok (.aload_n 0, 1) := by decide +kernel
theorem dX6_shareOf_40 : decode cX6_shareOf 40 = .ok (.getfield 9, 3) := by decide +kernel
theorem dX6_shareOf_43 : decode cX6_shareOf 43 = .ok (.iconst 5, 1) := by decide +kernel
theorem dX6_shareOf_44 : decode cX6_shareOf 44 = .ok (.laload, 1) := by decide +kernel
theorem dX6_shareOf_45 : decode cX6_shareOf 45 = .ok (.lstore 4, 2) := by decide +kernel
theorem dX6_shareOf_47 : decode cX6_shareOf 47 = .ok (.lload 4, 2) := by decide +kernel
theorem dX6_shareOf_49 : decode cX6_shareOf 49 = .ok (.lstore 6, 2) := by decide +kernel
theorem dX6_shareOf_51 : decode cX6_shareOf 51 = .ok (.iconst 0, 1) := by decide +kernel
theorem dX6_shareOf_52 : decode cX6_shareOf 52 = .ok (.istore 8, 2) := by decide +kernel
theorem dX6_shareOf_54 : decode cX6_shareOf 54 = .ok (.lload 4, 2) := by decide +kernel
theorem dX6_shareOf_56 : decode cX6_shareOf 56 = .ok (.aload_n 0, 1) := by decide +kernel
theorem dX6_shareOf_57 : decode cX6_shareOf 57 = .ok (.getfield 15, 3) := by decide +kernel
theorem dX6_shareOf_60 : decode cX6_shareOf 60 = .ok (.iload_n 1, 1) := by decide +kernel
theorem dX6_shareOf_61 : decode cX6_shareOf 61 = .ok (.laload, 1) := by decide +kernel
theorem dX6_shareOf_62 : decode cX6_shareOf 62 = .ok (.lmul, 1) := by decide +kernel
theorem dX6_shareOf_63 : decode cX6_shareOf 63 = .ok (.lload_n 2, 1) := by decide +kernel
theorem dX6_shareOf_64 : decode cX6_shareOf 64 = .ok (.lrem, 1) := by decide +kernel
theorem dX6_shareOf_65 : decode cX6_shareOf 65 = .ok (.lstore 9, 2) := by decide +kernel
theorem dX6_shareOf_67 : decode cX6_shareOf 67 = .ok (.iconst 0, 1) := by decide +kernel
theorem dX6_shareOf_68 : decode cX6_shareOf 68 = .ok (.istore 11, 2) := by decide +kernel
theorem dX6_shareOf_70 : decode cX6_shareOf 70 = .ok (.iload 11, 2) := by decide +kernel
theorem dX6_shareOf_72 : decode cX6_shareOf 72 = .ok (.aload_n 0, 1) := by decide +kernel
theorem dX6_shareOf_73 : decode cX6_shareOf 73 = .ok (.getfield 15, 3) := by decide +kernel
theorem dX6_shareOf_76 : decode cX6_shareOf 76 = .ok (.arraylength, 1) := by decide +kernel
theorem dX6_shareOf_77 : decode cX6_shareOf 77 = .ok (.if_icmp .ge 65, 3) := by decide +kernel
theorem dX6_shareOf_80 : decode cX6_shareOf 80 = .ok (.lload 6, 2) := by decide +kernel
theorem dX6_shareOf_82 : decode cX6_shareOf 82 = .ok (.lload 4, 2) := by decide +kernel
theorem dX6_shareOf_84 : decode cX6_shareOf 84 = .ok (.aload_n 0, 1) := by decide +kernel
theorem dX6_shareOf_85 : decode cX6_shareOf 85 = .ok (.getfield 15, 3) := by decide +kernel
theorem dX6_shareOf_88 : decode cX6_shareOf 88 = .ok (.iload 11, 2) := by decide +kernel
theorem dX6_shareOf_90 : decode cX6_shareOf 90 = .ok (.laload, 1) := by decide +kernel
theorem dX6_shareOf_91 : decode cX6_shareOf 91 = .ok (.lmul, 1) := by decide +kernel
theorem dX6_shareOf_92 : decode cX6_shareOf 92 = .ok (.lload_n 2, 1) := by decide +kernel
theorem dX6_shareOf_93 : decode cX6_shareOf 93 = .ok (.ldiv, 1) := by decide +kernel
theorem dX6_shareOf_94 : decode cX6_shareOf 94 = .ok (.lsub, 1) := by decide +kernel
theorem dX6_shareOf_95 : decode cX6_shareOf 95 = .ok (.lstore 6, 2) := by decide +kernel
theorem dX6_shareOf_97 : decode cX6_shareOf 97 = .ok (.lload 4, 2) := by decide +kernel
theorem dX6_shareOf_99 : decode cX6_shareOf 99 = .ok (.aload_n 0, 1) := by decide +kernel
theorem dX6_shareOf_100 : decode cX6_shareOf 100 = .ok (.getfield 15, 3) := by decide +kernel
theorem dX6_shareOf_103 : decode cX6_shareOf 103 = .ok (.iload 11, 2) := by decide +kernel
theorem dX6_shareOf_105 : decode cX6_shareOf 105 = .ok (.laload, 1) := by decide +kernel
theorem dX6_shareOf_106 : decode cX6_shareOf 106 = .ok (.lmul, 1) := by decide +kernel
theorem dX6_shareOf_107 : decode cX6_shareOf 107 = .ok (.lload_n 2, 1) := by decide +kernel
theorem dX6_shareOf_108 : decode cX6_shareOf 108 = .ok (.lrem, 1) := by decide +kernel
theorem dX6_shareOf_109 : decode cX6_shareOf 109 = .ok (.lstore 12, 2) := by decide +kernel
theorem dX6_shareOf_111 : decode cX6_shareOf 111 = .ok (.lload 12, 2) := by decide +kernel
theorem dX6_shareOf_113 : decode cX6_shareOf 113 = .ok (.lload 9, 2) := by decide +kernel
theorem dX6_shareOf_115 : decode cX6_shareOf 115 = .ok (.lcmp, 1) := by decide +kernel
theorem dX6_shareOf_116 : decode cX6_shareOf 116 = .ok (.ifCond .gt 17, 3) := by decide +kernel
theorem dX6_shareOf_119 : decode cX6_shareOf 119 = .ok (.lload 12, 2) := by decide +kernel
theorem dX6_shareOf_121 : decode cX6_shareOf 121 = .ok (.lload 9, 2) := by decide +kernel
theorem dX6_shareOf_123 : decode cX6_shareOf 123 = .ok (.lcmp, 1) := by decide +kernel
theorem dX6_shareOf_124 : decode cX6_shareOf 124 = .ok (.ifCond .ne 12, 3) := by decide +kernel
theorem dX6_shareOf_127 : decode cX6_shareOf 127 = .ok (.iload 11, 2) := by decide +kernel
theorem dX6_shareOf_129 : decode cX6_shareOf 129 = .ok (.iload_n 1, 1) := by decide +kernel
theorem dX6_shareOf_130 : decode cX6_shareOf 130 = .ok (.if_icmp .ge 6, 3) := by decide +kernel
theorem dX6_shareOf_133 : decode cX6_shareOf 133 = .ok (.iinc 8 1, 3) := by decide +kernel
theorem dX6_shareOf_136 : decode cX6_shareOf 136 = .ok (.iinc 11 1, 3) := by decide +kernel
theorem dX6_shareOf_139 : decode cX6_shareOf 139 = .ok (.goto (-69), 3) := by decide +kernel
theorem dX6_shareOf_142 : decode cX6_shareOf 142 = .ok (.lload 4, 2) := by decide +kernel
theorem dX6_shareOf_144 : decode cX6_shareOf 144 = .ok (.aload_n 0, 1) := by decide +kernel
theorem dX6_shareOf_145 : decode cX6_shareOf 145 = .ok (.getfield 15, 3) := by decide +kernel
theorem dX6_shareOf_148 : decode cX6_shareOf 148 = .ok (.iload_n 1, 1) := by decide +kernel
theorem dX6_shareOf_149 : decode cX6_shareOf 149 = .ok (.laload, 1) := by decide +kernel
theorem dX6_shareOf_150 : decode cX6_shareOf 150 = .ok (.lmul, 1) := by decide +kernel
theorem dX6_shareOf_151 : decode cX6_shareOf 151 = .ok (.lload_n 2, 1) := by decide +kernel
theorem dX6_shareOf_152 : decode cX6_shareOf 152 = .ok (.ldiv, 1) := by decide +kernel
theorem dX6_shareOf_153 : decode cX6_shareOf 153 = .ok (.lstore 11, 2) := by decide +kernel
theorem dX6_shareOf_155 : decode cX6_shareOf 155 = .ok (.iload 8, 2) := by decide +kernel
theorem dX6_shareOf_157 : decode cX6_shareOf 157 = .ok (.i2l, 1) := by decide +kernel
theorem dX6_shareOf_158 : decode cX6_shareOf 158 = .ok (.lload 6, 2) := by decide +kernel
theorem dX6_shareOf_160 : decode cX6_shareOf 160 = .ok (.lcmp, 1) := by decide +kernel
theorem dX6_shareOf_161 : decode cX6_shareOf 161 = .ok (.ifCond .ge 10, 3) := by decide +kernel
theorem dX6_shareOf_164 : decode cX6_shareOf 164 = .ok (.lload 11, 2) := by decide +kernel
theorem dX6_shareOf_166 : decode cX6_shareOf 166 = .ok (.lconst 1, 1) := by decide +kernel
theorem dX6_shareOf_167 : decode cX6_shareOf 167 = .ok (.ladd, 1) := by decide +kernel
theorem dX6_shareOf_168 : decode cX6_shareOf 168 = .ok (.goto 5, 3) := by decide +kernel
theorem dX6_shareOf_171 : decode cX6_shareOf 171 = .ok (.lload 11, 2) := by decide +kernel
theorem dX6_shareOf_173 : decode cX6_shareOf 173 = .ok (.lreturn, 1) := by decide +kernel
theorem dX6_totalWeight_0 : decode cX6_totalWeight 0 = .ok (.lconst 0, 1) := by decide +kernel
theorem dX6_totalWeight_1 : decode cX6_totalWeight 1 = .ok (.lstore_n 1, 1) := by decide +kernel
theorem dX6_totalWeight_2 : decode cX6_totalWeight 2 = .ok (.aload_n 0, 1) := by decide +kernel
theorem dX6_totalWeight_3 : decode cX6_totalWeight 3 = .ok (.getfield 15, 3) := by decide +kernel
theorem dX6_totalWeight_6 : decode cX6_totalWeight 6 = .ok (.astore_n 3, 1) := by decide +kernel
theorem dX6_totalWeight_7 : decode cX6_totalWeight 7 = .ok (.aload_n 3, 1) := by decide +kernel
theorem dX6_totalWeight_8 : decode cX6_totalWeight 8 = .ok (.arraylength, 1) := by decide +kernel
theorem dX6_totalWeight_9 : decode cX6_totalWeight 9 = .ok (.istore 4, 2) := by decide +kernel
theorem dX6_totalWeight_11 : decode cX6_totalWeight 11 = .ok (.iconst 0, 1) := by decide +kernel
theorem dX6_totalWeight_12 : decode cX6_totalWeight 12 = .ok (.istore 5, 2) := by decide +kernel
theorem dX6_totalWeight_14 : decode cX6_totalWeight 14 = .ok (.iload 5, 2) := by decide +kernel
theorem dX6_totalWeight_16 : decode cX6_totalWeight 16 = .ok (.iload 4, 2) := by decide +kernel
theorem dX6_totalWeight_18 : decode cX6_totalWeight 18 = .ok (.if_icmp .ge 20, 3) := by decide +kernel
theorem dX6_totalWeight_21 : decode cX6_totalWeight 21 = .ok (.aload_n 3, 1) := by decide +kernel
theorem dX6_totalWeight_22 : decode cX6_totalWeight 22 = .ok (.iload 5, 2) := by decide +kernel
theorem dX6_totalWeight_24 : decode cX6_totalWeight 24 = .ok (.laload, 1) := by decide +kernel
theorem dX6_totalWeight_25 : decode cX6_totalWeight 25 = .ok (.lstore 6, 2) := by decide +kernel
theorem dX6_totalWeight_27 : decode cX6_totalWeight 27 = .ok (.lload_n 1, 1) := by decide +kernel
theorem dX6_totalWeight_28 : decode cX6_totalWeight 28 = .ok (.lload 6, 2) := by decide +kernel
theorem dX6_totalWeight_30 : decode cX6_totalWeight 30 = .ok (.ladd, 1) := by decide +kernel
theorem dX6_totalWeight_31 : decode cX6_totalWeight 31 = .ok (.lstore_n 1, 1) := by decide +kernel
theorem dX6_totalWeight_32 : decode cX6_totalWeight 32 = .ok (.iinc 5 1, 3) := by decide +kernel
theorem dX6_totalWeight_35 : decode cX6_totalWeight 35 = .ok (.goto (-21), 3) := by decide +kernel
theorem dX6_totalWeight_38 : decode cX6_totalWeight 38 = .ok (.lload_n 1, 1) := by decide +kernel
theorem dX6_totalWeight_39 : decode cX6_totalWeight 39 = .ok (.lreturn, 1) := by decide +kernel
theorem dX7_init_0 : decode cX7_init 0 = .ok (.aload_n 0, 1) := by decide +kernel
theorem dX7_init_1 : decode cX7_init 1 = .ok (.invokespecial 3, 3) := by decide +kernel
theorem dX7_init_4 : decode cX7_init 4 = .ok (.aload_n 0, 1) := by decide +kernel
theorem dX7_init_5 : decode cX7_init 5 = .ok (.new 9, 3) := by decide +kernel
theorem dX7_init_8 : decode cX7_init 8 = .ok (.dup, 1) := by decide +kernel
theorem dX7_init_9 : decode cX7_init 9 = .ok (.invokespecial 11, 3) := by decide +kernel
theorem dX7_init_12 : decode cX7_init 12 = .ok (.putfield 12, 3) := by decide +kernel
theorem dX7_init_15 : decode cX7_init 15 = .ok (.aload_n 0, 1) := by decide +kernel
theorem dX7_init_16 : decode cX7_init 16 = .ok (.new 16, 3) := by decide +kernel
theorem dX7_init_19 : decode cX7_init 19 = .ok (.dup, 1) := by decide +kernel
theorem dX7_init_20 : decode cX7_init 20 = .ok (.invokespecial 18, 3) := by decide +kernel
theorem dX7_init_23 : decode cX7_init 23 = .ok (.putfield 19, 3) := by decide +kernel
theorem dX7_init_26 : decode cX7_init 26 = .ok (.aload_n 0, 1) := by decide +kernel
theorem dX7_init_27 : decode cX7_init 27 = .ok (.sipush 400, 3) := by decide +kernel
theorem dX7_init_30 : decode cX7_init 30 = .ok (.newarray .int, 2) := by decide +kernel
theorem dX7_init_32 : decode cX7_init 32 = .ok (.putfield 23, 3) := by decide +kernel
theorem dX7_init_35 : decode cX7_init 35 = .ok (.aload_n 0, 1) := by decide +kernel
theorem dX7_init_36 : decode cX7_init 36 = .ok (.iconst 0, 1) := by decide +kernel
theorem dX7_init_37 : decode cX7_init 37 = .ok (.putfield 27, 3) := by decide +kernel
theorem dX7_init_40 : decode cX7_init 40 = .ok (.aload_n 0, 1) := by decide +kernel
theorem dX7_init_41 : decode cX7_init 41 = .ok (.iconst 0, 1) := by decide +kernel
theorem dX7_init_42 : decode cX7_init 42 = .ok (.putfield 31, 3) := by decide +kernel
theorem dX7_init_45 : decode cX7_init 45 = .ok (.aload_n 0, 1) := by decide +kernel
theorem dX7_init_46 : decode cX7_init 46 = .ok (.new 34, 3) := by decide +kernel
theorem dX7_init_49 : decode cX7_init 49 = .ok (.dup, 1) := by decide +kernel
theorem dX7_init_50 : decode cX7_init 50 = .ok (.invokespecial 36, 3) := by decide +kernel
theorem dX7_init_53 : decode cX7_init 53 = .ok (.putfield 37, 3) := by decide +kernel
theorem dX7_init_56 : decode cX7_init 56 = .ok (.aload_n 0, 1) := by decide +kernel
theorem dX7_init_57 : decode cX7_init 57 = .ok (.new 41, 3) := by decide +kernel
theorem dX7_init_60 : decode cX7_init 60 = .ok (.dup, 1) := by decide +kernel
theorem dX7_init_61 : decode cX7_init 61 = .ok (.invokespecial 43, 3) := by decide +kernel
theorem dX7_init_64 : decode cX7_init 64 = .ok (.putfield 44, 3) := by decide +kernel
theorem dX7_init_67 : decode cX7_init 67 = .ok (.return_, 1) := by decide +kernel
theorem dX7_follows_0 : decode cX7_follows 0 = .ok (.iload_n 1, 1) := by decide +kernel
theorem dX7_follows_1 : decode cX7_follows 1 = .ok (.ifCond .lt 26, 3) := by decide +kernel
theorem dX7_follows_4 : decode cX7_follows 4 = .ok (.iload_n 1, 1) := by decide +kernel
theorem dX7_follows_5 : decode cX7_follows 5 = .ok (.ldc 48, 2) := by decide +kernel
theorem dX7_follows_7 : decode cX7_follows 7 = .ok (.if_icmp .gt 20, 3) := by decide +kernel
theorem dX7_follows_10 : decode cX7_follows 10 = .ok (.iconst 1, 1) := by decide +kernel
theorem dX7_follows_11 : decode cX7_follows 11 = .ok (.iload_n 2, 1) := by decide +kernel
theorem dX7_follows_12 : decode cX7_follows 12 = .ok (.i2l, 1) := by decide +kernel
theorem dX7_follows_13 : decode cX7_follows 13 = .ok (.invokestatic 49, 3) := by decide +kernel
theorem dX7_follows_16 : decode cX7_follows 16 = .ok (.ifCond .eq 11, 3) := by decide +kernel
theorem dX7_follows_19 : decode cX7_follows 19 = .ok (.iconst 4, 1) := by decide +kernel
theorem dX7_follows_20 : decode cX7_follows 20 = .ok (.lload_n 3, 1) := by decide +kernel
theorem dX7_follows_21 : decode cX7_follows 21 = .ok (.invokestatic 49, 3) := by decide +kernel
theorem dX7_follows_24 : decode cX7_follows 24 = .ok (.ifCond .ne 5, 3) := by decide +kernel
theorem dX7_follows_27 : decode cX7_follows 27 = .ok (.iconst 0, 1) := by decide +kernel
theorem dX7_follows_28 : decode cX7_follows 28 = .ok (.ireturn, 1) := by decide +kernel
theorem dX7_follows_29 : decode cX7_follows 29 = .ok (.aload_n 0, 1) := by decide +kernel
theorem dX7_follows_30 : decode cX7_follows 30 = .ok (.getfield 12, 3) := by decide +kernel
theorem dX7_follows_33 : decode cX7_follows 33 = .ok (.iload_n 1, 1) := by decide +kernel
theorem dX7_follows_34 : decode cX7_follows 34 = .ok (.iload_n 2, 1) := by decide +kernel
theorem dX7_follows_35 : decode cX7_follows 35 = .ok (.lload_n 3, 1) := by decide +kernel
theorem dX7_follows_36 : decode cX7_follows 36 = .ok (.invokevirtual 53, 3) := by decide +kernel
theorem dX7_follows_39 : decode cX7_follows 39 = .ok (.ireturn, 1) := by decide +kernel
theorem dX7_ticket_0 : decode cX7_ticket 0 = .ok (.iconst 1, 1) := by decide +kernel
theorem dX7_ticket_1 : decode cX7_ticket 1 = .ok (.iload_n 1, 1) := by decide +kernel
theorem dX7_ticket_2 : decode cX7_ticket 2 = .ok (.i2l, 1) := by decide +kernel
theorem dX7_ticket_3 : decode cX7_ticket 3 = .ok (.invokestatic 49, 3) := by decide +kernel
theorem dX7_ticket_6 : decode cX7_ticket 6 = .ok (.ifCond .eq 41, 3) := by decide +kernel
theorem dX7_ticket_9 : decode cX7_ticket 9 = .ok (.iconst 2, 1) := by decide +kernel
theorem dX7_ticket_10 : decode cX7_ticket 10 = .ok (.iload_n 2, 1) := by decide +kernel
theorem dX7_ticket_11 : decode cX7_ticket 11 = .ok (.i2l, 1) := by decide +kernel
theorem dX7_ticket_12 : decode cX7_ticket 12 = .ok (.invokestatic 49, 3) := by decide +kernel
theorem dX7_ticket_15 : decode cX7_ticket 15 = .ok (.ifCond .eq 32, 3) := by decide +kernel
theorem dX7_ticket_18 : decode cX7_ticket 18 = .ok (.iconst 3, 1) := by decide +kernel
theorem dX7_ticket_19 : decode cX7_ticket 19 = .ok (.lload_n 3, 1) := by decide +kernel
theorem dX7_ticket_20 : decode cX7_ticket 20 = .ok (.invokestatic 49, 3) := by decide +kernel
theorem dX7_ticket_23 : decode cX7_ticket 23 = .ok (.ifCond .eq 24, 3) := by decide +kernel
theorem dX7_ticket_26 : decode cX7_ticket 26 = .ok (.bipush 6, 2) := by decide +kernel
theorem dX7_ticket_28 : decode cX7_ticket 28 = .ok (.lload 7, 2) := by decide +kernel
theorem dX7_ticket_30 : decode cX7_ticket 30 = .ok (.invokestatic 49, 3) := by decide +kernel
theorem dX7_ticket_33 : decode cX7_ticket 33 = .ok (.ifCond .eq 14, 3) := by decide +kernel
theorem dX7_ticket_36 : decode cX7_ticket 36 = .ok (.bipush 7, 2) := by decide +kernel
theorem dX7_ticket_38 : decode cX7_ticket 38 = .ok (.iload 9, 2) := by decide +kernel
theorem dX7_ticket_40 : decode cX7_ticket 40 = .ok (.i2l, 1) := by decide +kernel
theorem dX7_ticket_41 : decode cX7_ticket 41 = .ok (.invokestatic 49, 3) := by decide +kernel
theorem dX7_ticket_44 : decode cX7_ticket 44 = .ok (.ifCond .ne 5, 3) := by decide +kernel
theorem dX7_ticket_47 : decode cX7_ticket 47 = .ok (.iconst (-1), 1) := by decide +kernel
theorem dX7_ticket_48 : decode cX7_ticket 48 = .ok (.ireturn, 1) := by decide +kernel
theorem dX7_ticket_49 : decode cX7_ticket 49 = .ok (.lload 5, 2) := by decide +kernel
theorem dX7_ticket_51 : decode cX7_ticket 51 = .ok (.ldc2_w 57, 3) := by decide +kernel
theorem dX7_ticket_54 : decode cX7_ticket 54 = .ok (.lcmp, 1) := by decide +kernel
theorem dX7_ticket_55 : decode cX7_ticket 55 = .ok (.ifCond .ne 19, 3) := by decide +kernel
theorem dX7_ticket_58 : decode cX7_ticket 58 = .ok (.aload_n 0, 1) := by decide +kernel
theorem dX7_ticket_59 : decode cX7_ticket 59 = .ok (.getfield 12, 3) := by decide +kernel
theorem dX7_ticket_62 : decode cX7_ticket 62 = .ok (.lload 7, 2) := by decide +kernel
theorem dX7_ticket_64 : decode cX7_ticket 64 = .ok (.invokestatic 59, 3) := by decide +kernel
theorem dX7_ticket_67 : decode cX7_ticket 67 = .ok (.iload_n 1, 1) := by decide +kernel
theorem dX7_ticket_68 : decode cX7_ticket 68 = .ok (.invokevirtual 63, 3) := by decide +kernel
theorem dX7_ticket_71 : decode cX7_ticket 71 = .ok (.goto 5, 3) := by decide +kernel
theorem dX7_ticket_74 : decode cX7_ticket 74 = .ok (.lload 5, 2) := by decide +kernel
theorem dX7_ticket_76 : decode cX7_ticket 76 = .ok (.lstore 10, 2) := by decide +kernel
theorem dX7_ticket_78 : decode cX7_ticket 78 = .ok (.iconst 4, 1) := by decide +kernel
theorem dX7_ticket_79 : decode cX7_ticket 79 = .ok (.lload 10, 2) := by decide +kernel
theorem dX7_ticket_81 : decode cX7_ticket 81 = .ok (.invokestatic 49, 3) := by decide +kernel
theorem dX7_ticket_84 : decode cX7_ticket 84 = .ok (.ifCond .eq 23, 3) := by decide +kernel
theorem dX7_ticket_87 : decode cX7_ticket 87 = .ok (.aload_n 0, 1) := by decide +kernel
theorem dX7_ticket_88 : decode cX7_ticket 88 = .ok (.getfield 37, 3) := by decide +kernel
theorem dX7_ticket_91 : decode cX7_ticket 91 = .ok (.invokevirtual 67, 3) := by decide +kernel
theorem dX7_ticket_94 : decode cX7_ticket 94 = .ok (.ifCond .ne 13, 3) := by decide +kernel
theorem dX7_ticket_97 : decode cX7_ticket 97 = .ok (.aload_n 0, 1) := by decide +kernel
theorem dX7_ticket_98 : decode cX7_ticket 98 = .ok (.getfield 31, 3) := by decide +kernel
theorem dX7_ticket_101 : decode cX7_ticket 101 = .ok (.sipush 400, 3) := by decide +kernel
theorem dX7_ticket_104 : decode cX7_ticket 104 = .ok (.if_icmp .lt 5, 3) := by decide +kernel
theorem dX7_ticket_107 : decode cX7_ticket 107 = .ok (.iconst (-1), 1) := by decide +kernel
theorem dX7_ticket_108 : decode cX7_ticket 108 = .ok (.ireturn, 1) := by decide +kernel
theorem dX7_ticket_109 : decode cX7_ticket 109 = .ok (.lload_n 3, 1) := by decide +kernel
theorem dX7_ticket_110 : decode cX7_ticket 110 = .ok (.lload 10, 2) := by decide +kernel
theorem dX7_ticket_112 : decode cX7_ticket 112 = .ok (.lcmp, 1) := by decide +kernel
theorem dX7_ticket_113 : decode cX7_ticket 113 = .ok (.ifCond .ge 8, 3) := by decide +kernel
theorem dX7_ticket_116 : decode cX7_ticket 116 = .ok (.aload_n 0, 1) := by decide +kernel
theorem dX7_ticket_117 : decode cX7_ticket 117 = .ok (.invokevirtual 71, 3) := by decide +kernel
theorem dX7_ticket_120 : decode cX7_ticket 120 = .ok (.ireturn, 1) := by decide +kernel
theorem dX7_ticket_121 : decode cX7_ticket 121 = .ok (.new 75, 3) := by decide +kernel
theorem dX7_ticket_124 : decode cX7_ticket 124 = .ok (.dup, 1) := by decide +kernel
theorem dX7_ticket_125 : decode cX7_ticket 125 = .ok (.aload_n 0, 1) := by decide +kernel
theorem dX7_ticket_126 : decode cX7_ticket 126 = .ok (.getfield 31, 3) := by decide +kernel
theorem dX7_ticket_129 : decode cX7_ticket 129 = .ok (.iload_n 1, 1) := by decide +kernel
theorem dX7_ticket_130 : decode cX7_ticket 130 = .ok (.iload_n 2, 1) := by decide +kernel
theorem dX7_ticket_131 : decode cX7_ticket 131 = .ok (.lload_n 3, 1) := by decide +kernel
theorem dX7_ticket_132 : decode cX7_ticket 132 = .ok (.lload 10, 2) := by decide +kernel
theorem dX7_ticket_134 : decode cX7_ticket 134 = .ok (.lload 7, 2) := by decide +kernel
theorem dX7_ticket_136 : decode cX7_ticket 136 = .ok (.iload 9, 2) := by decide +kernel
theorem dX7_ticket_138 : decode cX7_ticket 138 = .ok (.invokespecial 77, 3) := by decide +kernel
theorem dX7_ticket_141 : decode cX7_ticket 141 = .ok (.astore 12, 2) := by decide +kernel
theorem dX7_ticket_143 : decode cX7_ticket 143 = .ok (.aload_n 0, 1) := by decide +kernel
theorem dX7_ticket_144 : decode cX7_ticket 144 = .ok (.dup, 1) := by decide +kernel
theorem dX7_ticket_145 : decode cX7_ticket 145 = .ok (.getfield 31, 3) := by decide +kernel
theorem dX7_ticket_148 : decode cX7_ticket 148 = .ok (.iconst 1, 1) := by decide +kernel
theorem dX7_ticket_149 : decode cX7_ticket 149 = .ok (.iadd, 1) := by decide +kernel
theorem dX7_ticket_150 : decode cX7_ticket 150 = .ok (.putfield 31, 3) := by decide +kernel
theorem dX7_ticket_153 : decode cX7_ticket 153 = .ok (.aload_n 0, 1) := by decide +kernel
theorem dX7_ticket_154 : decode cX7_ticket 154 = .ok (.getfield 19, 3) := by decide +kernel
theorem dX7_ticket_157 : decode cX7_ticket 157 = .ok (.aload 12, 2) := by decide +kernel
theorem dX7_ticket_159 : decode cX7_ticket 159 = .ok (.invokevirtual 80, 3) := by decide +kernel
theorem dX7_ticket_162 : decode cX7_ticket 162 = .ok (.pop, 1) := by decide +kernel
theorem dX7_ticket_163 : decode cX7_ticket 163 = .ok (.aload_n 0, 1) := by decide +kernel
theorem dX7_ticket_164 : decode cX7_ticket 164 = .ok (.getfield 37, 3) := by decide +kernel
theorem dX7_ticket_167 : decode cX7_ticket 167 = .ok (.aload 12, 2) := by decide +kernel
theorem dX7_ticket_169 : decode cX7_ticket 169 = .ok (.invokestatic 84, 3) := by decide +kernel
theorem dX7_ticket_172 : decode cX7_ticket 172 = .ok (.invokevirtual 88, 3) := by decide +kernel
theorem dX7_ticket_175 : decode cX7_ticket 175 = .ok (.pop, 1) := by decide +kernel
theorem dX7_ticket_176 : decode cX7_ticket 176 = .ok (.aload_n 0, 1) := by decide +kernel
theorem dX7_ticket_177 : decode cX7_ticket 177 = .ok (.getfield 19, 3) := by decide +kernel
theorem dX7_ticket_180 : decode cX7_ticket 180 = .ok (.invokevirtual 92, 3) := by decide +kernel
theorem dX7_ticket_183 : decode cX7_ticket 183 = .ok (.iconst 1, 1) := by decide +kernel
theorem dX7_ticket_184 : decode cX7_ticket 184 = .ok (.isub, 1) := by decide +kernel
theorem dX7_ticket_185 : decode cX7_ticket 185 = .ok (.ireturn, 1) := by decide +kernel
theorem dX7_correct_0 : decode cX7_correct 0 = .ok (.aload_n 0, 1) := by decide +kernel
theorem dX7_correct_1 : decode cX7_correct 1 = .ok (.iload_n 1, 1) := by decide +kernel
theorem dX7_correct_2 : decode cX7_correct 2 = .ok (.invokevirtual 95, 3) := by decide +kernel
theorem dX7_correct_5 : decode cX7_correct 5 = .ok (.astore 6, 2) := by decide +kernel
theorem dX7_correct_7 : decode cX7_correct 7 = .ok (.aload 6, 2) := by decide +kernel
theorem dX7_correct_9 : decode cX7_correct 9 = .ok (.ifnull 22, 3) := by decide +kernel
theorem dX7_correct_12 : decode cX7_correct 12 = .ok (.iload_n 2, 1) := by decide +kernel
theorem dX7_correct_13 : decode cX7_correct 13 = .ok (.lload_n 3, 1) := by decide +kernel
theorem dX7_correct_14 : decode cX7_correct 14 = .ok (.invokestatic 49, 3) := by decide +kernel
theorem dX7_correct_17 : decode cX7_correct 17 = .ok (.ifCond .eq 14, 3) := by decide +kernel
theorem dX7_correct_20 : decode cX7_correct 20 = .ok (.bipush 7, 2) := by decide +kernel
theorem dX7_correct_22 : decode cX7_correct 22 = .ok (.iload 5, 2) := by decide +kernel
theorem dX7_correct_24 : decode cX7_correct 24 = .ok (.i2l, 1) := by decide +kernel
theorem dX7_correct_25 : decode cX7_correct 25 = .ok (.invokestatic 49, 3) := by decide +kernel
theorem dX7_correct_28 : decode cX7_correct 28 = .ok (.ifCond .ne 5, 3) := by decide +kernel
theorem dX7_correct_31 : decode cX7_correct 31 = .ok (.iconst (-1), 1) := by decide +kernel
theorem dX7_correct_32 : decode cX7_correct 32 = .ok (.ireturn, 1) := by decide +kernel
theorem dX7_correct_33 : decode cX7_correct 33 = .ok (.aload 6, 2) := by decide +kernel
theorem dX7_correct_35 : decode cX7_correct 35 = .ok (.invokevirtual 99, 3) := by decide +kernel
theorem dX7_correct_38 : decode cX7_correct 38 = .ok (.ifCond .ne 23, 3) := by decide +kernel
theorem dX7_correct_41 : decode cX7_correct 41 = .ok (.aload 6, 2) := by decide +kernel
theorem dX7_correct_43 : decode cX7_correct 43 = .ok (.iload_n 2, 1) := by decide +kernel
theorem dX7_correct_44 : decode cX7_correct 44 = .ok (.lload_n 3, 1) := by decide +kernel
theorem dX7_correct_45 : decode cX7_correct 45 = .ok (.invokevirtual 102, 3) := by decide +kernel
theorem dX7_correct_48 : decode cX7_correct 48 = .ok (.ifCond .eq 13, 3) := by decide +kernel
theorem dX7_correct_51 : decode cX7_correct 51 = .ok (.aload_n 0, 1) := by decide +kernel
theorem dX7_correct_52 : decode cX7_correct 52 = .ok (.getfield 37, 3) := by decide +kernel
theorem dX7_correct_55 : decode cX7_correct 55 = .ok (.invokevirtual 67, 3) := by decide +kernel
theorem dX7_correct_58 : decode cX7_correct 58 = .ok (.ifCond .eq 5, 3) := by decide +kernel
theorem dX7_correct_61 : decode cX7_correct 61 = .ok (.iconst (-1), 1) := by decide +kernel
theorem dX7_correct_62 : decode cX7_correct 62 = .ok (.ireturn, 1) := by decide +kernel
theorem dX7_correct_63 : decode cX7_correct 63 = .ok (.aload 6, 2) := by decide +kernel
theorem dX7_correct_65 : decode cX7_correct 65 = .ok (.iload_n 2, 1) := by decide +kernel
theorem dX7_correct_66 : decode cX7_correct 66 = .ok (.lload_n 3, 1) := by decide +kernel
theorem dX7_correct_67 : decode cX7_correct 67 = .ok (.invokevirtual 105, 3) := by decide +kernel
theorem dX7_correct_70 : decode cX7_correct 70 = .ok (.aload_n 0, 1) := by decide +kernel
theorem dX7_correct_71 : decode cX7_correct 71 = .ok (.getfield 37, 3) := by decide +kernel
theorem dX7_correct_74 : decode cX7_correct 74 = .ok (.aload 6, 2) := by decide +kernel
theorem dX7_correct_76 : decode cX7_correct 76 = .ok (.iload_n 2, 1) := by decide +kernel
theorem dX7_correct_77 : decode cX7_correct 77 = .ok (.lload_n 3, 1) := by decide +kernel
theorem dX7_correct_78 : decode cX7_correct 78 = .ok (.iload 5, 2) := by decide +kernel
theorem dX7_correct_80 : decode cX7_correct 80 = .ok (.invokestatic 109, 3) := by decide +kernel
theorem dX7_correct_83 : decode cX7_correct 83 = .ok (.invokevirtual 88, 3) := by decide +kernel
theorem dX7_correct_86 : decode cX7_correct 86 = .ok (.ireturn, 1) := by decide +kernel
theorem dX7_voids_0 : decode cX7_voids 0 = .ok (.aload_n 0, 1) := by decide +kernel
theorem dX7_voids_1 : decode cX7_voids 1 = .ok (.iload_n 1, 1) := by decide +kernel
theorem dX7_voids_2 : decode cX7_voids 2 = .ok (.invokevirtual 95, 3) := by decide +kernel
theorem dX7_voids_5 : decode cX7_voids 5 = .ok (.astore_n 3, 1) := by decide +kernel
theorem dX7_voids_6 : decode cX7_voids 6 = .ok (.aload_n 3, 1) := by decide +kernel
theorem dX7_voids_7 : decode cX7_voids 7 = .ok (.ifnull 31, 3) := by decide +kernel
theorem dX7_voids_10 : decode cX7_voids 10 = .ok (.iload_n 2, 1) := by decide +kernel
theorem dX7_voids_11 : decode cX7_voids 11 = .ok (.iconst 1, 1) := by decide +kernel
theorem dX7_voids_12 : decode cX7_voids 12 = .ok (.if_icmp .lt 26, 3) := by decide +kernel
theorem dX7_voids_15 : decode cX7_voids 15 = .ok (.iload_n 2, 1) := by decide +kernel
theorem dX7_voids_16 : decode cX7_voids 16 = .ok (.bipush 99, 2) := by decide +kernel
theorem dX7_voids_18 : decode cX7_voids 18 = .ok (.if_icmp .gt 20, 3) := by decide +kernel
theorem dX7_voids_21 : decode cX7_voids 21 = .ok (.aload_n 3, 1) := by decide +kernel
theorem dX7_voids_22 : decode cX7_voids 22 = .ok (.invokevirtual 99, 3) := by decide +kernel
theorem dX7_voids_25 : decode cX7_voids 25 = .ok (.ifCond .ne 13, 3) := by decide +kernel
theorem dX7_voids_28 : decode cX7_voids 28 = .ok (.aload_n 0, 1) := by decide +kernel
theorem dX7_voids_29 : decode cX7_voids 29 = .ok (.getfield 37, 3) := by decide +kernel
theorem dX7_voids_32 : decode cX7_voids 32 = .ok (.invokevirtual 67, 3) := by decide +kernel
theorem dX7_voids_35 : decode cX7_voids 35 = .ok (.ifCond .eq 5, 3) := by decide +kernel
theorem dX7_voids_38 : decode cX7_voids 38 = .ok (.iconst (-1), 1) := by decide +kernel
theorem dX7_voids_39 : decode cX7_voids 39 = .ok (.ireturn, 1) := by decide +kernel
theorem dX7_voids_40 : decode cX7_voids 40 = .ok (.aload_n 3, 1) := by decide +kernel
theorem dX7_voids_41 : decode cX7_voids 41 = .ok (.bipush 8, 2) := by decide +kernel
theorem dX7_voids_43 : decode cX7_voids 43 = .ok (.iload_n 2, 1) := by decide +kernel
theorem dX7_voids_44 : decode cX7_voids 44 = .ok (.i2l, 1) := by decide +kernel
theorem dX7_voids_45 : decode cX7_voids 45 = .ok (.invokevirtual 105, 3) := by decide +kernel
theorem dX7_voids_48 : decode cX7_voids 48 = .ok (.aload_n 0, 1) := by decide +kernel
theorem dX7_voids_49 : decode cX7_voids 49 = .ok (.getfield 37, 3) := by decide +kernel
theorem dX7_voids_52 : decode cX7_voids 52 = .ok (.aload_n 3, 1) := by decide +kernel
theorem dX7_voids_53 : decode cX7_voids 53 = .ok (.iload_n 2, 1) := by decide +kernel
theorem dX7_voids_54 : decode cX7_voids 54 = .ok (.invokestatic 113, 3) := by decide +kernel
theorem dX7_voids_57 : decode cX7_voids 57 = .ok (.invokevirtual 88, 3) := by decide +kernel
theorem dX7_voids_60 : decode cX7_voids 60 = .ok (.ireturn, 1) := by decide +kernel
theorem dX7_at_0 : decode cX7_at 0 = .ok (.aload_n 0, 1) := by decide +kernel
theorem dX7_at_1 : decode cX7_at 1 = .ok (.iload_n 1, 1) := by decide +kernel
theorem dX7_at_2 : decode cX7_at 2 = .ok (.invokevirtual 95, 3) := by decide +kernel
theorem dX7_at_5 : decode cX7_at 5 = .ok (.astore_n 3, 1) := by decide +kernel
theorem dX7_at_6 : decode cX7_at 6 = .ok (.aload_n 3, 1) := by decide +kernel
theorem dX7_at_7 : decode cX7_at 7 = .ok (.ifnonnull 9, 3) := by decide +kernel
theorem dX7_at_10 : decode cX7_at 10 = .ok (.ldc2_w 57, 3) := by decide +kernel
theorem dX7_at_13 : decode cX7_at 13 = .ok (.goto 8, 3) := by decide +kernel
theorem dX7_at_16 : decode cX7_at 16 = .ok (.aload_n 3, 1) := by decide +kernel
theorem dX7_at_17 : decode cX7_at 17 = .ok (.iload_n 2, 1) := by decide +kernel
theorem dX7_at_18 : decode cX7_at 18 = .ok (.invokevirtual 117, 3) := by decide +kernel
theorem dX7_at_21 : decode cX7_at 21 = .ok (.lreturn, 1) := by decide +kernel
theorem dX7_number_0 : decode cX7_number 0 = .ok (.aload_n 0, 1) := by decide +kernel
theorem dX7_number_1 : decode cX7_number 1 = .ok (.iload_n 1, 1) := by decide +kernel
theorem dX7_number_2 : decode cX7_number 2 = .ok (.invokevirtual 95, 3) := by decide +kernel
theorem dX7_number_5 : decode cX7_number 5 = .ok (.astore_n 2, 1) := by decide +kernel
theorem dX7_number_6 : decode cX7_number 6 = .ok (.aload_n 2, 1) := by decide +kernel
theorem dX7_number_7 : decode cX7_number 7 = .ok (.ifnonnull 7, 3) := by decide +kernel
theorem dX7_number_10 : decode cX7_number 10 = .ok (.iconst (-1), 1) := by decide +kernel
theorem dX7_number_11 : decode cX7_number 11 = .ok (.goto 9, 3) := by decide +kernel
theorem dX7_number_14 : decode cX7_number 14 = .ok (.aload_n 2, 1) := by decide +kernel
theorem dX7_number_15 : decode cX7_number 15 = .ok (.iconst 0, 1) := by decide +kernel
theorem dX7_number_16 : decode cX7_number 16 = .ok (.invokevirtual 117, 3) := by decide +kernel
theorem dX7_number_19 : decode cX7_number 19 = .ok (.l2i, 1) := by decide +kernel
theorem dX7_number_20 : decode cX7_number 20 = .ok (.ireturn, 1) := by decide +kernel
theorem dX7_gap_0 : decode cX7_gap 0 = .ok (.iload_n 1, 1) := by decide +kernel
theorem dX7_gap_1 : decode cX7_gap 1 = .ok (.ifCond .lt 29, 3) := by decide +kernel
theorem dX7_gap_4 : decode cX7_gap 4 = .ok (.iload_n 1, 1) := by decide +kernel
theorem dX7_gap_5 : decode cX7_gap 5 = .ok (.aload_n 0, 1) := by decide +kernel
theorem dX7_gap_6 : decode cX7_gap 6 = .ok (.getfield 27, 3) := by decide +kernel
theorem dX7_gap_9 : decode cX7_gap 9 = .ok (.if_icmp .ge 21, 3) := by decide +kernel
theorem dX7_gap_12 : decode cX7_gap 12 = .ok (.iload_n 1, 1) := by decide +kernel
theorem dX7_gap_13 : decode cX7_gap 13 = .ok (.aload_n 0, 1) := by decide +kernel
theorem dX7_gap_14 : decode cX7_gap 14 = .ok (.getfield 23, 3) := by decide +kernel
theorem dX7_gap_17 : decode cX7_gap 17 = .ok (.arraylength, 1) := by decide +kernel
theorem dX7_gap_18 : decode cX7_gap 18 = .ok (.if_icmp .ge 12, 3) := by decide +kernel
theorem dX7_gap_21 : decode cX7_gap 21 = .ok (.aload_n 0, 1) := by decide +kernel
theorem dX7_gap_22 : decode cX7_gap 22 = .ok (.getfield 23, 3) := by decide +kernel
theorem dX7_gap_25 : decode cX7_gap 25 = .ok (.iload_n 1, 1) := by decide +kernel
theorem dX7_gap_26 : decode cX7_gap 26 = .ok (.iaload, 1) := by decide +kernel
theorem dX7_gap_27 : decode cX7_gap 27 = .ok (.goto 4, 3) := by decide +kernel
theorem dX7_gap_30 : decode cX7_gap 30 = .ok (.iconst (-1), 1) := by decide +kernel
theorem dX7_gap_31 : decode cX7_gap 31 = .ok (.ireturn, 1) := by decide +kernel
theorem dX7_rows_0 : decode cX7_rows 0 = .ok (.aload_n 0, 1) := by decide +kernel
theorem dX7_rows_1 : decode cX7_rows 1 = .ok (.getfield 37, 3) := by decide +kernel
theorem dX7_rows_4 : decode cX7_rows 4 = .ok (.invokevirtual 121, 3) := by decide +kernel
theorem dX7_rows_7 : decode cX7_rows 7 = .ok (.ireturn, 1) := by decide +kernel
theorem dX7_made_0 : decode cX7_made 0 = .ok (.aload_n 0, 1) := by decide +kernel
theorem dX7_made_1 : decode cX7_made 1 = .ok (.getfield 31, 3) := by decide +kernel
theorem dX7_made_4 : decode cX7_made 4 = .ok (.ireturn, 1) := by decide +kernel
theorem dX7_split_0 : decode cX7_split 0 = .ok (.aload_n 0, 1) := by decide +kernel
theorem dX7_split_1 : decode cX7_split 1 = .ok (.iload_n 1, 1) := by decide +kernel
theorem dX7_split_2 : decode cX7_split 2 = .ok (.invokevirtual 95, 3) := by decide +kernel
theorem dX7_split_5 : decode cX7_split 5 = .ok (.astore 5, 2) := by decide +kernel
theorem dX7_split_7 : decode cX7_split 7 = .ok (.aload 5, 2) := by decide +kernel
theorem dX7_split_9 : decode cX7_split 9 = .ok (.ifnull 17, 3) := by decide +kernel
theorem dX7_split_12 : decode cX7_split 12 = .ok (.lload_n 3, 1) := by decide +kernel
theorem dX7_split_13 : decode cX7_split 13 = .ok (.lconst 0, 1) := by decide +kernel
theorem dX7_split_14 : decode cX7_split 14 = .ok (.lcmp, 1) := by decide +kernel
theorem dX7_split_15 : decode cX7_split 15 = .ok (.ifCond .lt 11, 3) := by decide +kernel
theorem dX7_split_18 : decode cX7_split 18 = .ok (.lload_n 3, 1) := by decide +kernel
theorem dX7_split_19 : decode cX7_split 19 = .ok (.ldc2_w 124, 3) := by decide +kernel
theorem dX7_split_22 : decode cX7_split 22 = .ok (.lcmp, 1) := by decide +kernel
theorem dX7_split_23 : decode cX7_split 23 = .ok (.ifCond .le 5, 3) := by decide +kernel
theorem dX7_split_26 : decode cX7_split 26 = .ok (.iconst 0, 1) := by decide +kernel
theorem dX7_split_27 : decode cX7_split 27 = .ok (.ireturn, 1) := by decide +kernel
theorem dX7_split_28 : decode cX7_split 28 = .ok (.aload 5, 2) := by decide +kernel
theorem dX7_split_30 : decode cX7_split 30 = .ok (.iload_n 2, 1) := by decide +kernel
theorem dX7_split_31 : decode cX7_split 31 = .ok (.lload_n 3, 1) := by decide +kernel
theorem dX7_split_32 : decode cX7_split 32 = .ok (.invokevirtual 126, 3) := by decide +kernel
theorem dX7_split_35 : decode cX7_split 35 = .ok (.ireturn, 1) := by decide +kernel
theorem dX7_share_0 : decode cX7_share 0 = .ok (.aload_n 0, 1) := by decide +kernel
theorem dX7_share_1 : decode cX7_share 1 = .ok (.iload_n 1, 1) := by decide +kernel
theorem dX7_share_2 : decode cX7_share 2 = .ok (.invokevirtual 95, 3) := by decide +kernel
theorem dX7_share_5 : decode cX7_share 5 = .ok (.astore_n 3, 1) := by decide +kernel
theorem dX7_share_6 : decode cX7_share 6 = .ok (.aload_n 3, 1) := by decide +kernel
theorem dX7_share_7 : decode cX7_share 7 = .ok (.ifnonnull 9, 3) := by decide +kernel
theorem dX7_share_10 : decode cX7_share 10 = .ok (.ldc2_w 57, 3) := by decide +kernel
theorem dX7_share_13 : decode cX7_share 13 = .ok (.goto 8, 3) := by decide +kernel
theorem dX7_share_16 : decode cX7_share 16 = .ok (.aload_n 3, 1) := by decide +kernel
theorem dX7_share_17 : decode cX7_share 17 = .ok (.iload_n 2, 1) := by decide +kernel
theorem dX7_share_18 : decode cX7_share 18 = .ok (.invokevirtual 129, 3) := by decide +kernel
theorem dX7_share_21 : decode cX7_share 21 = .ok (.lreturn, 1) := by decide +kernel
theorem dX7_print_0 : decode cX7_print 0 = .ok (.aload_n 0, 1) := by decide +kernel
theorem dX7_print_1 : decode cX7_print 1 = .ok (.iload_n 1, 1) := by decide +kernel
theorem dX7_print_2 : decode cX7_print 2 = .ok (.invokevirtual 95, 3) := by decide +kernel
theorem dX7_print_5 : decode cX7_print 5 = .ok (.astore_n 3, 1) := by decide +kernel
theorem dX7_print_6 : decode cX7_print 6 = .ok (.aload_n 3, 1) := by decide +kernel
theorem dX7_print_7 : decode cX7_print 7 = .ok (.ifnonnull 5, 3) := by decide +kernel
theorem dX7_print_10 : decode cX7_print 10 = .ok (.iconst (-1), 1) := by decide +kernel
theorem dX7_print_11 : decode cX7_print 11 = .ok (.ireturn, 1) := by decide +kernel
theorem dX7_print_12 : decode cX7_print 12 = .ok (.aload_n 0, 1) := by decide +kernel
theorem dX7_print_13 : decode cX7_print 13 = .ok (.getfield 44, 3) := by decide +kernel
theorem dX7_print_16 : decode cX7_print 16 = .ok (.aload_n 3, 1) := by decide +kernel
theorem dX7_print_17 : decode cX7_print 17 = .ok (.invokevirtual 132, 3) := by decide +kernel
theorem dX7_print_20 : decode cX7_print 20 = .ok (.aload_n 0, 1) := by decide +kernel
theorem dX7_print_21 : decode cX7_print 21 = .ok (.getfield 44, 3) := by decide +kernel
theorem dX7_print_24 : decode cX7_print 24 = .ok (.iload_n 2, 1) := by decide +kernel
theorem dX7_print_25 : decode cX7_print 25 = .ok (.invokevirtual 136, 3) := by decide +kernel
theorem dX7_print_28 : decode cX7_print 28 = .ok (.ireturn, 1) := by decide +kernel
theorem dX7_poke_0 : decode cX7_poke 0 = .ok (.aload_n 0, 1) := by decide +kernel
theorem dX7_poke_1 : decode cX7_poke 1 = .ok (.getfield 37, 3) := by decide +kernel
theorem dX7_poke_4 : decode cX7_poke 4 = .ok (.iload_n 1, 1) := by decide +kernel
theorem dX7_poke_5 : decode cX7_poke 5 = .ok (.invokevirtual 140, 3) := by decide +kernel
theorem dX7_poke_8 : decode cX7_poke 8 = .ok (.astore 4, 2) := by decide +kernel
theorem dX7_poke_10 : decode cX7_poke 10 = .ok (.aload 4, 2) := by decide +kernel
theorem dX7_poke_12 : decode cX7_poke 12 = .ok (.ifnull 15, 3) := by decide +kernel
theorem dX7_poke_15 : decode cX7_poke 15 = .ok (.iload_n 3, 1) := by decide +kernel
theorem dX7_poke_16 : decode cX7_poke 16 = .ok (.iconst 1, 1) := by decide +kernel
theorem dX7_poke_17 : decode cX7_poke 17 = .ok (.if_icmp .lt 10, 3) := by decide +kernel
theorem dX7_poke_20 : decode cX7_poke 20 = .ok (.iload_n 3, 1) := by decide +kernel
theorem dX7_poke_21 : decode cX7_poke 21 = .ok (.sipush 255, 3) := by decide +kernel
theorem dX7_poke_24 : decode cX7_poke 24 = .ok (.if_icmp .le 5, 3) := by decide +kernel
theorem dX7_poke_27 : decode cX7_poke 27 = .ok (.iconst 0, 1) := by decide +kernel
theorem dX7_poke_28 : decode cX7_poke 28 = .ok (.ireturn, 1) := by decide +kernel
theorem dX7_poke_29 : decode cX7_poke 29 = .ok (.aload 4, 2) := by decide +kernel
theorem dX7_poke_31 : decode cX7_poke 31 = .ok (.iload_n 2, 1) := by decide +kernel
theorem dX7_poke_32 : decode cX7_poke 32 = .ok (.iload_n 3, 1) := by decide +kernel
theorem dX7_poke_33 : decode cX7_poke 33 = .ok (.invokevirtual 143, 3) := by decide +kernel
theorem dX7_poke_36 : decode cX7_poke 36 = .ok (.ireturn, 1) := by decide +kernel
theorem dX7_byteAt_0 : decode cX7_byteAt 0 = .ok (.aload_n 0, 1) := by decide +kernel
theorem dX7_byteAt_1 : decode cX7_byteAt 1 = .ok (.getfield 37, 3) := by decide +kernel
theorem dX7_byteAt_4 : decode cX7_byteAt 4 = .ok (.iload_n 1, 1) := by decide +kernel
theorem dX7_byteAt_5 : decode cX7_byteAt 5 = .ok (.invokevirtual 140, 3) := by decide +kernel
theorem dX7_byteAt_8 : decode cX7_byteAt 8 = .ok (.astore_n 3, 1) := by decide +kernel
theorem dX7_byteAt_9 : decode cX7_byteAt 9 = .ok (.aload_n 3, 1) := by decide +kernel
theorem dX7_byteAt_10 : decode cX7_byteAt 10 = .ok (.ifnull 11, 3) := by decide +kernel
theorem dX7_byteAt_13 : decode cX7_byteAt 13 = .ok (.aload_n 3, 1) := by decide +kernel
theorem dX7_byteAt_14 : decode cX7_byteAt 14 = .ok (.iload_n 2, 1) := by decide +kernel
theorem dX7_byteAt_15 : decode cX7_byteAt 15 = .ok (.invokevirtual 149, 3) := by decide +kernel
theorem dX7_byteAt_18 : decode cX7_byteAt 18 = .ok (.ifCond .ne 13, 3) := by decide +kernel
theorem dX7_byteAt_21 : decode cX7_byteAt 21 = .ok (.new 153, 3) := by decide +kernel
theorem dX7_byteAt_24 : decode cX7_byteAt 24 = .ok (.dup, 1) := by decide +kernel
theorem dX7_byteAt_25 : decode cX7_byteAt 25 = .ok (.ldc 155, 2) := by decide +kernel
theorem dX7_byteAt_27 : decode cX7_byteAt 27 = .ok (.invokespecial 157, 3) := by decide +kernel
theorem dX7_byteAt_30 : decode cX7_byteAt 30 = .ok (.athrow, 1) := by decide +kernel
theorem dX7_byteAt_31 : decode cX7_byteAt 31 = .ok (.aload_n 3, 1) := by decide +kernel
theorem dX7_byteAt_32 : decode cX7_byteAt 32 = .ok (.iload_n 2, 1) := by decide +kernel
theorem dX7_byteAt_33 : decode cX7_byteAt 33 = .ok (.invokevirtual 160, 3) := by decide +kernel
theorem dX7_byteAt_36 : decode cX7_byteAt 36 = .ok (.ireturn, 1) := by decide +kernel
theorem dX7_digest_0 : decode cX7_digest 0 = .ok (.aload_n 0, 1) := by decide +kernel
theorem dX7_digest_1 : decode cX7_digest 1 = .ok (.getfield 37, 3) := by decide +kernel
theorem dX7_digest_4 : decode cX7_digest 4 = .ok (.iload_n 1, 1) := by decide +kernel
theorem dX7_digest_5 : decode cX7_digest 5 = .ok (.invokevirtual 140, 3) := by decide +kernel
theorem dX7_digest_8 : decode cX7_digest 8 = .ok (.astore_n 3, 1) := by decide +kernel
theorem dX7_digest_9 : decode cX7_digest 9 = .ok (.aload_n 3, 1) := by decide +kernel
theorem dX7_digest_10 : decode cX7_digest 10 = .ok (.ifnull 13, 3) := by decide +kernel
theorem dX7_digest_13 : decode cX7_digest 13 = .ok (.iload_n 2, 1) := by decide +kernel
theorem dX7_digest_14 : decode cX7_digest 14 = .ok (.ifCond .lt 9, 3) := by decide +kernel
theorem dX7_digest_17 : decode cX7_digest 17 = .ok (.iload_n 2, 1) := by decide +kernel
theorem dX7_digest_18 : decode cX7_digest 18 = .ok (.bipush 32, 2) := by decide +kernel
theorem dX7_digest_20 : decode cX7_digest 20 = .ok (.if_icmp .lt 5, 3) := by decide +kernel
theorem dX7_digest_23 : decode cX7_digest 23 = .ok (.iconst (-1), 1) := by decide +kernel
theorem dX7_digest_24 : decode cX7_digest 24 = .ok (.ireturn, 1) := by decide +kernel
theorem dX7_digest_25 : decode cX7_digest 25 = .ok (.aload_n 3, 1) := by decide +kernel
theorem dX7_digest_26 : decode cX7_digest 26 = .ok (.bipush 41, 2) := by decide +kernel
theorem dX7_digest_28 : decode cX7_digest 28 = .ok (.iload_n 2, 1) := by decide +kernel
theorem dX7_digest_29 : decode cX7_digest 29 = .ok (.iadd, 1) := by decide +kernel
theorem dX7_digest_30 : decode cX7_digest 30 = .ok (.invokevirtual 160, 3) := by decide +kernel
theorem dX7_digest_33 : decode cX7_digest 33 = .ok (.ireturn, 1) := by decide +kernel
theorem dX7_check_0 : decode cX7_check 0 = .ok (.iload_n 1, 1) := by decide +kernel
theorem dX7_check_1 : decode cX7_check 1 = .ok (.ifCond .lt 14, 3) := by decide +kernel
theorem dX7_check_4 : decode cX7_check 4 = .ok (.iload_n 1, 1) := by decide +kernel
theorem dX7_check_5 : decode cX7_check 5 = .ok (.aload_n 0, 1) := by decide +kernel
theorem dX7_check_6 : decode cX7_check 6 = .ok (.getfield 37, 3) := by decide +kernel
theorem dX7_check_9 : decode cX7_check 9 = .ok (.invokevirtual 121, 3) := by decide +kernel
theorem dX7_check_12 : decode cX7_check 12 = .ok (.if_icmp .le 5, 3) := by decide +kernel
theorem dX7_check_15 : decode cX7_check 15 = .ok (.iconst (-1), 1) := by decide +kernel
theorem dX7_check_16 : decode cX7_check 16 = .ok (.ireturn, 1) := by decide +kernel
theorem dX7_check_17 : decode cX7_check 17 = .ok (.aload_n 0, 1) := by decide +kernel
theorem dX7_check_18 : decode cX7_check 18 = .ok (.getfield 37, 3) := by decide +kernel
theorem dX7_check_21 : decode cX7_check 21 = .ok (.iload_n 1, 1) := by decide +kernel
theorem dX7_check_22 : decode cX7_check 22 = .ok (.invokevirtual 163, 3) := by decide +kernel
theorem dX7_check_25 : decode cX7_check 25 = .ok (.istore_n 2, 1) := by decide +kernel
theorem dX7_check_26 : decode cX7_check 26 = .ok (.iload_n 2, 1) := by decide +kernel
theorem dX7_check_27 : decode cX7_check 27 = .ok (.iconst (-1), 1) := by decide +kernel
theorem dX7_check_28 : decode cX7_check 28 = .ok (.if_icmp .ne 7, 3) := by decide +kernel
theorem dX7_check_31 : decode cX7_check 31 = .ok (.iconst 0, 1) := by decide +kernel
theorem dX7_check_32 : decode cX7_check 32 = .ok (.goto 6, 3) := by decide +kernel
theorem dX7_check_35 : decode cX7_check 35 = .ok (.iconst 1, 1) := by decide +kernel
theorem dX7_check_36 : decode cX7_check 36 = .ok (.iload_n 2, 1) := by decide +kernel
theorem dX7_check_37 : decode cX7_check 37 = .ok (.iadd, 1) := by decide +kernel
theorem dX7_check_38 : decode cX7_check 38 = .ok (.ireturn, 1) := by decide +kernel
theorem dX7_root_0 : decode cX7_root 0 = .ok (.aload_n 0, 1) := by decide +kernel
theorem dX7_root_1 : decode cX7_root 1 = .ok (.getfield 37, 3) := by decide +kernel
theorem dX7_root_4 : decode cX7_root 4 = .ok (.iload_n 1, 1) := by decide +kernel
theorem dX7_root_5 : decode cX7_root 5 = .ok (.iload_n 2, 1) := by decide +kernel
theorem dX7_root_6 : decode cX7_root 6 = .ok (.invokevirtual 166, 3) := by decide +kernel
theorem dX7_root_9 : decode cX7_root 9 = .ok (.ireturn, 1) := by decide +kernel
theorem dX7_find_0 : decode cX7_find 0 = .ok (.iload_n 1, 1) := by decide +kernel
theorem dX7_find_1 : decode cX7_find 1 = .ok (.ifCond .lt 28, 3) := by decide +kernel
theorem dX7_find_4 : decode cX7_find 4 = .ok (.iload_n 1, 1) := by decide +kernel
theorem dX7_find_5 : decode cX7_find 5 = .ok (.aload_n 0, 1) := by decide +kernel
theorem dX7_find_6 : decode cX7_find 6 = .ok (.getfield 19, 3) := by decide +kernel
theorem dX7_find_9 : decode cX7_find 9 = .ok (.invokevirtual 92, 3) := by decide +kernel
theorem dX7_find_12 : decode cX7_find 12 = .ok (.if_icmp .ge 17, 3) := by decide +kernel
theorem dX7_find_15 : decode cX7_find 15 = .ok (.aload_n 0, 1) := by decide +kernel
theorem dX7_find_16 : decode cX7_find 16 = .ok (.getfield 19, 3) := by decide +kernel
theorem dX7_find_19 : decode cX7_find 19 = .ok (.iload_n 1, 1) := by decide +kernel
theorem dX7_find_20 : decode cX7_find 20 = .ok (.invokevirtual 170, 3) := by decide +kernel
theorem dX7_find_23 : decode cX7_find 23 = .ok (.checkcast 75, 3) := by decide +kernel
theorem dX7_find_26 : decode cX7_find 26 = .ok (.goto 4, 3) := by decide +kernel
theorem dX7_find_29 : decode cX7_find 29 = .ok (.aconst_null, 1) := by decide +kernel
theorem dX7_find_30 : decode cX7_find 30 = .ok (.areturn, 1) := by decide +kernel
theorem dX7_spoilNumber_0 : decode cX7_spoilNumber 0 = .ok (.aload_n 0, 1) := by decide +kernel
theorem dX7_spoilNumber_1 : decode cX7_spoilNumber 1 = .ok (.getfield 27, 3) := by decide +kernel
theorem dX7_spoilNumber_4 : decode cX7_spoilNumber 4 = .ok (.aload_n 0, 1) := by decide +kernel
theorem dX7_spoilNumber_5 : decode cX7_spoilNumber 5 = .ok (.getfield 23, 3) := by decide +kernel
theorem dX7_spoilNumber_8 : decode cX7_spoilNumber 8 = .ok (.arraylength, 1) := by decide +kernel
theorem dX7_spoilNumber_9 : decode cX7_spoilNumber 9 = .ok (.if_icmp .ge 26, 3) := by decide +kernel
theorem dX7_spoilNumber_12 : decode cX7_spoilNumber 12 = .ok (.aload_n 0, 1) := by decide +kernel
theorem dX7_spoilNumber_13 : decode cX7_spoilNumber 13 = .ok (.getfield 23, 3) := by decide +kernel
theorem dX7_spoilNumber_16 : decode cX7_spoilNumber 16 = .ok (.aload_n 0, 1) := by decide +kernel
theorem dX7_spoilNumber_17 : decode cX7_spoilNumber 17 = .ok (.getfield 27, 3) := by decide +kernel
theorem dX7_spoilNumber_20 : decode cX7_spoilNumber 20 = .ok (.aload_n 0, 1) := by decide +kernel
theorem dX7_spoilNumber_21 : decode cX7_spoilNumber 21 = .ok (.getfield 31, 3) := by decide +kernel
theorem dX7_spoilNumber_24 : decode cX7_spoilNumber 24 = .ok (.iastore, 1) := by decide +kernel
theorem dX7_spoilNumber_25 : decode cX7_spoilNumber 25 = .ok (.aload_n 0, 1) := by decide +kernel
theorem dX7_spoilNumber_26 : decode cX7_spoilNumber 26 = .ok (.dup, 1) := by decide +kernel
theorem dX7_spoilNumber_27 : decode cX7_spoilNumber 27 = .ok (.getfield 27, 3) := by decide +kernel
theorem dX7_spoilNumber_30 : decode cX7_spoilNumber 30 = .ok (.iconst 1, 1) := by decide +kernel
theorem dX7_spoilNumber_31 : decode cX7_spoilNumber 31 = .ok (.iadd, 1) := by decide +kernel
theorem dX7_spoilNumber_32 : decode cX7_spoilNumber 32 = .ok (.putfield 27, 3) := by decide +kernel
theorem dX7_spoilNumber_35 : decode cX7_spoilNumber 35 = .ok (.aload_n 0, 1) := by decide +kernel
theorem dX7_spoilNumber_36 : decode cX7_spoilNumber 36 = .ok (.dup, 1) := by decide +kernel
theorem dX7_spoilNumber_37 : decode cX7_spoilNumber 37 = .ok (.getfield 31, 3) := by decide +kernel
theorem dX7_spoilNumber_40 : decode cX7_spoilNumber 40 = .ok (.iconst 1, 1) := by decide +kernel
theorem dX7_spoilNumber_41 : decode cX7_spoilNumber 41 = .ok (.iadd, 1) := by decide +kernel
theorem dX7_spoilNumber_42 : decode cX7_spoilNumber 42 = .ok (.putfield 31, 3) := by decide +kernel
theorem dX7_spoilNumber_45 : decode cX7_spoilNumber 45 = .ok (.bipush (-2), 2) := by decide +kernel
theorem dX7_spoilNumber_47 : decode cX7_spoilNumber 47 = .ok (.ireturn, 1) := by decide +kernel
theorem dX7_fits_0 : decode cX7_fits 0 = .ok (.lload_n 1, 1) := by decide +kernel
theorem dX7_fits_1 : decode cX7_fits 1 = .ok (.lconst 0, 1) := by decide +kernel
theorem dX7_fits_2 : decode cX7_fits 2 = .ok (.lcmp, 1) := by decide +kernel
theorem dX7_fits_3 : decode cX7_fits 3 = .ok (.ifCond .lt 16, 3) := by decide +kernel
theorem dX7_fits_6 : decode cX7_fits 6 = .ok (.lload_n 1, 1) := by decide +kernel
theorem dX7_fits_7 : decode cX7_fits 7 = .ok (.iload_n 0, 1) := by decide +kernel
theorem dX7_fits_8 : decode cX7_fits 8 = .ok (.invokestatic 174, 3) := by decide +kernel
theorem dX7_fits_11 : decode cX7_fits 11 = .ok (.lcmp, 1) := by decide +kernel
theorem dX7_fits_12 : decode cX7_fits 12 = .ok (.ifCond .gt 7, 3) := by decide +kernel
theorem dX7_fits_15 : decode cX7_fits 15 = .ok (.iconst 1, 1) := by decide +kernel
theorem dX7_fits_16 : decode cX7_fits 16 = .ok (.goto 4, 3) := by decide +kernel
theorem dX7_fits_19 : decode cX7_fits 19 = .ok (.iconst 0, 1) := by decide +kernel
theorem dX7_fits_20 : decode cX7_fits 20 = .ok (.ireturn, 1) := by decide +kernel
theorem dX7_greatest_0 : decode cX7_greatest 0 = .ok (.iload_n 0, 1) := by decide +kernel
theorem dX7_greatest_1 : decode cX7_greatest 1 = .ok (.tableswitch 63 1 7 #[43, 47, 51, 51, 63, 55, 59], 43) := by decide +kernel
theorem dX7_greatest_44 : decode cX7_greatest 44 = .ok (.ldc2_w 177, 3) := by decide +kernel
theorem dX7_greatest_47 : decode cX7_greatest 47 = .ok (.lreturn, 1) := by decide +kernel
theorem dX7_greatest_48 : decode cX7_greatest 48 = .ok (.ldc2_w 179, 3) := by decide +kernel
theorem dX7_greatest_51 : decode cX7_greatest 51 = .ok (.lreturn, 1) := by decide +kernel
theorem dX7_greatest_52 : decode cX7_greatest 52 = .ok (.ldc2_w 181, 3) := by decide +kernel
theorem dX7_greatest_55 : decode cX7_greatest 55 = .ok (.lreturn, 1) := by decide +kernel
theorem dX7_greatest_56 : decode cX7_greatest 56 = .ok (.ldc2_w 183, 3) := by decide +kernel
theorem dX7_greatest_59 : decode cX7_greatest 59 = .ok (.lreturn, 1) := by decide +kernel
theorem dX7_greatest_60 : decode cX7_greatest 60 = .ok (.ldc2_w 185, 3) := by decide +kernel
theorem dX7_greatest_63 : decode cX7_greatest 63 = .ok (.lreturn, 1) := by decide +kernel
theorem dX7_greatest_64 : decode cX7_greatest 64 = .ok (.ldc2_w 57, 3) := by decide +kernel
theorem dX7_greatest_67 : decode cX7_greatest 67 = .ok (.lreturn, 1) := by decide +kernel
theorem dX7_dayOf_0 : decode cX7_dayOf 0 = .ok (.lload_n 0, 1) := by decide +kernel
theorem dX7_dayOf_1 : decode cX7_dayOf 1 = .ok (.ldc2_w 187, 3) := by decide +kernel
theorem dX7_dayOf_4 : decode cX7_dayOf 4 = .ok (.ldiv, 1) := by decide +kernel
theorem dX7_dayOf_5 : decode cX7_dayOf 5 = .ok (.l2i, 1) := by decide +kernel
theorem dX7_dayOf_6 : decode cX7_dayOf 6 = .ok (.ireturn, 1) := by decide +kernel
theorem dX7_ticketRow_0 : decode cX7_ticketRow 0 = .ok (.new 144, 3) := by decide +kernel
theorem dX7_ticketRow_3 : decode cX7_ticketRow 3 = .ok (.dup, 1) := by decide +kernel
theorem dX7_ticketRow_4 : decode cX7_ticketRow 4 = .ok (.aload_n 0, 1) := by decide +kernel
theorem dX7_ticketRow_5 : decode cX7_ticketRow 5 = .ok (.bipush 6, 2) := by decide +kernel
theorem dX7_ticketRow_7 : decode cX7_ticketRow 7 = .ok (.invokevirtual 117, 3) := by decide +kernel
theorem dX7_ticketRow_10 : decode cX7_ticketRow 10 = .ok (.invokestatic 59, 3) := by decide +kernel
theorem dX7_ticketRow_13 : decode cX7_ticketRow 13 = .ok (.invokespecial 189, 3) := by decide +kernel
theorem dX7_ticketRow_16 : decode cX7_ticketRow 16 = .ok (.astore_n 1, 1) := by decide +kernel
theorem dX7_ticketRow_17 : decode cX7_ticketRow 17 = .ok (.aload_n 1, 1) := by decide +kernel
theorem dX7_ticketRow_18 : decode cX7_ticketRow 18 = .ok (.lconst 1, 1) := by decide +kernel
theorem dX7_ticketRow_19 : decode cX7_ticketRow 19 = .ok (.iconst 1, 1) := by decide +kernel
theorem dX7_ticketRow_20 : decode cX7_ticketRow 20 = .ok (.invokevirtual 192, 3) := by decide +kernel
theorem dX7_ticketRow_23 : decode cX7_ticketRow 23 = .ok (.aload_n 1, 1) := by decide +kernel
theorem dX7_ticketRow_24 : decode cX7_ticketRow 24 = .ok (.aload_n 0, 1) := by decide +kernel
theorem dX7_ticketRow_25 : decode cX7_ticketRow 25 = .ok (.iconst 0, 1) := by decide +kernel
theorem dX7_ticketRow_26 : decode cX7_ticketRow 26 = .ok (.invokevirtual 117, 3) := by decide +kernel
theorem dX7_ticketRow_29 : decode cX7_ticketRow 29 = .ok (.iconst 4, 1) := by decide +kernel
theorem dX7_ticketRow_30 : decode cX7_ticketRow 30 = .ok (.invokevirtual 192, 3) := by decide +kernel
theorem dX7_ticketRow_33 : decode cX7_ticketRow 33 = .ok (.aload_n 1, 1) := by decide +kernel
theorem dX7_ticketRow_34 : decode cX7_ticketRow 34 = .ok (.aload_n 0, 1) := by decide +kernel
theorem dX7_ticketRow_35 : decode cX7_ticketRow 35 = .ok (.iconst 1, 1) := by decide +kernel
theorem dX7_ticketRow_36 : decode cX7_ticketRow 36 = .ok (.invokevirtual 117, 3) := by decide +kernel
theorem dX7_ticketRow_39 : decode cX7_ticketRow 39 = .ok (.iconst 4, 1) := by decide +kernel
theorem dX7_ticketRow_40 : decode cX7_ticketRow 40 = .ok (.invokevirtual 192, 3) := by decide +kernel
theorem dX7_ticketRow_43 : decode cX7_ticketRow 43 = .ok (.aload_n 1, 1) := by decide +kernel
theorem dX7_ticketRow_44 : decode cX7_ticketRow 44 = .ok (.aload_n 0, 1) := by decide +kernel
theorem dX7_ticketRow_45 : decode cX7_ticketRow 45 = .ok (.iconst 2, 1) := by decide +kernel
theorem dX7_ticketRow_46 : decode cX7_ticketRow 46 = .ok (.invokevirtual 117, 3) := by decide +kernel
theorem dX7_ticketRow_49 : decode cX7_ticketRow 49 = .ok (.iconst 4, 1) := by decide +kernel
theorem dX7_ticketRow_50 : decode cX7_ticketRow 50 = .ok (.invokevirtual 192, 3) := by decide +kernel
theorem dX7_ticketRow_53 : decode cX7_ticketRow 53 = .ok (.aload_n 1, 1) := by decide +kernel
theorem dX7_ticketRow_54 : decode cX7_ticketRow 54 = .ok (.aload_n 0, 1) := by decide +kernel
theorem dX7_ticketRow_55 : decode cX7_ticketRow 55 = .ok (.iconst 3, 1) := by decide +kernel
theorem dX7_ticketRow_56 : decode cX7_ticketRow 56 = .ok (.invokevirtual 117, 3) := by decide +kernel
theorem dX7_ticketRow_59 : decode cX7_ticketRow 59 = .ok (.bipush 8, 2) := by decide +kernel
theorem dX7_ticketRow_61 : decode cX7_ticketRow 61 = .ok (.invokevirtual 192, 3) := by decide +kernel
theorem dX7_ticketRow_64 : decode cX7_ticketRow 64 = .ok (.aload_n 1, 1) := by decide +kernel
theorem dX7_ticketRow_65 : decode cX7_ticketRow 65 = .ok (.aload_n 0, 1) := by decide +kernel
theorem dX7_ticketRow_66 : decode cX7_ticketRow 66 = .ok (.iconst 4, 1) := by decide +kernel
theorem dX7_ticketRow_67 : decode cX7_ticketRow 67 = .ok (.invokevirtual 117, 3) := by decide +kernel
theorem dX7_ticketRow_70 : decode cX7_ticketRow 70 = .ok (.bipush 8, 2) := by decide +kernel
theorem dX7_ticketRow_72 : decode cX7_ticketRow 72 = .ok (.invokevirtual 192, 3) := by decide +kernel
theorem dX7_ticketRow_75 : decode cX7_ticketRow 75 = .ok (.aload_n 1, 1) := by decide +kernel
theorem dX7_ticketRow_76 : decode cX7_ticketRow 76 = .ok (.aload_n 0, 1) := by decide +kernel
theorem dX7_ticketRow_77 : decode cX7_ticketRow 77 = .ok (.bipush 6, 2) := by decide +kernel
theorem dX7_ticketRow_79 : decode cX7_ticketRow 79 = .ok (.invokevirtual 117, 3) := by decide +kernel
theorem dX7_ticketRow_82 : decode cX7_ticketRow 82 = .ok (.bipush 8, 2) := by decide +kernel
theorem dX7_ticketRow_84 : decode cX7_ticketRow 84 = .ok (.invokevirtual 192, 3) := by decide +kernel
theorem dX7_ticketRow_87 : decode cX7_ticketRow 87 = .ok (.aload_n 1, 1) := by decide +kernel
theorem dX7_ticketRow_88 : decode cX7_ticketRow 88 = .ok (.aload_n 0, 1) := by decide +kernel
theorem dX7_ticketRow_89 : decode cX7_ticketRow 89 = .ok (.bipush 7, 2) := by decide +kernel
theorem dX7_ticketRow_91 : decode cX7_ticketRow 91 = .ok (.invokevirtual 117, 3) := by decide +kernel
theorem dX7_ticketRow_94 : decode cX7_ticketRow 94 = .ok (.iconst 4, 1) := by decide +kernel
theorem dX7_ticketRow_95 : decode cX7_ticketRow 95 = .ok (.invokevirtual 192, 3) := by decide +kernel
theorem dX7_ticketRow_98 : decode cX7_ticketRow 98 = .ok (.aload_n 1, 1) := by decide +kernel
theorem dX7_ticketRow_99 : decode cX7_ticketRow 99 = .ok (.areturn, 1) := by decide +kernel
theorem dX7_correctionRow_0 : decode cX7_correctionRow 0 = .ok (.new 144, 3) := by decide +kernel
theorem dX7_correctionRow_3 : decode cX7_correctionRow 3 = .ok (.dup, 1) := by decide +kernel
theorem dX7_correctionRow_4 : decode cX7_correctionRow 4 = .ok (.aload_n 0, 1) := by decide +kernel
theorem dX7_correctionRow_5 : decode cX7_correctionRow 5 = .ok (.bipush 6, 2) := by decide +kernel
theorem dX7_correctionRow_7 : decode cX7_correctionRow 7 = .ok (.invokevirtual 117, 3) := by decide +kernel
theorem dX7_correctionRow_10 : decode cX7_correctionRow 10 = .ok (.invokestatic 59, 3) := by decide +kernel
theorem dX7_correctionRow_13 : decode cX7_correctionRow 13 = .ok (.invokespecial 189, 3) := by decide +kernel
theorem dX7_correctionRow_16 : decode cX7_correctionRow 16 = .ok (.astore 5, 2) := by decide +kernel
theorem dX7_correctionRow_18 : decode cX7_correctionRow 18 = .ok (.aload 5, 2) := by decide +kernel
theorem dX7_correctionRow_20 : decode cX7_correctionRow 20 = .ok (.ldc2_w 196, 3) := by decide +kernel
theorem dX7_correctionRow_23 : decode cX7_correctionRow 23 = .ok (.iconst 1, 1) := by decide +kernel
theorem dX7_correctionRow_24 : decode cX7_correctionRow 24 = .ok (.invokevirtual 192, 3) := by decide +kernel
theorem dX7_correctionRow_27 : decode cX7_correctionRow 27 = .ok (.aload 5, 2) := by decide +kernel
theorem dX7_correctionRow_29 : decode cX7_correctionRow 29 = .ok (.aload_n 0, 1) := by decide +kernel
theorem dX7_correctionRow_30 : decode cX7_correctionRow 30 = .ok (.iconst 0, 1) := by decide +kernel
theorem dX7_correctionRow_31 : decode cX7_correctionRow 31 = .ok (.invokevirtual 117, 3) := by decide +kernel
theorem dX7_correctionRow_34 : decode cX7_correctionRow 34 = .ok (.iconst 4, 1) := by decide +kernel
theorem dX7_correctionRow_35 : decode cX7_correctionRow 35 = .ok (.invokevirtual 192, 3) := by decide +kernel
theorem dX7_correctionRow_38 : decode cX7_correctionRow 38 = .ok (.aload 5, 2) := by decide +kernel
theorem dX7_correctionRow_40 : decode cX7_correctionRow 40 = .ok (.iload_n 1, 1) := by decide +kernel
theorem dX7_correctionRow_41 : decode cX7_correctionRow 41 = .ok (.i2l, 1) := by decide +kernel
theorem dX7_correctionRow_42 : decode cX7_correctionRow 42 = .ok (.iconst 4, 1) := by decide +kernel
theorem dX7_correctionRow_43 : decode cX7_correctionRow 43 = .ok (.invokevirtual 192, 3) := by decide +kernel
theorem dX7_correctionRow_46 : decode cX7_correctionRow 46 = .ok (.aload 5, 2) := by decide +kernel
theorem dX7_correctionRow_48 : decode cX7_correctionRow 48 = .ok (.lload_n 2, 1) := by decide +kernel
theorem dX7_correctionRow_49 : decode cX7_correctionRow 49 = .ok (.bipush 8, 2) := by decide +kernel
theorem dX7_correctionRow_51 : decode cX7_correctionRow 51 = .ok (.invokevirtual 192, 3) := by decide +kernel
theorem dX7_correctionRow_54 : decode cX7_correctionRow 54 = .ok (.aload 5, 2) := by decide +kernel
theorem dX7_correctionRow_56 : decode cX7_correctionRow 56 = .ok (.iload 4, 2) := by decide +kernel
theorem dX7_correctionRow_58 : decode cX7_correctionRow 58 = .ok (.i2l, 1) := by decide +kernel
theorem dX7_correctionRow_59 : decode cX7_correctionRow 59 = .ok (.iconst 4, 1) := by decide +kernel
theorem dX7_correctionRow_60 : decode cX7_correctionRow 60 = .ok (.invokevirtual 192, 3) := by decide +kernel
theorem dX7_correctionRow_63 : decode cX7_correctionRow 63 = .ok (.aload 5, 2) := by decide +kernel
theorem dX7_correctionRow_65 : decode cX7_correctionRow 65 = .ok (.areturn, 1) := by decide +kernel
theorem dX7_voidRow_0 : decode cX7_voidRow 0 = .ok (.new 144, 3) := by decide +kernel
theorem dX7_voidRow_3 : decode cX7_voidRow 3 = .ok (.dup, 1) := by decide +kernel
theorem dX7_voidRow_4 : decode cX7_voidRow 4 = .ok (.aload_n 0, 1) := by decide +kernel
theorem dX7_voidRow_5 : decode cX7_voidRow 5 = .ok (.bipush 6, 2) := by decide +kernel
theorem dX7_voidRow_7 : decode cX7_voidRow 7 = .ok (.invokevirtual 117, 3) := by decide +kernel
theorem dX7_voidRow_10 : decode cX7_voidRow 10 = .ok (.invokestatic 59, 3) := by decide +kernel
theorem dX7_voidRow_13 : decode cX7_voidRow 13 = .ok (.invokespecial 189, 3) := by decide +kernel
theorem dX7_voidRow_16 : decode cX7_voidRow 16 = .ok (.astore_n 2, 1) := by decide +kernel
theorem dX7_voidRow_17 : decode cX7_voidRow 17 = .ok (.aload_n 2, 1) := by decide +kernel
theorem dX7_voidRow_18 : decode cX7_voidRow 18 = .ok (.ldc2_w 198, 3) := by decide +kernel
theorem dX7_voidRow_21 : decode cX7_voidRow 21 = .ok (.iconst 1, 1) := by decide +kernel
theorem dX7_voidRow_22 : decode cX7_voidRow 22 = .ok (.invokevirtual 192, 3) := by decide +kernel
theorem dX7_voidRow_25 : decode cX7_voidRow 25 = .ok (.aload_n 2, 1) := by decide +kernel
theorem dX7_voidRow_26 : decode cX7_voidRow 26 = .ok (.aload_n 0, 1) := by decide +kernel
theorem dX7_voidRow_27 : decode cX7_voidRow 27 = .ok (.iconst 0, 1) := by decide +kernel
theorem dX7_voidRow_28 : decode cX7_voidRow 28 = .ok (.invokevirtual 117, 3) := by decide +kernel
theorem dX7_voidRow_31 : decode cX7_voidRow 31 = .ok (.iconst 4, 1) := by decide +kernel
theorem dX7_voidRow_32 : decode cX7_voidRow 32 = .ok (.invokevirtual 192, 3) := by decide +kernel
theorem dX7_voidRow_35 : decode cX7_voidRow 35 = .ok (.aload_n 2, 1) := by decide +kernel
theorem dX7_voidRow_36 : decode cX7_voidRow 36 = .ok (.iload_n 1, 1) := by decide +kernel
theorem dX7_voidRow_37 : decode cX7_voidRow 37 = .ok (.i2l, 1) := by decide +kernel
theorem dX7_voidRow_38 : decode cX7_voidRow 38 = .ok (.iconst 4, 1) := by decide +kernel
theorem dX7_voidRow_39 : decode cX7_voidRow 39 = .ok (.invokevirtual 192, 3) := by decide +kernel
theorem dX7_voidRow_42 : decode cX7_voidRow 42 = .ok (.aload_n 2, 1) := by decide +kernel
theorem dX7_voidRow_43 : decode cX7_voidRow 43 = .ok (.areturn, 1) := by decide +kernel
end
section
-- decode rows
theorem dX8_init_0 : decode cX8_init 0 = .ok (.aload_n 0, 1) := by decide +kernel
theorem dX8_init_1 : decode cX8_init 1 = .ok (.invokespecial 1, 3) := by decide +kernel
theorem dX8_init_4 : decode cX8_init 4 = .ok (.aload_n 0, 1) := by decide +kernel
theorem dX8_init_5 : decode cX8_init 5 = .ok (.bipush 64, 2) := by decide +kernel
theorem dX8_init_7 : decode cX8_init 7 = .ok (.newarray .int, 2) := by decide +kernel
theorem dX8_init_9 : decode cX8_init 9 = .ok (.putfield 7, 3) := by decide +kernel
theorem dX8_init_12 : decode cX8_init 12 = .ok (.aload_n 0, 1) := by decide +kernel
theorem dX8_init_13 : decode cX8_init 13 = .ok (.bipush 8, 2) := by decide +kernel
theorem dX8_init_15 : decode cX8_init 15 = .ok (.newarray .int, 2) := by decide +kernel
theorem dX8_init_17 : decode cX8_init 17 = .ok (.putfield 13, 3) := by decide +kernel
theorem dX8_init_20 : decode cX8_init 20 = .ok (.aload_n 0, 1) := by decide +kernel
theorem dX8_init_21 : decode cX8_init 21 = .ok (.sipush 1100, 3) := by decide +kernel
theorem dX8_init_24 : decode cX8_init 24 = .ok (.newarray .int, 2) := by decide +kernel
theorem dX8_init_26 : decode cX8_init 26 = .ok (.putfield 16, 3) := by decide +kernel
theorem dX8_init_29 : decode cX8_init 29 = .ok (.aload_n 0, 1) := by decide +kernel
theorem dX8_init_30 : decode cX8_init 30 = .ok (.sipush 1100, 3) := by decide +kernel
theorem dX8_init_33 : decode cX8_init 33 = .ok (.newarray .int, 2) := by decide +kernel
theorem dX8_init_35 : decode cX8_init 35 = .ok (.putfield 19, 3) := by decide +kernel
theorem dX8_init_38 : decode cX8_init 38 = .ok (.aload_n 0, 1) := by decide +kernel
theorem dX8_init_39 : decode cX8_init 39 = .ok (.sipush 1100, 3) := by decide +kernel
theorem dX8_init_42 : decode cX8_init 42 = .ok (.newarray .int, 2) := by decide +kernel
theorem dX8_init_44 : decode cX8_init 44 = .ok (.putfield 22, 3) := by decide +kernel
theorem dX8_init_47 : decode cX8_init 47 = .ok (.aload_n 0, 1) := by decide +kernel
theorem dX8_init_48 : decode cX8_init 48 = .ok (.sipush 1800, 3) := by decide +kernel
theorem dX8_init_51 : decode cX8_init 51 = .ok (.newarray .long, 2) := by decide +kernel
theorem dX8_init_53 : decode cX8_init 53 = .ok (.putfield 25, 3) := by decide +kernel
theorem dX8_init_56 : decode cX8_init 56 = .ok (.aload_n 0, 1) := by decide +kernel
theorem dX8_init_57 : decode cX8_init 57 = .ok (.sipush 1600, 3) := by decide +kernel
theorem dX8_init_60 : decode cX8_init 60 = .ok (.newarray .int, 2) := by decide +kernel
theorem dX8_init_62 : decode cX8_init 62 = .ok (.putfield 29, 3) := by decide +kernel
theorem dX8_init_65 : decode cX8_init 65 = .ok (.aload_n 0, 1) := by decide +kernel
theorem dX8_init_66 : decode cX8_init 66 = .ok (.sipush 400, 3) := by decide +kernel
theorem dX8_init_69 : decode cX8_init 69 = .ok (.newarray .int, 2) := by decide +kernel
theorem dX8_init_71 : decode cX8_init 71 = .ok (.putfield 32, 3) := by decide +kernel
theorem dX8_init_74 : decode cX8_init 74 = .ok (.aload_n 0, 1) := by decide +kernel
theorem dX8_init_75 : decode cX8_init 75 = .ok (.sipush 14600, 3) := by decide +kernel
theorem dX8_init_78 : decode cX8_init 78 = .ok (.newarray .byte, 2) := by decide +kernel
theorem dX8_init_80 : decode cX8_init 80 = .ok (.putfield 35, 3) := by decide +kernel
theorem dX8_init_83 : decode cX8_init 83 = .ok (.aload_n 0, 1) := by decide +kernel
theorem dX8_init_84 : decode cX8_init 84 = .ok (.sipush 200, 3) := by decide +kernel
theorem dX8_init_87 : decode cX8_init 87 = .ok (.newarray .int, 2) := by decide +kernel
theorem dX8_init_89 : decode cX8_init 89 = .ok (.putfield 39, 3) := by decide +kernel
theorem dX8_init_92 : decode cX8_init 92 = .ok (.aload_n 0, 1) := by decide +kernel
theorem dX8_init_93 : decode cX8_init 93 = .ok (.sipush 192, 3) := by decide +kernel
theorem dX8_init_96 : decode cX8_init 96 = .ok (.newarray .byte, 2) := by decide +kernel
theorem dX8_init_98 : decode cX8_init 98 = .ok (.putfield 42, 3) := by decide +kernel
theorem dX8_init_101 : decode cX8_init 101 = .ok (.aload_n 0, 1) := by decide +kernel
theorem dX8_init_102 : decode cX8_init 102 = .ok (.bipush 32, 2) := by decide +kernel
theorem dX8_init_104 : decode cX8_init 104 = .ok (.newarray .byte, 2) := by decide +kernel
theorem dX8_init_106 : decode cX8_init 106 = .ok (.putfield 45, 3) := by decide +kernel
theorem dX8_init_109 : decode cX8_init 109 = .ok (.aload_n 0, 1) := by decide +kernel
theorem dX8_init_110 : decode cX8_init 110 = .ok (.bipush 8, 2) := by decide +kernel
theorem dX8_init_112 : decode cX8_init 112 = .ok (.newarray .int, 2) := by decide +kernel
theorem dX8_init_114 : decode cX8_init 114 = .ok (.putfield 48, 3) := by decide +kernel
theorem dX8_init_117 : decode cX8_init 117 = .ok (.aload_n 0, 1) := by decide +kernel
theorem dX8_init_118 : decode cX8_init 118 = .ok (.bipush 8, 2) := by decide +kernel
theorem dX8_init_120 : decode cX8_init 120 = .ok (.newarray .int, 2) := by decide +kernel
theorem dX8_init_122 : decode cX8_init 122 = .ok (.putfield 51, 3) := by decide +kernel
theorem dX8_init_125 : decode cX8_init 125 = .ok (.aload_n 0, 1) := by decide +kernel
theorem dX8_init_126 : decode cX8_init 126 = .ok (.bipush 64, 2) := by decide +kernel
theorem dX8_init_128 : decode cX8_init 128 = .ok (.newarray .int, 2) := by decide +kernel
theorem dX8_init_130 : decode cX8_init 130 = .ok (.putfield 54, 3) := by decide +kernel
theorem dX8_init_133 : decode cX8_init 133 = .ok (.aload_n 0, 1) := by decide +kernel
theorem dX8_init_134 : decode cX8_init 134 = .ok (.sipush 6400, 3) := by decide +kernel
theorem dX8_init_137 : decode cX8_init 137 = .ok (.newarray .byte, 2) := by decide +kernel
theorem dX8_init_139 : decode cX8_init 139 = .ok (.putfield 57, 3) := by decide +kernel
theorem dX8_init_142 : decode cX8_init 142 = .ok (.aload_n 0, 1) := by decide +kernel
theorem dX8_init_143 : decode cX8_init 143 = .ok (.bipush 120, 2) := by decide +kernel
theorem dX8_init_145 : decode cX8_init 145 = .ok (.newarray .byte, 2) := by decide +kernel
theorem dX8_init_147 : decode cX8_init 147 = .ok (.putfield 60, 3) := by decide +kernel
theorem dX8_init_150 : decode cX8_init 150 = .ok (.iconst 0, 1) := by decide +kernel
theorem dX8_init_151 : decode cX8_init 151 = .ok (.istore_n 1, 1) := by decide +kernel
theorem dX8_init_152 : decode cX8_init 152 = .ok (.iconst 2, 1) := by decide +kernel
theorem dX8_init_153 : decode cX8_init 153 = .ok (.istore_n 2, 1) := by decide +kernel
theorem dX8_init_154 : decode cX8_init 154 = .ok (.iload_n 1, 1) := by decide +kernel
theorem dX8_init_155 : decode cX8_init 155 = .ok (.bipush 64, 2) := by decide +kernel
theorem dX8_init_157 : decode cX8_init 157 = .ok (.if_icmp .ge 78, 3) := by decide +kernel
theorem dX8_init_160 : decode cX8_init 160 = .ok (.iconst 1, 1) := by decide +kernel
theorem dX8_init_161 : decode cX8_init 161 = .ok (.istore_n 3, 1) := by decide +kernel
theorem dX8_init_162 : decode cX8_init 162 = .ok (.iconst 2, 1) := by decide +kernel
theorem dX8_init_163 : decode cX8_init 163 = .ok (.istore 4, 2) := by decide +kernel
theorem dX8_init_165 : decode cX8_init 165 = .ok (.iload 4, 2) := by decide +kernel
theorem dX8_init_167 : decode cX8_init 167 = .ok (.iload_n 2, 1) := by decide +kernel
theorem dX8_init_168 : decode cX8_init 168 = .ok (.if_icmp .ge 26, 3) := by decide +kernel
theorem dX8_init_171 : decode cX8_init 171 = .ok (.iload_n 3, 1) := by decide +kernel
theorem dX8_init_172 : decode cX8_init 172 = .ok (.ifCond .eq 14, 3) := by decide +kernel
theorem dX8_init_175 : decode cX8_init 175 = .ok (.iload_n 2, 1) := by decide +kernel
theorem dX8_init_176 : decode cX8_init 176 = .ok (.iload 4, 2) := by decide +kernel
theorem dX8_init_178 : decode cX8_init 178 = .ok (.irem, 1) := by decide +kernel
theorem dX8_init_179 : decode cX8_init 179 = .ok (.ifCond .eq 7, 3) := by decide +kernel
theorem dX8_init_182 : decode cX8_init 182 = .ok (.iconst 1, 1) := by decide +kernel
theorem dX8_init_183 : decode cX8_init 183 = .ok (.goto 4, 3) := by decide +kernel
theorem dX8_init_186 : decode cX8_init 186 = .ok (.iconst 0, 1) := by decide +kernel
theorem dX8_init_187 : decode cX8_init 187 = .ok (.istore_n 3, 1) := by decide +kernel
theorem dX8_init_188 : decode cX8_init 188 = .ok (.iinc 4 1, 3) := by decide +kernel
theorem dX8_init_191 : decode cX8_init 191 = .ok (.goto (-26), 3) := by decide +kernel
theorem dX8_init_194 : decode cX8_init 194 = .ok (.iload_n 3, 1) := by decide +kernel
theorem dX8_init_195 : decode cX8_init 195 = .ok (.ifCond .eq 34, 3) := by decide +kernel
theorem dX8_init_198 : decode cX8_init 198 = .ok (.aload_n 0, 1) := by decide +kernel
theorem dX8_init_199 : decode cX8_init 199 = .ok (.getfield 7, 3) := by decide +kernel
theorem dX8_init_202 : decode cX8_init 202 = .ok (.iload_n 1, 1) := by decide +kernel
theorem dX8_init_203 : decode cX8_init 203 = .ok (.iload_n 2, 1) := by decide +kernel
theorem dX8_init_204 : decode cX8_init 204 = .ok (.iconst 1, 1) := by decide +kernel
theorem dX8_init_205 : decode cX8_init 205 = .ok (.invokestatic 63, 3) := by decide +kernel
theorem dX8_init_208 : decode cX8_init 208 = .ok (.iastore, 1) := by decide +kernel
theorem dX8_init_209 : decode cX8_init 209 = .ok (.iload_n 1, 1) := by decide +kernel
theorem dX8_init_210 : decode cX8_init 210 = .ok (.bipush 8, 2) := by decide +kernel
theorem dX8_init_212 : decode cX8_init 212 = .ok (.if_icmp .ge 14, 3) := by decide +kernel
theorem dX8_init_215 : decode cX8_init 215 = .ok (.aload_n 0, 1) := by decide +kernel
theorem dX8_init_216 : decode cX8_init 216 = .ok (.getfield 13, 3) := by decide +kernel
theorem dX8_init_219 : decode cX8_init 219 = .ok (.iload_n 1, 1) := by decide +kernel
theorem dX8_init_220 : decode cX8_init 220 = .ok (.iload_n 2, 1) := by decide +kernel
theorem dX8_init_221 : decode cX8_init 221 = .ok (.iconst 0, 1) := by decide +kernel
theorem dX8_init_222 : decode cX8_init 222 = .ok (.invokestatic 63, 3) := by decide +kernel
theorem dX8_init_225 : decode cX8_init 225 = .ok (.iastore, 1) := by decide +kernel
theorem dX8_init_226 : decode cX8_init 226 = .ok (.iinc 1 1, 3) := by decide +kernel
theorem dX8_init_229 : decode cX8_init 229 = .ok (.iinc 2 1, 3) := by decide +kernel
theorem dX8_init_232 : decode cX8_init 232 = .ok (.goto (-78), 3) := by decide +kernel
theorem dX8_init_235 : decode cX8_init 235 = .ok (.return_, 1) := by decide +kernel
theorem dX8_thrown_0 : decode cX8_thrown 0 = .ok (.aload_n 0, 1) := by decide +kernel
theorem dX8_thrown_1 : decode cX8_thrown 1 = .ok (.getfield 67, 3) := by decide +kernel
theorem dX8_thrown_4 : decode cX8_thrown 4 = .ok (.ireturn, 1) := by decide +kernel
theorem dX8_isAtMost_0 : decode cX8_isAtMost 0 = .ok (.lload_n 0, 1) := by decide +kernel
theorem dX8_isAtMost_1 : decode cX8_isAtMost 1 = .ok (.bipush 18, 2) := by decide +kernel
theorem dX8_isAtMost_3 : decode cX8_isAtMost 3 = .ok (.lshr, 1) := by decide +kernel
theorem dX8_isAtMost_4 : decode cX8_isAtMost 4 = .ok (.lstore 4, 2) := by decide +kernel
theorem dX8_isAtMost_6 : decode cX8_isAtMost 6 = .ok (.lload_n 0, 1) := by decide +kernel
theorem dX8_isAtMost_7 : decode cX8_isAtMost 7 = .ok (.ldc2_w 71, 3) := by decide +kernel
theorem dX8_isAtMost_10 : decode cX8_isAtMost 10 = .ok (.land, 1) := by decide +kernel
theorem dX8_isAtMost_11 : decode cX8_isAtMost 11 = .ok (.lstore 6, 2) := by decide +kernel
theorem dX8_isAtMost_13 : decode cX8_isAtMost 13 = .ok (.lload 6, 2) := by decide +kernel
theorem dX8_isAtMost_15 : decode cX8_isAtMost 15 = .ok (.lload 6, 2) := by decide +kernel
theorem dX8_isAtMost_17 : decode cX8_isAtMost 17 = .ok (.lmul, 1) := by decide +kernel
theorem dX8_isAtMost_18 : decode cX8_isAtMost 18 = .ok (.lstore 8, 2) := by decide +kernel
theorem dX8_isAtMost_20 : decode cX8_isAtMost 20 = .ok (.ldc2_w 73, 3) := by decide +kernel
theorem dX8_isAtMost_23 : decode cX8_isAtMost 23 = .ok (.lload 4, 2) := by decide +kernel
theorem dX8_isAtMost_25 : decode cX8_isAtMost 25 = .ok (.lmul, 1) := by decide +kernel
theorem dX8_isAtMost_26 : decode cX8_isAtMost 26 = .ok (.lload 6, 2) := by decide +kernel
theorem dX8_isAtMost_28 : decode cX8_isAtMost 28 = .ok (.lmul, 1) := by decide +kernel
theorem dX8_isAtMost_29 : decode cX8_isAtMost 29 = .ok (.lload 8, 2) := by decide +kernel
theorem dX8_isAtMost_31 : decode cX8_isAtMost 31 = .ok (.bipush 18, 2) := by decide +kernel
theorem dX8_isAtMost_33 : decode cX8_isAtMost 33 = .ok (.lshr, 1) := by decide +kernel
theorem dX8_isAtMost_34 : decode cX8_isAtMost 34 = .ok (.ladd, 1) := by decide +kernel
theorem dX8_isAtMost_35 : decode cX8_isAtMost 35 = .ok (.lstore 10, 2) := by decide +kernel
theorem dX8_isAtMost_37 : decode cX8_isAtMost 37 = .ok (.lload 8, 2) := by decide +kernel
theorem dX8_isAtMost_39 : decode cX8_isAtMost 39 = .ok (.ldc2_w 71, 3) := by decide +kernel
theorem dX8_isAtMost_42 : decode cX8_isAtMost 42 = .ok (.land, 1) := by decide +kernel
theorem dX8_isAtMost_43 : decode cX8_isAtMost 43 = .ok (.lstore 8, 2) := by decide +kernel
theorem dX8_isAtMost_45 : decode cX8_isAtMost 45 = .ok (.lload 4, 2) := by decide +kernel
theorem dX8_isAtMost_47 : decode cX8_isAtMost 47 = .ok (.lload 4, 2) := by decide +kernel
theorem dX8_isAtMost_49 : decode cX8_isAtMost 49 = .ok (.lmul, 1) := by decide +kernel
theorem dX8_isAtMost_50 : decode cX8_isAtMost 50 = .ok (.lload 10, 2) := by decide +kernel
theorem dX8_isAtMost_52 : decode cX8_isAtMost 52 = .ok (.bipush 18, 2) := by decide +kernel
theorem dX8_isAtMost_54 : decode cX8_isAtMost 54 = .ok (.lshr, 1) := by decide +kernel
theorem dX8_isAtMost_55 : decode cX8_isAtMost 55 = .ok (.ladd, 1) := by decide +kernel
theorem dX8_isAtMost_56 : decode cX8_isAtMost 56 = .ok (.lstore 12, 2) := by decide +kernel
theorem dX8_isAtMost_58 : decode cX8_isAtMost 58 = .ok (.lload 10, 2) := by decide +kernel
theorem dX8_isAtMost_60 : decode cX8_isAtMost 60 = .ok (.ldc2_w 71, 3) := by decide +kernel
theorem dX8_isAtMost_63 : decode cX8_isAtMost 63 = .ok (.land, 1) := by decide +kernel
theorem dX8_isAtMost_64 : decode cX8_isAtMost 64 = .ok (.lstore 10, 2) := by decide +kernel
theorem dX8_isAtMost_66 : decode cX8_isAtMost 66 = .ok (.iload_n 3, 1) := by decide +kernel
theorem dX8_isAtMost_67 : decode cX8_isAtMost 67 = .ok (.ifCond .ne 41, 3) := by decide +kernel
theorem dX8_isAtMost_70 : decode cX8_isAtMost 70 = .ok (.lload 12, 2) := by decide +kernel
theorem dX8_isAtMost_72 : decode cX8_isAtMost 72 = .ok (.iload_n 2, 1) := by decide +kernel
theorem dX8_isAtMost_73 : decode cX8_isAtMost 73 = .ok (.i2l, 1) := by decide +kernel
theorem dX8_isAtMost_74 : decode cX8_isAtMost 74 = .ok (.bipush 28, 2) := by decide +kernel
theorem dX8_isAtMost_76 : decode cX8_isAtMost 76 = .ok (.lshl, 1) := by decide +kernel
theorem dX8_isAtMost_77 : decode cX8_isAtMost 77 = .ok (.lcmp, 1) := by decide +kernel
theorem dX8_isAtMost_78 : decode cX8_isAtMost 78 = .ok (.ifCond .lt 24, 3) := by decide +kernel
theorem dX8_isAtMost_81 : decode cX8_isAtMost 81 = .ok (.lload 12, 2) := by decide +kernel
theorem dX8_isAtMost_83 : decode cX8_isAtMost 83 = .ok (.iload_n 2, 1) := by decide +kernel
theorem dX8_isAtMost_84 : decode cX8_isAtMost 84 = .ok (.i2l, 1) := by decide +kernel
theorem dX8_isAtMost_85 : decode cX8_isAtMost 85 = .ok (.bipush 28, 2) := by decide +kernel
theorem dX8_isAtMost_87 : decode cX8_isAtMost 87 = .ok (.lshl, 1) := by decide +kernel
theorem dX8_isAtMost_88 : decode cX8_isAtMost 88 = .ok (.lcmp, 1) := by decide +kernel
theorem dX8_isAtMost_89 : decode cX8_isAtMost 89 = .ok (.ifCond .ne 17, 3) := by decide +kernel
theorem dX8_isAtMost_92 : decode cX8_isAtMost 92 = .ok (.lload 10, 2) := by decide +kernel
theorem dX8_isAtMost_94 : decode cX8_isAtMost 94 = .ok (.lload 8, 2) := by decide +kernel
theorem dX8_isAtMost_96 : decode cX8_isAtMost 96 = .ok (.ladd, 1) := by decide +kernel
theorem dX8_isAtMost_97 : decode cX8_isAtMost 97 = .ok (.lconst 0, 1) := by decide +kernel
theorem dX8_isAtMost_98 : decode cX8_isAtMost 98 = .ok (.lcmp, 1) := by decide +kernel
theorem dX8_isAtMost_99 : decode cX8_isAtMost 99 = .ok (.ifCond .ne 7, 3) := by decide +kernel
theorem dX8_isAtMost_102 : decode cX8_isAtMost 102 = .ok (.iconst 1, 1) := by decide +kernel
theorem dX8_isAtMost_103 : decode cX8_isAtMost 103 = .ok (.goto 4, 3) := by decide +kernel
theorem dX8_isAtMost_106 : decode cX8_isAtMost 106 = .ok (.iconst 0, 1) := by decide +kernel
theorem dX8_isAtMost_107 : decode cX8_isAtMost 107 = .ok (.ireturn, 1) := by decide +kernel
theorem dX8_isAtMost_108 : decode cX8_isAtMost 108 = .ok (.lload 8, 2) := by decide +kernel
theorem dX8_isAtMost_110 : decode cX8_isAtMost 110 = .ok (.lload 6, 2) := by decide +kernel
theorem dX8_isAtMost_112 : decode cX8_isAtMost 112 = .ok (.lmul, 1) := by decide +kernel
theorem dX8_isAtMost_113 : decode cX8_isAtMost 113 = .ok (.lstore 14, 2) := by decide +kernel
theorem dX8_isAtMost_115 : decode cX8_isAtMost 115 = .ok (.lload 8, 2) := by decide +kernel
theorem dX8_isAtMost_117 : decode cX8_isAtMost 117 = .ok (.lload 4, 2) := by decide +kernel
theorem dX8_isAtMost_119 : decode cX8_isAtMost 119 = .ok (.lmul, 1) := by decide +kernel
theorem dX8_isAtMost_120 : decode cX8_isAtMost 120 = .ok (.lload 10, 2) := by decide +kernel
theorem dX8_isAtMost_122 : decode cX8_isAtMost 122 = .ok (.lload 6, 2) := by decide +kernel
theorem dX8_isAtMost_124 : decode cX8_isAtMost 124 = .ok (.lmul, 1) := by decide +kernel
theorem dX8_isAtMost_125 : decode cX8_isAtMost 125 = .ok (.ladd, 1) := by decide +kernel
theorem dX8_isAtMost_126 : decode cX8_isAtMost 126 = .ok (.lload 14, 2) := by decide +kernel
theorem dX8_isAtMost_128 : decode cX8_isAtMost 128 = .ok (.bipush 18, 2) := by decide +kernel
theorem dX8_isAtMost_130 : decode cX8_isAtMost 130 = .ok (.lshr, 1) := by decide +kernel
theorem dX8_isAtMost_131 : decode cX8_isAtMost 131 = .ok (.ladd, 1) := by decide +kernel
theorem dX8_isAtMost_132 : decode cX8_isAtMost 132 = .ok (.lstore 16, 2) := by decide +kernel
theorem dX8_isAtMost_134 : decode cX8_isAtMost 134 = .ok (.lload 10, 2) := by decide +kernel
theorem dX8_isAtMost_136 : decode cX8_isAtMost 136 = .ok (.lload 4, 2) := by decide +kernel
theorem dX8_isAtMost_138 : decode cX8_isAtMost 138 = .ok (.lmul, 1) := by decide +kernel
theorem dX8_isAtMost_139 : decode cX8_isAtMost 139 = .ok (.lload 12, 2) := by decide +kernel
theorem dX8_isAtMost_141 : decode cX8_isAtMost 141 = .ok (.lload 6, 2) := by decide +kernel
theorem dX8_isAtMost_143 : decode cX8_isAtMost 143 = .ok (.lmul, 1) := by decide +kernel
theorem dX8_isAtMost_144 : decode cX8_isAtMost 144 = .ok (.ladd, 1) := by decide +kernel
theorem dX8_isAtMost_145 : decode cX8_isAtMost 145 = .ok (.lload 16, 2) := by decide +kernel
theorem dX8_isAtMost_147 : decode cX8_isAtMost 147 = .ok (.bipush 18, 2) := by decide +kernel
theorem dX8_isAtMost_149 : decode cX8_isAtMost 149 = .ok (.lshr, 1) := by decide +kernel
theorem dX8_isAtMost_150 : decode cX8_isAtMost 150 = .ok (.ladd, 1) := by decide +kernel
theorem dX8_isAtMost_151 : decode cX8_isAtMost 151 = .ok (.lstore 18, 2) := by decide +kernel
theorem dX8_isAtMost_153 : decode cX8_isAtMost 153 = .ok (.lload 12, 2) := by decide +kernel
theorem dX8_isAtMost_155 : decode cX8_isAtMost 155 = .ok (.lload 4, 2) := by decide +kernel
theorem dX8_isAtMost_157 : decode cX8_isAtMost 157 = .ok (.lmul, 1) := by decide +kernel
theorem dX8_isAtMost_158 : decode cX8_isAtMost 158 = .ok (.lload 18, 2) := by decide +kernel
theorem dX8_isAtMost_160 : decode cX8_isAtMost 160 = .ok (.bipush 18, 2) := by decide +kernel
theorem dX8_isAtMost_162 : decode cX8_isAtMost 162 = .ok (.lshr, 1) := by decide +kernel
theorem dX8_isAtMost_163 : decode cX8_isAtMost 163 = .ok (.ladd, 1) := by decide +kernel
theorem dX8_isAtMost_164 : decode cX8_isAtMost 164 = .ok (.lstore 20, 2) := by decide +kernel
theorem dX8_isAtMost_166 : decode cX8_isAtMost 166 = .ok (.lload 14, 2) := by decide +kernel
theorem dX8_isAtMost_168 : decode cX8_isAtMost 168 = .ok (.ldc2_w 71, 3) := by decide +kernel
theorem dX8_isAtMost_171 : decode cX8_isAtMost 171 = .ok (.land, 1) := by decide +kernel
theorem dX8_isAtMost_172 : decode cX8_isAtMost 172 = .ok (.lload 16, 2) := by decide +kernel
theorem dX8_isAtMost_174 : decode cX8_isAtMost 174 = .ok (.ldc2_w 71, 3) := by decide +kernel
theorem dX8_isAtMost_177 : decode cX8_isAtMost 177 = .ok (.land, 1) := by decide +kernel
theorem dX8_isAtMost_178 : decode cX8_isAtMost 178 = .ok (.ladd, 1) := by decide +kernel
theorem dX8_isAtMost_179 : decode cX8_isAtMost 179 = .ok (.lload 18, 2) := by decide +kernel
theorem dX8_isAtMost_181 : decode cX8_isAtMost 181 = .ok (.ldc2_w 71, 3) := by decide +kernel
theorem dX8_isAtMost_184 : decode cX8_isAtMost 184 = .ok (.land, 1) := by decide +kernel
theorem dX8_isAtMost_185 : decode cX8_isAtMost 185 = .ok (.ladd, 1) := by decide +kernel
theorem dX8_isAtMost_186 : decode cX8_isAtMost 186 = .ok (.lstore 22, 2) := by decide +kernel
theorem dX8_isAtMost_188 : decode cX8_isAtMost 188 = .ok (.lload 20, 2) := by decide +kernel
theorem dX8_isAtMost_190 : decode cX8_isAtMost 190 = .ok (.iload_n 2, 1) := by decide +kernel
theorem dX8_isAtMost_191 : decode cX8_isAtMost 191 = .ok (.i2l, 1) := by decide +kernel
theorem dX8_isAtMost_192 : decode cX8_isAtMost 192 = .ok (.bipush 42, 2) := by decide +kernel
theorem dX8_isAtMost_194 : decode cX8_isAtMost 194 = .ok (.lshl, 1) := by decide +kernel
theorem dX8_isAtMost_195 : decode cX8_isAtMost 195 = .ok (.lcmp, 1) := by decide +kernel
theorem dX8_isAtMost_196 : decode cX8_isAtMost 196 = .ok (.ifCond .lt 21, 3) := by decide +kernel
theorem dX8_isAtMost_199 : decode cX8_isAtMost 199 = .ok (.lload 20, 2) := by decide +kernel
theorem dX8_isAtMost_201 : decode cX8_isAtMost 201 = .ok (.iload_n 2, 1) := by decide +kernel
theorem dX8_isAtMost_202 : decode cX8_isAtMost 202 = .ok (.i2l, 1) := by decide +kernel
theorem dX8_isAtMost_203 : decode cX8_isAtMost 203 = .ok (.bipush 42, 2) := by decide +kernel
theorem dX8_isAtMost_205 : decode cX8_isAtMost 205 = .ok (.lshl, 1) := by decide +kernel
theorem dX8_isAtMost_206 : decode cX8_isAtMost 206 = .ok (.lcmp, 1) := by decide +kernel
theorem dX8_isAtMost_207 : decode cX8_isAtMost 207 = .ok (.ifCond .ne 14, 3) := by decide +kernel
theorem dX8_isAtMost_210 : decode cX8_isAtMost 210 = .ok (.lload 22, 2) := by decide +kernel
theorem dX8_isAtMost_212 : decode cX8_isAtMost 212 = .ok (.lconst 0, 1) := by decide +kernel
theorem dX8_isAtMost_213 : decode cX8_isAtMost 213 = .ok (.lcmp, 1) := by decide +kernel
theorem dX8_isAtMost_214 : decode cX8_isAtMost 214 = .ok (.ifCond .ne 7, 3) := by decide +kernel
theorem dX8_isAtMost_217 : decode cX8_isAtMost 217 = .ok (.iconst 1, 1) := by decide +kernel
theorem dX8_isAtMost_218 : decode cX8_isAtMost 218 = .ok (.goto 4, 3) := by decide +kernel
theorem dX8_isAtMost_221 : decode cX8_isAtMost 221 = .ok (.iconst 0, 1) := by decide +kernel
theorem dX8_isAtMost_222 : decode cX8_isAtMost 222 = .ok (.ireturn, 1) := by decide +kernel
theorem dX8_rootOf_0 : decode cX8_rootOf 0 = .ok (.lconst 0, 1) := by decide +kernel
theorem dX8_rootOf_1 : decode cX8_rootOf 1 = .ok (.lstore_n 2, 1) := by decide +kernel
theorem dX8_rootOf_2 : decode cX8_rootOf 2 = .ok (.ldc2_w 75, 3) := by decide +kernel
theorem dX8_rootOf_5 : decode cX8_rootOf 5 = .ok (.lstore 4, 2) := by decide +kernel
theorem dX8_rootOf_7 : decode cX8_rootOf 7 = .ok (.lload 4, 2) := by decide +kernel
theorem dX8_rootOf_9 : decode cX8_rootOf 9 = .ok (.lload_n 2, 1) := by decide +kernel
theorem dX8_rootOf_10 : decode cX8_rootOf 10 = .ok (.lsub, 1) := by decide +kernel
theorem dX8_rootOf_11 : decode cX8_rootOf 11 = .ok (.lconst 1, 1) := by decide +kernel
theorem dX8_rootOf_12 : decode cX8_rootOf 12 = .ok (.lcmp, 1) := by decide +kernel
theorem dX8_rootOf_13 : decode cX8_rootOf 13 = .ok (.ifCond .le 36, 3) := by decide +kernel
theorem dX8_rootOf_16 : decode cX8_rootOf 16 = .ok (.lload_n 2, 1) := by decide +kernel
theorem dX8_rootOf_17 : decode cX8_rootOf 17 = .ok (.lload 4, 2) := by decide +kernel
theorem dX8_rootOf_19 : decode cX8_rootOf 19 = .ok (.ladd, 1) := by decide +kernel
theorem dX8_rootOf_20 : decode cX8_rootOf 20 = .ok (.ldc2_w 73, 3) := by decide +kernel
theorem dX8_rootOf_23 : decode cX8_rootOf 23 = .ok (.ldiv, 1) := by decide +kernel
theorem dX8_rootOf_24 : decode cX8_rootOf 24 = .ok (.lstore 6, 2) := by decide +kernel
theorem dX8_rootOf_26 : decode cX8_rootOf 26 = .ok (.lload 6, 2) := by decide +kernel
theorem dX8_rootOf_28 : decode cX8_rootOf 28 = .ok (.iload_n 0, 1) := by decide +kernel
theorem dX8_rootOf_29 : decode cX8_rootOf 29 = .ok (.iload_n 1, 1) := by decide +kernel
theorem dX8_rootOf_30 : decode cX8_rootOf 30 = .ok (.invokestatic 77, 3) := by decide +kernel
theorem dX8_rootOf_33 : decode cX8_rootOf 33 = .ok (.ifCond .eq 9, 3) := by decide +kernel
theorem dX8_rootOf_36 : decode cX8_rootOf 36 = .ok (.lload 6, 2) := by decide +kernel
theorem dX8_rootOf_38 : decode cX8_rootOf 38 = .ok (.lstore_n 2, 1) := by decide +kernel
theorem dX8_rootOf_39 : decode cX8_rootOf 39 = .ok (.goto 7, 3) := by decide +kernel
theorem dX8_rootOf_42 : decode cX8_rootOf 42 = .ok (.lload 6, 2) := by decide +kernel
theorem dX8_rootOf_44 : decode cX8_rootOf 44 = .ok (.lstore 4, 2) := by decide +kernel
theorem dX8_rootOf_46 : decode cX8_rootOf 46 = .ok (.goto (-39), 3) := by decide +kernel
theorem dX8_rootOf_49 : decode cX8_rootOf 49 = .ok (.lload_n 2, 1) := by decide +kernel
theorem dX8_rootOf_50 : decode cX8_rootOf 50 = .ok (.l2i, 1) := by decide +kernel
theorem dX8_rootOf_51 : decode cX8_rootOf 51 = .ok (.ireturn, 1) := by decide +kernel
theorem dX8_rot_0 : decode cX8_rot 0 = .ok (.iload_n 0, 1) := by decide +kernel
theorem dX8_rot_1 : decode cX8_rot 1 = .ok (.iload_n 1, 1) := by decide +kernel
theorem dX8_rot_2 : decode cX8_rot 2 = .ok (.iushr, 1) := by decide +kernel
theorem dX8_rot_3 : decode cX8_rot 3 = .ok (.iload_n 0, 1) := by decide +kernel
theorem dX8_rot_4 : decode cX8_rot 4 = .ok (.bipush 32, 2) := by decide +kernel
theorem dX8_rot_6 : decode cX8_rot 6 = .ok (.iload_n 1, 1) := by decide +kernel
theorem dX8_rot_7 : decode cX8_rot 7 = .ok (.isub, 1) := by decide +kernel
theorem dX8_rot_8 : decode cX8_rot 8 = .ok (.ishl, 1) := by decide +kernel
theorem dX8_rot_9 : decode cX8_rot 9 = .ok (.ior, 1) := by decide +kernel
theorem dX8_rot_10 : decode cX8_rot 10 = .ok (.ireturn, 1) := by decide +kernel
theorem dX8_lay_0 : decode cX8_lay 0 = .ok (.aload_n 0, 1) := by decide +kernel
theorem dX8_lay_1 : decode cX8_lay 1 = .ok (.getfield 42, 3) := by decide +kernel
theorem dX8_lay_4 : decode cX8_lay 4 = .ok (.aload_n 0, 1) := by decide +kernel
theorem dX8_lay_5 : decode cX8_lay 5 = .ok (.getfield 81, 3) := by decide +kernel
theorem dX8_lay_8 : decode cX8_lay 8 = .ok (.iload_n 1, 1) := by decide +kernel
theorem dX8_lay_9 : decode cX8_lay 9 = .ok (.i2b, 1) := by decide +kernel
theorem dX8_lay_10 : decode cX8_lay 10 = .ok (.bastore, 1) := by decide +kernel
theorem dX8_lay_11 : decode cX8_lay 11 = .ok (.aload_n 0, 1) := by decide +kernel
theorem dX8_lay_12 : decode cX8_lay 12 = .ok (.dup, 1) := by decide +kernel
theorem dX8_lay_13 : decode cX8_lay 13 = .ok (.getfield 81, 3) := by decide +kernel
theorem dX8_lay_16 : decode cX8_lay 16 = .ok (.iconst 1, 1) := by decide +kernel
theorem dX8_lay_17 : decode cX8_lay 17 = .ok (.iadd, 1) := by decide +kernel
theorem dX8_lay_18 : decode cX8_lay 18 = .ok (.putfield 81, 3) := by decide +kernel
theorem dX8_lay_21 : decode cX8_lay 21 = .ok (.return_, 1) := by decide +kernel
theorem dX8_reckon_0 : decode cX8_reckon 0 = .ok (.bipush 8, 2) := by decide +kernel
theorem dX8_reckon_2 : decode cX8_reckon 2 = .ok (.aload_n 0, 1) := by decide +kernel
theorem dX8_reckon_3 : decode cX8_reckon 3 = .ok (.getfield 81, 3) := by decide +kernel
theorem dX8_reckon_6 : decode cX8_reckon 6 = .ok (.imul, 1) := by decide +kernel
theorem dX8_reckon_7 : decode cX8_reckon 7 = .ok (.istore_n 1, 1) := by decide +kernel
theorem dX8_reckon_8 : decode cX8_reckon 8 = .ok (.aload_n 0, 1) := by decide +kernel
theorem dX8_reckon_9 : decode cX8_reckon 9 = .ok (.sipush 128, 3) := by decide +kernel
theorem dX8_reckon_12 : decode cX8_reckon 12 = .ok (.invokevirtual 84, 3) := by decide +kernel
theorem dX8_reckon_15 : decode cX8_reckon 15 = .ok (.aload_n 0, 1) := by decide +kernel
theorem dX8_reckon_16 : decode cX8_reckon 16 = .ok (.getfield 81, 3) := by decide +kernel
theorem dX8_reckon_19 : decode cX8_reckon 19 = .ok (.bipush 64, 2) := by decide +kernel
theorem dX8_reckon_21 : decode cX8_reckon 21 = .ok (.irem, 1) := by decide +kernel
theorem dX8_reckon_22 : decode cX8_reckon 22 = .ok (.bipush 56, 2) := by decide +kernel
theorem dX8_reckon_24 : decode cX8_reckon 24 = .ok (.if_icmp .eq 11, 3) := by decide +kernel
theorem dX8_reckon_27 : decode cX8_reckon 27 = .ok (.aload_n 0, 1) := by decide +kernel
theorem dX8_reckon_28 : decode cX8_reckon 28 = .ok (.iconst 0, 1) := by decide +kernel
theorem dX8_reckon_29 : decode cX8_reckon 29 = .ok (.invokevirtual 84, 3) := by decide +kernel
theorem dX8_reckon_32 : decode cX8_reckon 32 = .ok (.goto (-17), 3) := by decide +kernel
theorem dX8_reckon_35 : decode cX8_reckon 35 = .ok (.bipush 7, 2) := by decide +kernel
theorem dX8_reckon_37 : decode cX8_reckon 37 = .ok (.istore_n 2, 1) := by decide +kernel
theorem dX8_reckon_38 : decode cX8_reckon 38 = .ok (.iload_n 2, 1) := by decide +kernel
theorem dX8_reckon_39 : decode cX8_reckon 39 = .ok (.ifCond .lt 28, 3) := by decide +kernel
theorem dX8_reckon_42 : decode cX8_reckon 42 = .ok (.aload_n 0, 1) := by decide +kernel
theorem dX8_reckon_43 : decode cX8_reckon 43 = .ok (.iload_n 2, 1) := by decide +kernel
theorem dX8_reckon_44 : decode cX8_reckon 44 = .ok (.iconst 3, 1) := by decide +kernel
theorem dX8_reckon_45 : decode cX8_reckon 45 = .ok (.if_icmp .le 7, 3) := by decide +kernel
theorem dX8_reckon_48 : decode cX8_reckon 48 = .ok (.iconst 0, 1) := by decide +kernel
theorem dX8_reckon_49 : decode cX8_reckon 49 = .ok (.goto 9, 3) := by decide +kernel
theorem dX8_reckon_52 : decode cX8_reckon 52 = .ok (.iload_n 1, 1) := by decide +kernel
theorem dX8_reckon_53 : decode cX8_reckon 53 = .ok (.bipush 8, 2) := by decide +kernel
theorem dX8_reckon_55 : decode cX8_reckon 55 = .ok (.iload_n 2, 1) := by decide +kernel
theorem dX8_reckon_56 : decode cX8_reckon 56 = .ok (.imul, 1) := by decide +kernel
theorem dX8_reckon_57 : decode cX8_reckon 57 = .ok (.ishr, 1) := by decide +kernel
theorem dX8_reckon_58 : decode cX8_reckon 58 = .ok (.invokevirtual 84, 3) := by decide +kernel
theorem dX8_reckon_61 : decode cX8_reckon 61 = .ok (.iinc 2 (-1), 3) := by decide +kernel
theorem dX8_reckon_64 : decode cX8_reckon 64 = .ok (.goto (-26), 3) := by decide +kernel
theorem dX8_reckon_67 : decode cX8_reckon 67 = .ok (.iconst 0, 1) := by decide +kernel
theorem dX8_reckon_68 : decode cX8_reckon 68 = .ok (.istore_n 2, 1) := by decide +kernel
theorem dX8_reckon_69 : decode cX8_reckon 69 = .ok (.iload_n 2, 1) := by decide +kernel
theorem dX8_reckon_70 : decode cX8_reckon 70 = .ok (.bipush 8, 2) := by decide +kernel
theorem dX8_reckon_72 : decode cX8_reckon 72 = .ok (.if_icmp .ge 21, 3) := by decide +kernel
theorem dX8_reckon_75 : decode cX8_reckon 75 = .ok (.aload_n 0, 1) := by decide +kernel
theorem dX8_reckon_76 : decode cX8_reckon 76 = .ok (.getfield 48, 3) := by decide +kernel
theorem dX8_reckon_79 : decode cX8_reckon 79 = .ok (.iload_n 2, 1) := by decide +kernel
theorem dX8_reckon_80 : decode cX8_reckon 80 = .ok (.aload_n 0, 1) := by decide +kernel
theorem dX8_reckon_81 : decode cX8_reckon 81 = .ok (.getfield 13, 3) := by decide +kernel
theorem dX8_reckon_84 : decode cX8_reckon 84 = .ok (.iload_n 2, 1) := by decide +kernel
theorem dX8_reckon_85 : decode cX8_reckon 85 = .ok (.iaload, 1) := by decide +kernel
theorem dX8_reckon_86 : decode cX8_reckon 86 = .ok (.iastore, 1) := by decide +kernel
theorem dX8_reckon_87 : decode cX8_reckon 87 = .ok (.iinc 2 1, 3) := by decide +kernel
theorem dX8_reckon_90 : decode cX8_reckon 90 = .ok (.goto (-21), 3) := by decide +kernel
theorem dX8_reckon_93 : decode cX8_reckon 93 = .ok (.iconst 0, 1) := by decide +kernel
theorem dX8_reckon_94 : decode cX8_reckon 94 = .ok (.istore_n 2, 1) := by decide +kernel
theorem dX8_reckon_95 : decode cX8_reckon 95 = .ok (.iload_n 2, 1) := by decide +kernel
theorem dX8_reckon_96 : decode cX8_reckon 96 = .ok (.aload_n 0, 1) := by decide +kernel
theorem dX8_reckon_97 : decode cX8_reckon 97 = .ok (.getfield 81, 3) := by decide +kernel
theorem dX8_reckon_100 : decode cX8_reckon 100 = .ok (.if_icmp .ge 14, 3) := by decide +kernel
theorem dX8_reckon_103 : decode cX8_reckon 103 = .ok (.aload_n 0, 1) := by decide +kernel
theorem dX8_reckon_104 : decode cX8_reckon 104 = .ok (.iload_n 2, 1) := by decide +kernel
theorem dX8_reckon_105 : decode cX8_reckon 105 = .ok (.invokevirtual 88, 3) := by decide +kernel
theorem dX8_reckon_108 : decode cX8_reckon 108 = .ok (.iinc 2 64, 3) := by decide +kernel
theorem dX8_reckon_111 : decode cX8_reckon 111 = .ok (.goto (-16), 3) := by decide +kernel
theorem dX8_reckon_114 : decode cX8_reckon 114 = .ok (.iconst 0, 1) := by decide +kernel
theorem dX8_reckon_115 : decode cX8_reckon 115 = .ok (.istore_n 2, 1) := by decide +kernel
theorem dX8_reckon_116 : decode cX8_reckon 116 = .ok (.iload_n 2, 1) := by decide +kernel
theorem dX8_reckon_117 : decode cX8_reckon 117 = .ok (.bipush 32, 2) := by decide +kernel
theorem dX8_reckon_119 : decode cX8_reckon 119 = .ok (.if_icmp .ge 34, 3) := by decide +kernel
theorem dX8_reckon_122 : decode cX8_reckon 122 = .ok (.aload_n 0, 1) := by decide +kernel
theorem dX8_reckon_123 : decode cX8_reckon 123 = .ok (.getfield 45, 3) := by decide +kernel
theorem dX8_reckon_126 : decode cX8_reckon 126 = .ok (.iload_n 2, 1) := by decide +kernel
theorem dX8_reckon_127 : decode cX8_reckon 127 = .ok (.aload_n 0, 1) := by decide +kernel
theorem dX8_reckon_128 : decode cX8_reckon 128 = .ok (.getfield 48, 3) := by decide +kernel
theorem dX8_reckon_131 : decode cX8_reckon 131 = .ok (.iload_n 2, 1) := by decide +kernel
theorem dX8_reckon_132 : decode cX8_reckon 132 = .ok (.iconst 4, 1) := by decide +kernel
theorem dX8_reckon_133 : decode cX8_reckon 133 = .ok (.idiv, 1) := by decide +kernel
theorem dX8_reckon_134 : decode cX8_reckon 134 = .ok (.iaload, 1) := by decide +kernel
theorem dX8_reckon_135 : decode cX8_reckon 135 = .ok (.bipush 24, 2) := by decide +kernel
theorem dX8_reckon_137 : decode cX8_reckon 137 = .ok (.bipush 8, 2) := by decide +kernel
theorem dX8_reckon_139 : decode cX8_reckon 139 = .ok (.iload_n 2, 1) := by decide +kernel
theorem dX8_reckon_140 : decode cX8_reckon 140 = .ok (.iconst 4, 1) := by decide +kernel
theorem dX8_reckon_141 : decode cX8_reckon 141 = .ok (.irem, 1) := by decide +kernel
theorem dX8_reckon_142 : decode cX8_reckon 142 = .ok (.imul, 1) := by decide +kernel
theorem dX8_reckon_143 : decode cX8_reckon 143 = .ok (.isub, 1) := by decide +kernel
theorem dX8_reckon_144 : decode cX8_reckon 144 = .ok (.ishr, 1) := by decide +kernel
theorem dX8_reckon_145 : decode cX8_reckon 145 = .ok (.i2b, 1) := by decide +kernel
theorem dX8_reckon_146 : decode cX8_reckon 146 = .ok (.bastore, 1) := by decide +kernel
theorem dX8_reckon_147 : decode cX8_reckon 147 = .ok (.iinc 2 1, 3) := by decide +kernel
theorem dX8_reckon_150 : decode cX8_reckon 150 = .ok (.goto (-34), 3) := by decide +kernel
theorem dX8_reckon_153 : decode cX8_reckon 153 = .ok (.return_, 1) := by decide +kernel
theorem dX8_mix_0 : decode cX8_mix 0 = .ok (.iconst 0, 1) := by decide +kernel
theorem dX8_mix_1 : decode cX8_mix 1 = .ok (.istore_n 2, 1) := by decide +kernel
theorem dX8_mix_2 : decode cX8_mix 2 = .ok (.iload_n 2, 1) := by decide +kernel
theorem dX8_mix_3 : decode cX8_mix 3 = .ok (.bipush 64, 2) := by decide +kernel
theorem dX8_mix_5 : decode cX8_mix 5 = .ok (.if_icmp .ge 156, 3) := by decide +kernel
theorem dX8_mix_8 : decode cX8_mix 8 = .ok (.iload_n 2, 1) := by decide +kernel
theorem dX8_mix_9 : decode cX8_mix 9 = .ok (.bipush 16, 2) := by decide +kernel
theorem dX8_mix_11 : decode cX8_mix 11 = .ok (.if_icmp .ge 59, 3) := by decide +kernel
theorem dX8_mix_14 : decode cX8_mix 14 = .ok (.aload_n 0, 1) := by decide +kernel
theorem dX8_mix_15 : decode cX8_mix 15 = .ok (.getfield 54, 3) := by decide +kernel
theorem dX8_mix_18 : decode cX8_mix 18 = .ok (.iload_n 2, 1) := by decide +kernel
theorem dX8_mix_19 : decode cX8_mix 19 = .ok (.iconst 0, 1) := by decide +kernel
theorem dX8_mix_20 : decode cX8_mix 20 = .ok (.iastore, 1) := by decide +kernel
theorem dX8_mix_21 : decode cX8_mix 21 = .ok (.iconst 0, 1) := by decide +kernel
theorem dX8_mix_22 : decode cX8_mix 22 = .ok (.istore_n 3, 1) := by decide +kernel
theorem dX8_mix_23 : decode cX8_mix 23 = .ok (.iload_n 3, 1) := by decide +kernel
theorem dX8_mix_24 : decode cX8_mix 24 = .ok (.iconst 4, 1) := by decide +kernel
theorem dX8_mix_25 : decode cX8_mix 25 = .ok (.if_icmp .ge 42, 3) := by decide +kernel
theorem dX8_mix_28 : decode cX8_mix 28 = .ok (.aload_n 0, 1) := by decide +kernel
theorem dX8_mix_29 : decode cX8_mix 29 = .ok (.getfield 54, 3) := by decide +kernel
theorem dX8_mix_32 : decode cX8_mix 32 = .ok (.iload_n 2, 1) := by decide +kernel
theorem dX8_mix_33 : decode cX8_mix 33 = .ok (.aload_n 0, 1) := by decide +kernel
theorem dX8_mix_34 : decode cX8_mix 34 = .ok (.getfield 54, 3) := by decide +kernel
theorem dX8_mix_37 : decode cX8_mix 37 = .ok (.iload_n 2, 1) := by decide +kernel
theorem dX8_mix_38 : decode cX8_mix 38 = .ok (.iaload, 1) := by decide +kernel
theorem dX8_mix_39 : decode cX8_mix 39 = .ok (.sipush 256, 3) := by decide +kernel
theorem dX8_mix_42 : decode cX8_mix 42 = .ok (.imul, 1) := by decide +kernel
theorem dX8_mix_43 : decode cX8_mix 43 = .ok (.aload_n 0, 1) := by decide +kernel
theorem dX8_mix_44 : decode cX8_mix 44 = .ok (.getfield 42, 3) := by decide +kernel
theorem dX8_mix_47 : decode cX8_mix 47 = .ok (.iload_n 1, 1) := by decide +kernel
theorem dX8_mix_48 : decode cX8_mix 48 = .ok (.iconst 4, 1) := by decide +kernel
theorem dX8_mix_49 : decode cX8_mix 49 = .ok (.iload_n 2, 1) := by decide +kernel
theorem dX8_mix_50 : decode cX8_mix 50 = .ok (.imul, 1) := by decide +kernel
theorem dX8_mix_51 : decode cX8_mix 51 = .ok (.iadd, 1) := by decide +kernel
theorem dX8_mix_52 : decode cX8_mix 52 = .ok (.iload_n 3, 1) := by decide +kernel
theorem dX8_mix_53 : decode cX8_mix 53 = .ok (.iadd, 1) := by decide +kernel
theorem dX8_mix_54 : decode cX8_mix 54 = .ok (.baload, 1) := by decide +kernel
theorem dX8_mix_55 : decode cX8_mix 55 = .ok (.sipush 255, 3) := by decide +kernel
theorem dX8_mix_58 : decode cX8_mix 58 = .ok (.iand, 1) := by decide +kernel
theorem dX8_mix_59 : decode cX8_mix 59 = .ok (.iadd, 1) := by decide +kernel
theorem dX8_mix_60 : decode cX8_mix 60 = .ok (.iastore, 1) := by decide +kernel
theorem dX8_mix_61 : decode cX8_mix 61 = .ok (.iinc 3 1, 3) := by decide +kernel
theorem dX8_mix_64 : decode cX8_mix 64 = .ok (.goto (-41), 3) := by decide +kernel
theorem dX8_mix_67 : decode cX8_mix 67 = .ok (.goto 88, 3) := by decide +kernel
theorem dX8_mix_70 : decode cX8_mix 70 = .ok (.aload_n 0, 1) := by decide +kernel
theorem dX8_mix_71 : decode cX8_mix 71 = .ok (.getfield 54, 3) := by decide +kernel
theorem dX8_mix_74 : decode cX8_mix 74 = .ok (.iload_n 2, 1) := by decide +kernel
theorem dX8_mix_75 : decode cX8_mix 75 = .ok (.bipush 15, 2) := by decide +kernel
theorem dX8_mix_77 : decode cX8_mix 77 = .ok (.isub, 1) := by decide +kernel
theorem dX8_mix_78 : decode cX8_mix 78 = .ok (.iaload, 1) := by decide +kernel
theorem dX8_mix_79 : decode cX8_mix 79 = .ok (.istore_n 3, 1) := by decide +kernel
theorem dX8_mix_80 : decode cX8_mix 80 = .ok (.aload_n 0, 1) := by decide +kernel
theorem dX8_mix_81 : decode cX8_mix 81 = .ok (.getfield 54, 3) := by decide +kernel
theorem dX8_mix_84 : decode cX8_mix 84 = .ok (.iload_n 2, 1) := by decide +kernel
theorem dX8_mix_85 : decode cX8_mix 85 = .ok (.iconst 2, 1) := by decide +kernel
theorem dX8_mix_86 : decode cX8_mix 86 = .ok (.isub, 1) := by decide +kernel
theorem dX8_mix_87 : decode cX8_mix 87 = .ok (.iaload, 1) := by decide +kernel
theorem dX8_mix_88 : decode cX8_mix 88 = .ok (.istore 4, 2) := by decide +kernel
theorem dX8_mix_90 : decode cX8_mix 90 = .ok (.aload_n 0, 1) := by decide +kernel
theorem dX8_mix_91 : decode cX8_mix 91 = .ok (.getfield 54, 3) := by decide +kernel
theorem dX8_mix_94 : decode cX8_mix 94 = .ok (.iload_n 2, 1) := by decide +kernel
theorem dX8_mix_95 : decode cX8_mix 95 = .ok (.iload 4, 2) := by decide +kernel
theorem dX8_mix_97 : decode cX8_mix 97 = .ok (.bipush 17, 2) := by decide +kernel
theorem dX8_mix_99 : decode cX8_mix 99 = .ok (.invokestatic 91, 3) := by decide +kernel
theorem dX8_mix_102 : decode cX8_mix 102 = .ok (.iload 4, 2) := by decide +kernel
theorem dX8_mix_104 : decode cX8_mix 104 = .ok (.bipush 19, 2) := by decide +kernel
theorem dX8_mix_106 : decode cX8_mix 106 = .ok (.invokestatic 91, 3) := by decide +kernel
theorem dX8_mix_109 : decode cX8_mix 109 = .ok (.ixor, 1) := by decide +kernel
theorem dX8_mix_110 : decode cX8_mix 110 = .ok (.iload 4, 2) := by decide +kernel
theorem dX8_mix_112 : decode cX8_mix 112 = .ok (.bipush 10, 2) := by decide +kernel
theorem dX8_mix_114 : decode cX8_mix 114 = .ok (.iushr, 1) := by decide +kernel
theorem dX8_mix_115 : decode cX8_mix 115 = .ok (.ixor, 1) := by decide +kernel
theorem dX8_mix_116 : decode cX8_mix 116 = .ok (.aload_n 0, 1) := by decide +kernel
theorem dX8_mix_117 : decode cX8_mix 117 = .ok (.getfield 54, 3) := by decide +kernel
theorem dX8_mix_120 : decode cX8_mix 120 = .ok (.iload_n 2, 1) := by decide +kernel
theorem dX8_mix_121 : decode cX8_mix 121 = .ok (.bipush 7, 2) := by decide +kernel
theorem dX8_mix_123 : decode cX8_mix 123 = .ok (.isub, 1) := by decide +kernel
theorem dX8_mix_124 : decode cX8_mix 124 = .ok (.iaload, 1) := by decide +kernel
theorem dX8_mix_125 : decode cX8_mix 125 = .ok (.iadd, 1) := by decide +kernel
theorem dX8_mix_126 : decode cX8_mix 126 = .ok (.iload_n 3, 1) := by decide +kernel
theorem dX8_mix_127 : decode cX8_mix 127 = .ok (.bipush 7, 2) := by decide +kernel
theorem dX8_mix_129 : decode cX8_mix 129 = .ok (.invokestatic 91, 3) := by decide +kernel
theorem dX8_mix_132 : decode cX8_mix 132 = .ok (.iload_n 3, 1) := by decide +kernel
theorem dX8_mix_133 : decode cX8_mix 133 = .ok (.bipush 18, 2) := by decide +kernel
theorem dX8_mix_135 : decode cX8_mix 135 = .ok (.invokestatic 91, 3) := by decide +kernel
theorem dX8_mix_138 : decode cX8_mix 138 = .ok (.ixor, 1) := by decide +kernel
theorem dX8_mix_139 : decode cX8_mix 139 = .ok (.iload_n 3, 1) := by decide +kernel
theorem dX8_mix_140 : decode cX8_mix 140 = .ok (.iconst 3, 1) := by decide +kernel
theorem dX8_mix_141 : decode cX8_mix 141 = .ok (.iushr, 1) := by decide +kernel
theorem dX8_mix_142 : decode cX8_mix 142 = .ok (.ixor, 1) := by decide +kernel
theorem dX8_mix_143 : decode cX8_mix 143 = .ok (.iadd, 1) := by decide +kernel
theorem dX8_mix_144 : decode cX8_mix 144 = .ok (.aload_n 0, 1) := by decide +kernel
theorem dX8_mix_145 : decode cX8_mix 145 = .ok (.getfield 54, 3) := by decide +kernel
theorem dX8_mix_148 : decode cX8_mix 148 = .ok (.iload_n 2, 1) := by decide +kernel
theorem dX8_mix_149 : decode cX8_mix 149 = .ok (.bipush 16, 2) := by decide +kernel
theorem dX8_mix_151 : decode cX8_mix 151 = .ok (.isub, 1) := by decide +kernel
theorem dX8_mix_152 : decode cX8_mix 152 = .ok (.iaload, 1) := by decide +kernel
theorem dX8_mix_153 : decode cX8_mix 153 = .ok (.iadd, 1) := by decide +kernel
theorem dX8_mix_154 : decode cX8_mix 154 = .ok (.iastore, 1) := by decide +kernel
theorem dX8_mix_155 : decode cX8_mix 155 = .ok (.iinc 2 1, 3) := by decide +kernel
theorem dX8_mix_158 : decode cX8_mix 158 = .ok (.goto (-156), 3) := by decide +kernel
theorem dX8_mix_161 : decode cX8_mix 161 = .ok (.iconst 0, 1) := by decide +kernel
theorem dX8_mix_162 : decode cX8_mix 162 = .ok (.istore_n 2, 1) := by decide +kernel
theorem dX8_mix_163 : decode cX8_mix 163 = .ok (.iload_n 2, 1) := by decide +kernel
theorem dX8_mix_164 : decode cX8_mix 164 = .ok (.bipush 8, 2) := by decide +kernel
theorem dX8_mix_166 : decode cX8_mix 166 = .ok (.if_icmp .ge 21, 3) := by decide +kernel
theorem dX8_mix_169 : decode cX8_mix 169 = .ok (.aload_n 0, 1) := by decide +kernel
theorem dX8_mix_170 : decode cX8_mix 170 = .ok (.getfield 51, 3) := by decide +kernel
theorem dX8_mix_173 : decode cX8_mix 173 = .ok (.iload_n 2, 1) := by decide +kernel
theorem dX8_mix_174 : decode cX8_mix 174 = .ok (.aload_n 0, 1) := by decide +kernel
theorem dX8_mix_175 : decode cX8_mix 175 = .ok (.getfield 48, 3) := by decide +kernel
theorem dX8_mix_178 : decode cX8_mix 178 = .ok (.iload_n 2, 1) := by decide +kernel
theorem dX8_mix_179 : decode cX8_mix 179 = .ok (.iaload, 1) := by decide +kernel
theorem dX8_mix_180 : decode cX8_mix 180 = .ok (.iastore, 1) := by decide +kernel
theorem dX8_mix_181 : decode cX8_mix 181 = .ok (.iinc 2 1, 3) := by decide +kernel
theorem dX8_mix_184 : decode cX8_mix 184 = .ok (.goto (-21), 3) := by decide +kernel
theorem dX8_mix_187 : decode cX8_mix 187 = .ok (.iconst 0, 1) := by decide +kernel
theorem dX8_mix_188 : decode cX8_mix 188 = .ok (.istore_n 2, 1) := by decide +kernel
theorem dX8_mix_189 : decode cX8_mix 189 = .ok (.iload_n 2, 1) := by decide +kernel
theorem dX8_mix_190 : decode cX8_mix 190 = .ok (.bipush 64, 2) := by decide +kernel
theorem dX8_mix_192 : decode cX8_mix 192 = .ok (.if_icmp .ge 204, 3) := by decide +kernel
theorem dX8_mix_195 : decode cX8_mix 195 = .ok (.aload_n 0, 1) := by decide +kernel
theorem dX8_mix_196 : decode cX8_mix 196 = .ok (.getfield 51, 3) := by decide +kernel
theorem dX8_mix_199 : decode cX8_mix 199 = .ok (.iconst 4, 1) := by decide +kernel
theorem dX8_mix_200 : decode cX8_mix 200 = .ok (.iaload, 1) := by decide +kernel
theorem dX8_mix_201 : decode cX8_mix 201 = .ok (.istore_n 3, 1) := by decide +kernel
theorem dX8_mix_202 : decode cX8_mix 202 = .ok (.aload_n 0, 1) := by decide +kernel
theorem dX8_mix_203 : decode cX8_mix 203 = .ok (.getfield 51, 3) := by decide +kernel
theorem dX8_mix_206 : decode cX8_mix 206 = .ok (.iconst 0, 1) := by decide +kernel
theorem dX8_mix_207 : decode cX8_mix 207 = .ok (.iaload, 1) := by decide +kernel
theorem dX8_mix_208 : decode cX8_mix 208 = .ok (.istore 4, 2) := by decide +kernel
theorem dX8_mix_210 : decode cX8_mix 210 = .ok (.aload_n 0, 1) := by decide +kernel
theorem dX8_mix_211 : decode cX8_mix 211 = .ok (.getfield 51, 3) := by decide +kernel
theorem dX8_mix_214 : decode cX8_mix 214 = .ok (.bipush 7, 2) := by decide +kernel
theorem dX8_mix_216 : decode cX8_mix 216 = .ok (.iaload, 1) := by decide +kernel
theorem dX8_mix_217 : decode cX8_mix 217 = .ok (.iload_n 3, 1) := by decide +kernel
theorem dX8_mix_218 : decode cX8_mix 218 = .ok (.bipush 6, 2) := by decide +kernel
theorem dX8_mix_220 : decode cX8_mix 220 = .ok (.invokestatic 91, 3) := by decide +kernel
theorem dX8_mix_223 : decode cX8_mix 223 = .ok (.iload_n 3, 1) := by decide +kernel
theorem dX8_mix_224 : decode cX8_mix 224 = .ok (.bipush 11, 2) := by decide +kernel
theorem dX8_mix_226 : decode cX8_mix 226 = .ok (.invokestatic 91, 3) := by decide +kernel
theorem dX8_mix_229 : decode cX8_mix 229 = .ok (.ixor, 1) := by decide +kernel
theorem dX8_mix_230 : decode cX8_mix 230 = .ok (.iload_n 3, 1) := by decide +kernel
theorem dX8_mix_231 : decode cX8_mix 231 = .ok (.bipush 25, 2) := by decide +kernel
theorem dX8_mix_233 : decode cX8_mix 233 = .ok (.invokestatic 91, 3) := by decide +kernel
theorem dX8_mix_236 : decode cX8_mix 236 = .ok (.ixor, 1) := by decide +kernel
theorem dX8_mix_237 : decode cX8_mix 237 = .ok (.iadd, 1) := by decide +kernel
theorem dX8_mix_238 : decode cX8_mix 238 = .ok (.iload_n 3, 1) := by decide +kernel
theorem dX8_mix_239 : decode cX8_mix 239 = .ok (.aload_n 0, 1) := by decide +kernel
theorem dX8_mix_240 : decode cX8_mix 240 = .ok (.getfield 51, 3) := by decide +kernel
theorem dX8_mix_243 : decode cX8_mix 243 = .ok (.iconst 5, 1) := by decide +kernel
theorem dX8_mix_244 : decode cX8_mix 244 = .ok (.iaload, 1) := by decide +kernel
theorem dX8_mix_245 : decode cX8_mix 245 = .ok (.iand, 1) := by decide +kernel
theorem dX8_mix_246 : decode cX8_mix 246 = .ok (.iload_n 3, 1) := by decide +kernel
theorem dX8_mix_247 : decode cX8_mix 247 = .ok (.iconst (-1), 1) := by decide +kernel
theorem dX8_mix_248 : decode cX8_mix 248 = .ok (.ixor, 1) := by decide +kernel
theorem dX8_mix_249 : decode cX8_mix 249 = .ok (.aload_n 0, 1) := by decide +kernel
theorem dX8_mix_250 : decode cX8_mix 250 = .ok (.getfield 51, 3) := by decide +kernel
theorem dX8_mix_253 : decode cX8_mix 253 = .ok (.bipush 6, 2) := by decide +kernel
theorem dX8_mix_255 : decode cX8_mix 255 = .ok (.iaload, 1) := by decide +kernel
theorem dX8_mix_256 : decode cX8_mix 256 = .ok (.iand, 1) := by decide +kernel
theorem dX8_mix_257 : decode cX8_mix 257 = .ok (.ixor, 1) := by decide +kernel
theorem dX8_mix_258 : decode cX8_mix 258 = .ok (.iadd, 1) := by decide +kernel
theorem dX8_mix_259 : decode cX8_mix 259 = .ok (.aload_n 0, 1) := by decide +kernel
theorem dX8_mix_260 : decode cX8_mix 260 = .ok (.getfield 7, 3) := by decide +kernel
theorem dX8_mix_263 : decode cX8_mix 263 = .ok (.iload_n 2, 1) := by decide +kernel
theorem dX8_mix_264 : decode cX8_mix 264 = .ok (.iaload, 1) := by decide +kernel
theorem dX8_mix_265 : decode cX8_mix 265 = .ok (.iadd, 1) := by decide +kernel
theorem dX8_mix_266 : decode cX8_mix 266 = .ok (.aload_n 0, 1) := by decide +kernel
theorem dX8_mix_267 : decode cX8_mix 267 = .ok (.getfield 54, 3) := by decide +kernel
theorem dX8_mix_270 : decode cX8_mix 270 = .ok (.iload_n 2, 1) := by decide +kernel
theorem dX8_mix_271 : decode cX8_mix 271 = .ok (.iaload, 1) := by decide +kernel
theorem dX8_mix_272 : decode cX8_mix 272 = .ok (.iadd, 1) := by decide +kernel
theorem dX8_mix_273 : decode cX8_mix 273 = .ok (.istore 5, 2) := by decide +kernel
theorem dX8_mix_275 : decode cX8_mix 275 = .ok (.iload 4, 2) := by decide +kernel
theorem dX8_mix_277 : decode cX8_mix 277 = .ok (.iconst 2, 1) := by decide +kernel
theorem dX8_mix_278 : decode cX8_mix 278 = .ok (.invokestatic 91, 3) := by decide +kernel
theorem dX8_mix_281 : decode cX8_mix 281 = .ok (.iload 4, 2) := by decide +kernel
theorem dX8_mix_283 : decode cX8_mix 283 = .ok (.bipush 13, 2) := by decide +kernel
theorem dX8_mix_285 : decode cX8_mix 285 = .ok (.invokestatic 91, 3) := by decide +kernel
theorem dX8_mix_288 : decode cX8_mix 288 = .ok (.ixor, 1) := by decide +kernel
theorem dX8_mix_289 : decode cX8_mix 289 = .ok (.iload 4, 2) := by decide +kernel
theorem dX8_mix_291 : decode cX8_mix 291 = .ok (.bipush 22, 2) := by decide +kernel
theorem dX8_mix_293 : decode cX8_mix 293 = .ok (.invokestatic 91, 3) := by decide +kernel
theorem dX8_mix_296 : decode cX8_mix 296 = .ok (.ixor, 1) := by decide +kernel
theorem dX8_mix_297 : decode cX8_mix 297 = .ok (.iload 4, 2) := by decide +kernel
theorem dX8_mix_299 : decode cX8_mix 299 = .ok (.aload_n 0, 1) := by decide +kernel
theorem dX8_mix_300 : decode cX8_mix 300 = .ok (.getfield 51, 3) := by decide +kernel
theorem dX8_mix_303 : decode cX8_mix 303 = .ok (.iconst 1, 1) := by decide +kernel
theorem dX8_mix_304 : decode cX8_mix 304 = .ok (.iaload, 1) := by decide +kernel
theorem dX8_mix_305 : decode cX8_mix 305 = .ok (.iand, 1) := by decide +kernel
theorem dX8_mix_306 : decode cX8_mix 306 = .ok (.iload 4, 2) := by decide +kernel
theorem dX8_mix_308 : decode cX8_mix 308 = .ok (.aload_n 0, 1) := by decide +kernel
theorem dX8_mix_309 : decode cX8_mix 309 = .ok (.getfield 51, 3) := by decide +kernel
theorem dX8_mix_312 : decode cX8_mix 312 = .ok (.iconst 2, 1) := by decide +kernel
theorem dX8_mix_313 : decode cX8_mix 313 = .ok (.iaload, 1) := by decide +kernel
theorem dX8_mix_314 : decode cX8_mix 314 = .ok (.iand, 1) := by decide +kernel
theorem dX8_mix_315 : decode cX8_mix 315 = .ok (.ixor, 1) := by decide +kernel
theorem dX8_mix_316 : decode cX8_mix 316 = .ok (.aload_n 0, 1) := by decide +kernel
theorem dX8_mix_317 : decode cX8_mix 317 = .ok (.getfield 51, 3) := by decide +kernel
theorem dX8_mix_320 : decode cX8_mix 320 = .ok (.iconst 1, 1) := by decide +kernel
theorem dX8_mix_321 : decode cX8_mix 321 = .ok (.iaload, 1) := by decide +kernel
theorem dX8_mix_322 : decode cX8_mix 322 = .ok (.aload_n 0, 1) := by decide +kernel
theorem dX8_mix_323 : decode cX8_mix 323 = .ok (.getfield 51, 3) := by decide +kernel
theorem dX8_mix_326 : decode cX8_mix 326 = .ok (.iconst 2, 1) := by decide +kernel
theorem dX8_mix_327 : decode cX8_mix 327 = .ok (.iaload, 1) := by decide +kernel
theorem dX8_mix_328 : decode cX8_mix 328 = .ok (.iand, 1) := by decide +kernel
theorem dX8_mix_329 : decode cX8_mix 329 = .ok (.ixor, 1) := by decide +kernel
theorem dX8_mix_330 : decode cX8_mix 330 = .ok (.iadd, 1) := by decide +kernel
theorem dX8_mix_331 : decode cX8_mix 331 = .ok (.istore 6, 2) := by decide +kernel
theorem dX8_mix_333 : decode cX8_mix 333 = .ok (.bipush 7, 2) := by decide +kernel
theorem dX8_mix_335 : decode cX8_mix 335 = .ok (.istore 7, 2) := by decide +kernel
theorem dX8_mix_337 : decode cX8_mix 337 = .ok (.iload 7, 2) := by decide +kernel
theorem dX8_mix_339 : decode cX8_mix 339 = .ok (.ifCond .le 25, 3) := by decide +kernel
theorem dX8_mix_342 : decode cX8_mix 342 = .ok (.aload_n 0, 1) := by decide +kernel
theorem dX8_mix_343 : decode cX8_mix 343 = .ok (.getfield 51, 3) := by decide +kernel
theorem dX8_mix_346 : decode cX8_mix 346 = .ok (.iload 7, 2) := by decide +kernel
theorem dX8_mix_348 : decode cX8_mix 348 = .ok (.aload_n 0, 1) := by decide +kernel
theorem dX8_mix_349 : decode cX8_mix 349 = .ok (.getfield 51, 3) := by decide +kernel
theorem dX8_mix_352 : decode cX8_mix 352 = .ok (.iload 7, 2) := by decide +kernel
theorem dX8_mix_354 : decode cX8_mix 354 = .ok (.iconst 1, 1) := by decide +kernel
theorem dX8_mix_355 : decode cX8_mix 355 = .ok (.isub, 1) := by decide +kernel
theorem dX8_mix_356 : decode cX8_mix 356 = .ok (.iaload, 1) := by decide +kernel
theorem dX8_mix_357 : decode cX8_mix 357 = .ok (.iastore, 1) := by decide +kernel
theorem dX8_mix_358 : decode cX8_mix 358 = .ok (.iinc 7 (-1), 3) := by decide +kernel
theorem dX8_mix_361 : decode cX8_mix 361 = .ok (.goto (-24), 3) := by decide +kernel
theorem dX8_mix_364 : decode cX8_mix 364 = .ok (.aload_n 0, 1) := by decide +kernel
theorem dX8_mix_365 : decode cX8_mix 365 = .ok (.getfield 51, 3) := by decide +kernel
theorem dX8_mix_368 : decode cX8_mix 368 = .ok (.iconst 4, 1) := by decide +kernel
theorem dX8_mix_369 : decode cX8_mix 369 = .ok (.aload_n 0, 1) := by decide +kernel
theorem dX8_mix_370 : decode cX8_mix 370 = .ok (.getfield 51, 3) := by decide +kernel
theorem dX8_mix_373 : decode cX8_mix 373 = .ok (.iconst 4, 1) := by decide +kernel
theorem dX8_mix_374 : decode cX8_mix 374 = .ok (.iaload, 1) := by decide +kernel
theorem dX8_mix_375 : decode cX8_mix 375 = .ok (.iload 5, 2) := by decide +kernel
theorem dX8_mix_377 : decode cX8_mix 377 = .ok (.iadd, 1) := by decide +kernel
theorem dX8_mix_378 : decode cX8_mix 378 = .ok (.iastore, 1) := by decide +kernel
theorem dX8_mix_379 : decode cX8_mix 379 = .ok (.aload_n 0, 1) := by decide +kernel
theorem dX8_mix_380 : decode cX8_mix 380 = .ok (.getfield 51, 3) := by decide +kernel
theorem dX8_mix_383 : decode cX8_mix 383 = .ok (.iconst 0, 1) := by decide +kernel
theorem dX8_mix_384 : decode cX8_mix 384 = .ok (.iload 5, 2) := by decide +kernel
theorem dX8_mix_386 : decode cX8_mix 386 = .ok (.iload 6, 2) := by decide +kernel
theorem dX8_mix_388 : decode cX8_mix 388 = .ok (.iadd, 1) := by decide +kernel
theorem dX8_mix_389 : decode cX8_mix 389 = .ok (.iastore, 1) := by decide +kernel
theorem dX8_mix_390 : decode cX8_mix 390 = .ok (.iinc 2 1, 3) := by decide +kernel
theorem dX8_mix_393 : decode cX8_mix 393 = .ok (.goto (-204), 3) := by decide +kernel
theorem dX8_mix_396 : decode cX8_mix 396 = .ok (.iconst 0, 1) := by decide +kernel
theorem dX8_mix_397 : decode cX8_mix 397 = .ok (.istore_n 2, 1) := by decide +kernel
theorem dX8_mix_398 : decode cX8_mix 398 = .ok (.iload_n 2, 1) := by decide +kernel
theorem dX8_mix_399 : decode cX8_mix 399 = .ok (.bipush 8, 2) := by decide +kernel
theorem dX8_mix_401 : decode cX8_mix 401 = .ok (.if_icmp .ge 28, 3) := by decide +kernel
theorem dX8_mix_404 : decode cX8_mix 404 = .ok (.aload_n 0, 1) := by decide +kernel
theorem dX8_mix_405 : decode cX8_mix 405 = .ok (.getfield 48, 3) := by decide +kernel
theorem dX8_mix_408 : decode cX8_mix 408 = .ok (.iload_n 2, 1) := by decide +kernel
theorem dX8_mix_409 : decode cX8_mix 409 = .ok (.aload_n 0, 1) := by decide +kernel
theorem dX8_mix_410 : decode cX8_mix 410 = .ok (.getfield 48, 3) := by decide +kernel
theorem dX8_mix_413 : decode cX8_mix 413 = .ok (.iload_n 2, 1) := by decide +kernel
theorem dX8_mix_414 : decode cX8_mix 414 = .ok (.iaload, 1) := by decide +kernel
theorem dX8_mix_415 : decode cX8_mix 415 = .ok (.aload_n 0, 1) := by decide +kernel
theorem dX8_mix_416 : decode cX8_mix 416 = .ok (.getfield 51, 3) := by decide +kernel
theorem dX8_mix_419 : decode cX8_mix 419 = .ok (.iload_n 2, 1) := by decide +kernel
theorem dX8_mix_420 : decode cX8_mix 420 = .ok (.iaload, 1) := by decide +kernel
theorem dX8_mix_421 : decode cX8_mix 421 = .ok (.iadd, 1) := by decide +kernel
theorem dX8_mix_422 : decode cX8_mix 422 = .ok (.iastore, 1) := by decide +kernel
theorem dX8_mix_423 : decode cX8_mix 423 = .ok (.iinc 2 1, 3) := by decide +kernel
theorem dX8_mix_426 : decode cX8_mix 426 = .ok (.goto (-28), 3) := by decide +kernel
theorem dX8_mix_429 : decode cX8_mix 429 = .ok (.return_, 1) := by decide +kernel
theorem dX8_write_0 : decode cX8_write 0 = .ok (.iconst 0, 1) := by decide +kernel
theorem dX8_write_1 : decode cX8_write 1 = .ok (.istore 5, 2) := by decide +kernel
theorem dX8_write_3 : decode cX8_write 3 = .ok (.iload 5, 2) := by decide +kernel
theorem dX8_write_5 : decode cX8_write 5 = .ok (.iload 4, 2) := by decide +kernel
theorem dX8_write_7 : decode cX8_write 7 = .ok (.if_icmp .ge 32, 3) := by decide +kernel
theorem dX8_write_10 : decode cX8_write 10 = .ok (.aload_n 0, 1) := by decide +kernel
theorem dX8_write_11 : decode cX8_write 11 = .ok (.getfield 35, 3) := by decide +kernel
theorem dX8_write_14 : decode cX8_write 14 = .ok (.iload_n 1, 1) := by decide +kernel
theorem dX8_write_15 : decode cX8_write 15 = .ok (.iload 5, 2) := by decide +kernel
theorem dX8_write_17 : decode cX8_write 17 = .ok (.iadd, 1) := by decide +kernel
theorem dX8_write_18 : decode cX8_write 18 = .ok (.lload_n 2, 1) := by decide +kernel
theorem dX8_write_19 : decode cX8_write 19 = .ok (.bipush 8, 2) := by decide +kernel
theorem dX8_write_21 : decode cX8_write 21 = .ok (.iload 4, 2) := by decide +kernel
theorem dX8_write_23 : decode cX8_write 23 = .ok (.iconst 1, 1) := by decide +kernel
theorem dX8_write_24 : decode cX8_write 24 = .ok (.isub, 1) := by decide +kernel
theorem dX8_write_25 : decode cX8_write 25 = .ok (.iload 5, 2) := by decide +kernel
theorem dX8_write_27 : decode cX8_write 27 = .ok (.isub, 1) := by decide +kernel
theorem dX8_write_28 : decode cX8_write 28 = .ok (.imul, 1) := by decide +kernel
theorem dX8_write_29 : decode cX8_write 29 = .ok (.lshr, 1) := by decide +kernel
theorem dX8_write_30 : decode cX8_write 30 = .ok (.l2i, 1) := by decide +kernel
theorem dX8_write_31 : decode cX8_write 31 = .ok (.i2b, 1) := by decide +kernel
theorem dX8_write_32 : decode cX8_write 32 = .ok (.bastore, 1) := by decide +kernel
theorem dX8_write_33 : decode cX8_write 33 = .ok (.iinc 5 1, 3) := by decide +kernel
theorem dX8_write_36 : decode cX8_write 36 = .ok (.goto (-33), 3) := by decide +kernel
theorem dX8_write_39 : decode cX8_write 39 = .ok (.iload_n 1, 1) := by decide +kernel
theorem dX8_write_40 : decode cX8_write 40 = .ok (.iload 4, 2) := by decide +kernel
theorem dX8_write_42 : decode cX8_write 42 = .ok (.iadd, 1) := by decide +kernel
theorem dX8_write_43 : decode cX8_write 43 = .ok (.ireturn, 1) := by decide +kernel
theorem dX8_digestOf_0 : decode cX8_digestOf 0 = .ok (.aload_n 0, 1) := by decide +kernel
theorem dX8_digestOf_1 : decode cX8_digestOf 1 = .ok (.iconst 0, 1) := by decide +kernel
theorem dX8_digestOf_2 : decode cX8_digestOf 2 = .ok (.putfield 81, 3) := by decide +kernel
theorem dX8_digestOf_5 : decode cX8_digestOf 5 = .ok (.iconst 0, 1) := by decide +kernel
theorem dX8_digestOf_6 : decode cX8_digestOf 6 = .ok (.istore_n 2, 1) := by decide +kernel
theorem dX8_digestOf_7 : decode cX8_digestOf 7 = .ok (.iload_n 2, 1) := by decide +kernel
theorem dX8_digestOf_8 : decode cX8_digestOf 8 = .ok (.bipush 32, 2) := by decide +kernel
theorem dX8_digestOf_10 : decode cX8_digestOf 10 = .ok (.if_icmp .ge 37, 3) := by decide +kernel
theorem dX8_digestOf_13 : decode cX8_digestOf 13 = .ok (.aload_n 0, 1) := by decide +kernel
theorem dX8_digestOf_14 : decode cX8_digestOf 14 = .ok (.iload_n 1, 1) := by decide +kernel
theorem dX8_digestOf_15 : decode cX8_digestOf 15 = .ok (.ifCond .ne 7, 3) := by decide +kernel
theorem dX8_digestOf_18 : decode cX8_digestOf 18 = .ok (.iconst 0, 1) := by decide +kernel
theorem dX8_digestOf_19 : decode cX8_digestOf 19 = .ok (.goto 19, 3) := by decide +kernel
theorem dX8_digestOf_22 : decode cX8_digestOf 22 = .ok (.aload_n 0, 1) := by decide +kernel
theorem dX8_digestOf_23 : decode cX8_digestOf 23 = .ok (.getfield 35, 3) := by decide +kernel
theorem dX8_digestOf_26 : decode cX8_digestOf 26 = .ok (.bipush 73, 2) := by decide +kernel
theorem dX8_digestOf_28 : decode cX8_digestOf 28 = .ok (.iload_n 1, 1) := by decide +kernel
theorem dX8_digestOf_29 : decode cX8_digestOf 29 = .ok (.iconst 1, 1) := by decide +kernel
theorem dX8_digestOf_30 : decode cX8_digestOf 30 = .ok (.isub, 1) := by decide +kernel
theorem dX8_digestOf_31 : decode cX8_digestOf 31 = .ok (.imul, 1) := by decide +kernel
theorem dX8_digestOf_32 : decode cX8_digestOf 32 = .ok (.bipush 41, 2) := by decide +kernel
theorem dX8_digestOf_34 : decode cX8_digestOf 34 = .ok (.iadd, 1) := by decide +kernel
theorem dX8_digestOf_35 : decode cX8_digestOf 35 = .ok (.iload_n 2, 1) := by decide +kernel
theorem dX8_digestOf_36 : decode cX8_digestOf 36 = .ok (.iadd, 1) := by decide +kernel
theorem dX8_digestOf_37 : decode cX8_digestOf 37 = .ok (.baload, 1) := by decide +kernel
theorem dX8_digestOf_38 : decode cX8_digestOf 38 = .ok (.invokevirtual 84, 3) := by decide +kernel
theorem dX8_digestOf_41 : decode cX8_digestOf 41 = .ok (.iinc 2 1, 3) := by decide +kernel
theorem dX8_digestOf_44 : decode cX8_digestOf 44 = .ok (.goto (-37), 3) := by decide +kernel
theorem dX8_digestOf_47 : decode cX8_digestOf 47 = .ok (.iconst 0, 1) := by decide +kernel
theorem dX8_digestOf_48 : decode cX8_digestOf 48 = .ok (.istore_n 2, 1) := by decide +kernel
theorem dX8_digestOf_49 : decode cX8_digestOf 49 = .ok (.iload_n 2, 1) := by decide +kernel
theorem dX8_digestOf_50 : decode cX8_digestOf 50 = .ok (.bipush 41, 2) := by decide +kernel
theorem dX8_digestOf_52 : decode cX8_digestOf 52 = .ok (.if_icmp .ge 24, 3) := by decide +kernel
theorem dX8_digestOf_55 : decode cX8_digestOf 55 = .ok (.aload_n 0, 1) := by decide +kernel
theorem dX8_digestOf_56 : decode cX8_digestOf 56 = .ok (.aload_n 0, 1) := by decide +kernel
theorem dX8_digestOf_57 : decode cX8_digestOf 57 = .ok (.getfield 35, 3) := by decide +kernel
theorem dX8_digestOf_60 : decode cX8_digestOf 60 = .ok (.bipush 73, 2) := by decide +kernel
theorem dX8_digestOf_62 : decode cX8_digestOf 62 = .ok (.iload_n 1, 1) := by decide +kernel
theorem dX8_digestOf_63 : decode cX8_digestOf 63 = .ok (.imul, 1) := by decide +kernel
theorem dX8_digestOf_64 : decode cX8_digestOf 64 = .ok (.iload_n 2, 1) := by decide +kernel
theorem dX8_digestOf_65 : decode cX8_digestOf 65 = .ok (.iadd, 1) := by decide +kernel
theorem dX8_digestOf_66 : decode cX8_digestOf 66 = .ok (.baload, 1) := by decide +kernel
theorem dX8_digestOf_67 : decode cX8_digestOf 67 = .ok (.invokevirtual 84, 3) := by decide +kernel
theorem dX8_digestOf_70 : decode cX8_digestOf 70 = .ok (.iinc 2 1, 3) := by decide +kernel
theorem dX8_digestOf_73 : decode cX8_digestOf 73 = .ok (.goto (-24), 3) := by decide +kernel
theorem dX8_digestOf_76 : decode cX8_digestOf 76 = .ok (.aload_n 0, 1) := by decide +kernel
theorem dX8_digestOf_77 : decode cX8_digestOf 77 = .ok (.invokevirtual 95, 3) := by decide +kernel
theorem dX8_digestOf_80 : decode cX8_digestOf 80 = .ok (.return_, 1) := by decide +kernel
theorem dX8_close_0 : decode cX8_close 0 = .ok (.aload_n 0, 1) := by decide +kernel
theorem dX8_close_1 : decode cX8_close 1 = .ok (.aload_n 0, 1) := by decide +kernel
theorem dX8_close_2 : decode cX8_close 2 = .ok (.getfield 98, 3) := by decide +kernel
theorem dX8_close_5 : decode cX8_close 5 = .ok (.invokevirtual 101, 3) := by decide +kernel
theorem dX8_close_8 : decode cX8_close 8 = .ok (.iconst 0, 1) := by decide +kernel
theorem dX8_close_9 : decode cX8_close 9 = .ok (.istore_n 2, 1) := by decide +kernel
theorem dX8_close_10 : decode cX8_close 10 = .ok (.iload_n 2, 1) := by decide +kernel
theorem dX8_close_11 : decode cX8_close 11 = .ok (.bipush 32, 2) := by decide +kernel
theorem dX8_close_13 : decode cX8_close 13 = .ok (.if_icmp .ge 32, 3) := by decide +kernel
theorem dX8_close_16 : decode cX8_close 16 = .ok (.aload_n 0, 1) := by decide +kernel
theorem dX8_close_17 : decode cX8_close 17 = .ok (.getfield 35, 3) := by decide +kernel
theorem dX8_close_20 : decode cX8_close 20 = .ok (.bipush 73, 2) := by decide +kernel
theorem dX8_close_22 : decode cX8_close 22 = .ok (.aload_n 0, 1) := by decide +kernel
theorem dX8_close_23 : decode cX8_close 23 = .ok (.getfield 98, 3) := by decide +kernel
theorem dX8_close_26 : decode cX8_close 26 = .ok (.imul, 1) := by decide +kernel
theorem dX8_close_27 : decode cX8_close 27 = .ok (.bipush 41, 2) := by decide +kernel
theorem dX8_close_29 : decode cX8_close 29 = .ok (.iadd, 1) := by decide +kernel
theorem dX8_close_30 : decode cX8_close 30 = .ok (.iload_n 2, 1) := by decide +kernel
theorem dX8_close_31 : decode cX8_close 31 = .ok (.iadd, 1) := by decide +kernel
theorem dX8_close_32 : decode cX8_close 32 = .ok (.aload_n 0, 1) := by decide +kernel
theorem dX8_close_33 : decode cX8_close 33 = .ok (.getfield 45, 3) := by decide +kernel
theorem dX8_close_36 : decode cX8_close 36 = .ok (.iload_n 2, 1) := by decide +kernel
theorem dX8_close_37 : decode cX8_close 37 = .ok (.baload, 1) := by decide +kernel
theorem dX8_close_38 : decode cX8_close 38 = .ok (.bastore, 1) := by decide +kernel
theorem dX8_close_39 : decode cX8_close 39 = .ok (.iinc 2 1, 3) := by decide +kernel
theorem dX8_close_42 : decode cX8_close 42 = .ok (.goto (-32), 3) := by decide +kernel
theorem dX8_close_45 : decode cX8_close 45 = .ok (.aload_n 0, 1) := by decide +kernel
theorem dX8_close_46 : decode cX8_close 46 = .ok (.getfield 39, 3) := by decide +kernel
theorem dX8_close_49 : decode cX8_close 49 = .ok (.aload_n 0, 1) := by decide +kernel
theorem dX8_close_50 : decode cX8_close 50 = .ok (.getfield 98, 3) := by decide +kernel
theorem dX8_close_53 : decode cX8_close 53 = .ok (.aload_n 0, 1) := by decide +kernel
theorem dX8_close_54 : decode cX8_close 54 = .ok (.getfield 25, 3) := by decide +kernel
theorem dX8_close_57 : decode cX8_close 57 = .ok (.bipush 9, 2) := by decide +kernel
theorem dX8_close_59 : decode cX8_close 59 = .ok (.iload_n 1, 1) := by decide +kernel
theorem dX8_close_60 : decode cX8_close 60 = .ok (.imul, 1) := by decide +kernel
theorem dX8_close_61 : decode cX8_close 61 = .ok (.bipush 6, 2) := by decide +kernel
theorem dX8_close_63 : decode cX8_close 63 = .ok (.iadd, 1) := by decide +kernel
theorem dX8_close_64 : decode cX8_close 64 = .ok (.laload, 1) := by decide +kernel
theorem dX8_close_65 : decode cX8_close 65 = .ok (.invokestatic 104, 3) := by decide +kernel
theorem dX8_close_68 : decode cX8_close 68 = .ok (.iastore, 1) := by decide +kernel
theorem dX8_close_69 : decode cX8_close 69 = .ok (.aload_n 0, 1) := by decide +kernel
theorem dX8_close_70 : decode cX8_close 70 = .ok (.dup, 1) := by decide +kernel
theorem dX8_close_71 : decode cX8_close 71 = .ok (.getfield 98, 3) := by decide +kernel
theorem dX8_close_74 : decode cX8_close 74 = .ok (.iconst 1, 1) := by decide +kernel
theorem dX8_close_75 : decode cX8_close 75 = .ok (.iadd, 1) := by decide +kernel
theorem dX8_close_76 : decode cX8_close 76 = .ok (.putfield 98, 3) := by decide +kernel
theorem dX8_close_79 : decode cX8_close 79 = .ok (.aload_n 0, 1) := by decide +kernel
theorem dX8_close_80 : decode cX8_close 80 = .ok (.getfield 98, 3) := by decide +kernel
theorem dX8_close_83 : decode cX8_close 83 = .ok (.iconst 1, 1) := by decide +kernel
theorem dX8_close_84 : decode cX8_close 84 = .ok (.isub, 1) := by decide +kernel
theorem dX8_close_85 : decode cX8_close 85 = .ok (.ireturn, 1) := by decide +kernel
theorem dX8_open_0 : decode cX8_open 0 = .ok (.bipush 73, 2) := by decide +kernel
theorem dX8_open_2 : decode cX8_open 2 = .ok (.aload_n 0, 1) := by decide +kernel
theorem dX8_open_3 : decode cX8_open 3 = .ok (.getfield 98, 3) := by decide +kernel
theorem dX8_open_6 : decode cX8_open 6 = .ok (.imul, 1) := by decide +kernel
theorem dX8_open_7 : decode cX8_open 7 = .ok (.istore_n 3, 1) := by decide +kernel
theorem dX8_open_8 : decode cX8_open 8 = .ok (.iconst 0, 1) := by decide +kernel
theorem dX8_open_9 : decode cX8_open 9 = .ok (.istore 4, 2) := by decide +kernel
theorem dX8_open_11 : decode cX8_open 11 = .ok (.iload 4, 2) := by decide +kernel
theorem dX8_open_13 : decode cX8_open 13 = .ok (.bipush 73, 2) := by decide +kernel
theorem dX8_open_15 : decode cX8_open 15 = .ok (.if_icmp .ge 19, 3) := by decide +kernel
theorem dX8_open_18 : decode cX8_open 18 = .ok (.aload_n 0, 1) := by decide +kernel
theorem dX8_open_19 : decode cX8_open 19 = .ok (.getfield 35, 3) := by decide +kernel
theorem dX8_open_22 : decode cX8_open 22 = .ok (.iload_n 3, 1) := by decide +kernel
theorem dX8_open_23 : decode cX8_open 23 = .ok (.iload 4, 2) := by decide +kernel
theorem dX8_open_25 : decode cX8_open 25 = .ok (.iadd, 1) := by decide +kernel
theorem dX8_open_26 : decode cX8_open 26 = .ok (.iconst 0, 1) := by decide +kernel
theorem dX8_open_27 : decode cX8_open 27 = .ok (.bastore, 1) := by decide +kernel
theorem dX8_open_28 : decode cX8_open 28 = .ok (.iinc 4 1, 3) := by decide +kernel
theorem dX8_open_31 : decode cX8_open 31 = .ok (.goto (-20), 3) := by decide +kernel
theorem dX8_open_34 : decode cX8_open 34 = .ok (.aload_n 0, 1) := by decide +kernel
theorem dX8_open_35 : decode cX8_open 35 = .ok (.getfield 35, 3) := by decide +kernel
theorem dX8_open_38 : decode cX8_open 38 = .ok (.iload_n 3, 1) := by decide +kernel
theorem dX8_open_39 : decode cX8_open 39 = .ok (.iload_n 1, 1) := by decide +kernel
theorem dX8_open_40 : decode cX8_open 40 = .ok (.i2b, 1) := by decide +kernel
theorem dX8_open_41 : decode cX8_open 41 = .ok (.bastore, 1) := by decide +kernel
theorem dX8_open_42 : decode cX8_open 42 = .ok (.aload_n 0, 1) := by decide +kernel
theorem dX8_open_43 : decode cX8_open 43 = .ok (.iload_n 3, 1) := by decide +kernel
theorem dX8_open_44 : decode cX8_open 44 = .ok (.iconst 1, 1) := by decide +kernel
theorem dX8_open_45 : decode cX8_open 45 = .ok (.iadd, 1) := by decide +kernel
theorem dX8_open_46 : decode cX8_open 46 = .ok (.aload_n 0, 1) := by decide +kernel
theorem dX8_open_47 : decode cX8_open 47 = .ok (.getfield 25, 3) := by decide +kernel
theorem dX8_open_50 : decode cX8_open 50 = .ok (.bipush 9, 2) := by decide +kernel
theorem dX8_open_52 : decode cX8_open 52 = .ok (.iload_n 2, 1) := by decide +kernel
theorem dX8_open_53 : decode cX8_open 53 = .ok (.imul, 1) := by decide +kernel
theorem dX8_open_54 : decode cX8_open 54 = .ok (.laload, 1) := by decide +kernel
theorem dX8_open_55 : decode cX8_open 55 = .ok (.iconst 4, 1) := by decide +kernel
theorem dX8_open_56 : decode cX8_open 56 = .ok (.invokevirtual 108, 3) := by decide +kernel
theorem dX8_open_59 : decode cX8_open 59 = .ok (.ireturn, 1) := by decide +kernel
theorem dX8_isIn_0 : decode cX8_isIn 0 = .ok (.lload_n 0, 1) := by decide +kernel
theorem dX8_isIn_1 : decode cX8_isIn 1 = .ok (.lconst 0, 1) := by decide +kernel
theorem dX8_isIn_2 : decode cX8_isIn 2 = .ok (.lcmp, 1) := by decide +kernel
theorem dX8_isIn_3 : decode cX8_isIn 3 = .ok (.ifCond .lt 13, 3) := by decide +kernel
theorem dX8_isIn_6 : decode cX8_isIn 6 = .ok (.lload_n 0, 1) := by decide +kernel
theorem dX8_isIn_7 : decode cX8_isIn 7 = .ok (.lload_n 2, 1) := by decide +kernel
theorem dX8_isIn_8 : decode cX8_isIn 8 = .ok (.lcmp, 1) := by decide +kernel
theorem dX8_isIn_9 : decode cX8_isIn 9 = .ok (.ifCond .gt 7, 3) := by decide +kernel
theorem dX8_isIn_12 : decode cX8_isIn 12 = .ok (.iconst 1, 1) := by decide +kernel
theorem dX8_isIn_13 : decode cX8_isIn 13 = .ok (.goto 4, 3) := by decide +kernel
theorem dX8_isIn_16 : decode cX8_isIn 16 = .ok (.iconst 0, 1) := by decide +kernel
theorem dX8_isIn_17 : decode cX8_isIn 17 = .ok (.ireturn, 1) := by decide +kernel
theorem dX8_isTicket_0 : decode cX8_isTicket 0 = .ok (.aload_n 0, 1) := by decide +kernel
theorem dX8_isTicket_1 : decode cX8_isTicket 1 = .ok (.iconst 0, 1) := by decide +kernel
theorem dX8_isTicket_2 : decode cX8_isTicket 2 = .ok (.putfield 67, 3) := by decide +kernel
theorem dX8_isTicket_5 : decode cX8_isTicket 5 = .ok (.iload_n 1, 1) := by decide +kernel
theorem dX8_isTicket_6 : decode cX8_isTicket 6 = .ok (.ifCond .lt 15, 3) := by decide +kernel
theorem dX8_isTicket_9 : decode cX8_isTicket 9 = .ok (.iload_n 1, 1) := by decide +kernel
theorem dX8_isTicket_10 : decode cX8_isTicket 10 = .ok (.aload_n 0, 1) := by decide +kernel
theorem dX8_isTicket_11 : decode cX8_isTicket 11 = .ok (.getfield 112, 3) := by decide +kernel
theorem dX8_isTicket_14 : decode cX8_isTicket 14 = .ok (.if_icmp .ge 7, 3) := by decide +kernel
theorem dX8_isTicket_17 : decode cX8_isTicket 17 = .ok (.iconst 1, 1) := by decide +kernel
theorem dX8_isTicket_18 : decode cX8_isTicket 18 = .ok (.goto 4, 3) := by decide +kernel
theorem dX8_isTicket_21 : decode cX8_isTicket 21 = .ok (.iconst 0, 1) := by decide +kernel
theorem dX8_isTicket_22 : decode cX8_isTicket 22 = .ok (.ireturn, 1) := by decide +kernel
theorem dX8_dayOf_0 : decode cX8_dayOf 0 = .ok (.lload_n 0, 1) := by decide +kernel
theorem dX8_dayOf_1 : decode cX8_dayOf 1 = .ok (.ldc2_w 115, 3) := by decide +kernel
theorem dX8_dayOf_4 : decode cX8_dayOf 4 = .ok (.ldiv, 1) := by decide +kernel
theorem dX8_dayOf_5 : decode cX8_dayOf 5 = .ok (.l2i, 1) := by decide +kernel
theorem dX8_dayOf_6 : decode cX8_dayOf 6 = .ok (.ireturn, 1) := by decide +kernel
theorem dX8_canBe_0 : decode cX8_canBe 0 = .ok (.iload_n 0, 1) := by decide +kernel
theorem dX8_canBe_1 : decode cX8_canBe 1 = .ok (.tableswitch 83 1 7 #[43, 51, 59, 59, 83, 67, 75], 43) := by decide +kernel
theorem dX8_canBe_44 : decode cX8_canBe 44 = .ok (.lload_n 1, 1) := by decide +kernel
theorem dX8_canBe_45 : decode cX8_canBe 45 = .ok (.ldc2_w 117, 3) := by decide +kernel
theorem dX8_canBe_48 : decode cX8_canBe 48 = .ok (.invokestatic 119, 3) := by decide +kernel
theorem dX8_canBe_51 : decode cX8_canBe 51 = .ok (.ireturn, 1) := by decide +kernel
theorem dX8_canBe_52 : decode cX8_canBe 52 = .ok (.lload_n 1, 1) := by decide +kernel
theorem dX8_canBe_53 : decode cX8_canBe 53 = .ok (.ldc2_w 123, 3) := by decide +kernel
theorem dX8_canBe_56 : decode cX8_canBe 56 = .ok (.invokestatic 119, 3) := by decide +kernel
theorem dX8_canBe_59 : decode cX8_canBe 59 = .ok (.ireturn, 1) := by decide +kernel
theorem dX8_canBe_60 : decode cX8_canBe 60 = .ok (.lload_n 1, 1) := by decide +kernel
theorem dX8_canBe_61 : decode cX8_canBe 61 = .ok (.ldc2_w 125, 3) := by decide +kernel
theorem dX8_canBe_64 : decode cX8_canBe 64 = .ok (.invokestatic 119, 3) := by decide +kernel
theorem dX8_canBe_67 : decode cX8_canBe 67 = .ok (.ireturn, 1) := by decide +kernel
theorem dX8_canBe_68 : decode cX8_canBe 68 = .ok (.lload_n 1, 1) := by decide +kernel
theorem dX8_canBe_69 : decode cX8_canBe 69 = .ok (.ldc2_w 127, 3) := by decide +kernel
theorem dX8_canBe_72 : decode cX8_canBe 72 = .ok (.invokestatic 119, 3) := by decide +kernel
theorem dX8_canBe_75 : decode cX8_canBe 75 = .ok (.ireturn, 1) := by decide +kernel
theorem dX8_canBe_76 : decode cX8_canBe 76 = .ok (.lload_n 1, 1) := by decide +kernel
theorem dX8_canBe_77 : decode cX8_canBe 77 = .ok (.ldc2_w 129, 3) := by decide +kernel
theorem dX8_canBe_80 : decode cX8_canBe 80 = .ok (.invokestatic 119, 3) := by decide +kernel
theorem dX8_canBe_83 : decode cX8_canBe 83 = .ok (.ireturn, 1) := by decide +kernel
theorem dX8_canBe_84 : decode cX8_canBe 84 = .ok (.iconst 0, 1) := by decide +kernel
theorem dX8_canBe_85 : decode cX8_canBe 85 = .ok (.ireturn, 1) := by decide +kernel
theorem dX8_follows_0 : decode cX8_follows 0 = .ok (.aload_n 0, 1) := by decide +kernel
theorem dX8_follows_1 : decode cX8_follows 1 = .ok (.iconst 0, 1) := by decide +kernel
theorem dX8_follows_2 : decode cX8_follows 2 = .ok (.putfield 67, 3) := by decide +kernel
theorem dX8_follows_5 : decode cX8_follows 5 = .ok (.iload_n 1, 1) := by decide +kernel
theorem dX8_follows_6 : decode cX8_follows 6 = .ok (.i2l, 1) := by decide +kernel
theorem dX8_follows_7 : decode cX8_follows 7 = .ok (.ldc2_w 131, 3) := by decide +kernel
theorem dX8_follows_10 : decode cX8_follows 10 = .ok (.invokestatic 119, 3) := by decide +kernel
theorem dX8_follows_13 : decode cX8_follows 13 = .ok (.ifCond .eq 24, 3) := by decide +kernel
theorem dX8_follows_16 : decode cX8_follows 16 = .ok (.iload_n 2, 1) := by decide +kernel
theorem dX8_follows_17 : decode cX8_follows 17 = .ok (.i2l, 1) := by decide +kernel
theorem dX8_follows_18 : decode cX8_follows 18 = .ok (.ldc2_w 117, 3) := by decide +kernel
theorem dX8_follows_21 : decode cX8_follows 21 = .ok (.invokestatic 119, 3) := by decide +kernel
theorem dX8_follows_24 : decode cX8_follows 24 = .ok (.ifCond .eq 13, 3) := by decide +kernel
theorem dX8_follows_27 : decode cX8_follows 27 = .ok (.lload_n 3, 1) := by decide +kernel
theorem dX8_follows_28 : decode cX8_follows 28 = .ok (.ldc2_w 125, 3) := by decide +kernel
theorem dX8_follows_31 : decode cX8_follows 31 = .ok (.invokestatic 119, 3) := by decide +kernel
theorem dX8_follows_34 : decode cX8_follows 34 = .ok (.ifCond .ne 5, 3) := by decide +kernel
theorem dX8_follows_37 : decode cX8_follows 37 = .ok (.iconst 0, 1) := by decide +kernel
theorem dX8_follows_38 : decode cX8_follows 38 = .ok (.ireturn, 1) := by decide +kernel
theorem dX8_follows_39 : decode cX8_follows 39 = .ok (.iconst 0, 1) := by decide +kernel
theorem dX8_follows_40 : decode cX8_follows 40 = .ok (.istore 5, 2) := by decide +kernel
theorem dX8_follows_42 : decode cX8_follows 42 = .ok (.iload 5, 2) := by decide +kernel
theorem dX8_follows_44 : decode cX8_follows 44 = .ok (.aload_n 0, 1) := by decide +kernel
theorem dX8_follows_45 : decode cX8_follows 45 = .ok (.getfield 133, 3) := by decide +kernel
theorem dX8_follows_48 : decode cX8_follows 48 = .ok (.if_icmp .ge 31, 3) := by decide +kernel
theorem dX8_follows_51 : decode cX8_follows 51 = .ok (.aload_n 0, 1) := by decide +kernel
theorem dX8_follows_52 : decode cX8_follows 52 = .ok (.getfield 16, 3) := by decide +kernel
theorem dX8_follows_55 : decode cX8_follows 55 = .ok (.iload 5, 2) := by decide +kernel
theorem dX8_follows_57 : decode cX8_follows 57 = .ok (.iaload, 1) := by decide +kernel
theorem dX8_follows_58 : decode cX8_follows 58 = .ok (.iload_n 1, 1) := by decide +kernel
theorem dX8_follows_59 : decode cX8_follows 59 = .ok (.if_icmp .ne 14, 3) := by decide +kernel
theorem dX8_follows_62 : decode cX8_follows 62 = .ok (.aload_n 0, 1) := by decide +kernel
theorem dX8_follows_63 : decode cX8_follows 63 = .ok (.getfield 19, 3) := by decide +kernel
theorem dX8_follows_66 : decode cX8_follows 66 = .ok (.iload 5, 2) := by decide +kernel
theorem dX8_follows_68 : decode cX8_follows 68 = .ok (.iaload, 1) := by decide +kernel
theorem dX8_follows_69 : decode cX8_follows 69 = .ok (.iload_n 2, 1) := by decide +kernel
theorem dX8_follows_70 : decode cX8_follows 70 = .ok (.if_icmp .eq 9, 3) := by decide +kernel
theorem dX8_follows_73 : decode cX8_follows 73 = .ok (.iinc 5 1, 3) := by decide +kernel
theorem dX8_follows_76 : decode cX8_follows 76 = .ok (.goto (-34), 3) := by decide +kernel
theorem dX8_follows_79 : decode cX8_follows 79 = .ok (.aload_n 0, 1) := by decide +kernel
theorem dX8_follows_80 : decode cX8_follows 80 = .ok (.getfield 16, 3) := by decide +kernel
theorem dX8_follows_83 : decode cX8_follows 83 = .ok (.iload 5, 2) := by decide +kernel
theorem dX8_follows_85 : decode cX8_follows 85 = .ok (.iload_n 1, 1) := by decide +kernel
theorem dX8_follows_86 : decode cX8_follows 86 = .ok (.iastore, 1) := by decide +kernel
theorem dX8_follows_87 : decode cX8_follows 87 = .ok (.aload_n 0, 1) := by decide +kernel
theorem dX8_follows_88 : decode cX8_follows 88 = .ok (.getfield 19, 3) := by decide +kernel
theorem dX8_follows_91 : decode cX8_follows 91 = .ok (.iload 5, 2) := by decide +kernel
theorem dX8_follows_93 : decode cX8_follows 93 = .ok (.iload_n 2, 1) := by decide +kernel
theorem dX8_follows_94 : decode cX8_follows 94 = .ok (.iastore, 1) := by decide +kernel
theorem dX8_follows_95 : decode cX8_follows 95 = .ok (.aload_n 0, 1) := by decide +kernel
theorem dX8_follows_96 : decode cX8_follows 96 = .ok (.getfield 22, 3) := by decide +kernel
theorem dX8_follows_99 : decode cX8_follows 99 = .ok (.iload 5, 2) := by decide +kernel
theorem dX8_follows_101 : decode cX8_follows 101 = .ok (.lload_n 3, 1) := by decide +kernel
theorem dX8_follows_102 : decode cX8_follows 102 = .ok (.l2i, 1) := by decide +kernel
theorem dX8_follows_103 : decode cX8_follows 103 = .ok (.iastore, 1) := by decide +kernel
theorem dX8_follows_104 : decode cX8_follows 104 = .ok (.aload_n 0, 1) := by decide +kernel
theorem dX8_follows_105 : decode cX8_follows 105 = .ok (.iload 5, 2) := by decide +kernel
theorem dX8_follows_107 : decode cX8_follows 107 = .ok (.aload_n 0, 1) := by decide +kernel
theorem dX8_follows_108 : decode cX8_follows 108 = .ok (.getfield 133, 3) := by decide +kernel
theorem dX8_follows_111 : decode cX8_follows 111 = .ok (.if_icmp .ne 12, 3) := by decide +kernel
theorem dX8_follows_114 : decode cX8_follows 114 = .ok (.aload_n 0, 1) := by decide +kernel
theorem dX8_follows_115 : decode cX8_follows 115 = .ok (.getfield 133, 3) := by decide +kernel
theorem dX8_follows_118 : decode cX8_follows 118 = .ok (.iconst 1, 1) := by decide +kernel
theorem dX8_follows_119 : decode cX8_follows 119 = .ok (.iadd, 1) := by decide +kernel
theorem dX8_follows_120 : decode cX8_follows 120 = .ok (.goto 7, 3) := by decide +kernel
theorem dX8_follows_123 : decode cX8_follows 123 = .ok (.aload_n 0, 1) := by decide +kernel
theorem dX8_follows_124 : decode cX8_follows 124 = .ok (.getfield 133, 3) := by decide +kernel
theorem dX8_follows_127 : decode cX8_follows 127 = .ok (.putfield 133, 3) := by decide +kernel
theorem dX8_follows_130 : decode cX8_follows 130 = .ok (.iconst 1, 1) := by decide +kernel
theorem dX8_follows_131 : decode cX8_follows 131 = .ok (.ireturn, 1) := by decide +kernel
theorem dX8_tareOf_0 : decode cX8_tareOf 0 = .ok (.iconst (-1), 1) := by decide +kernel
theorem dX8_tareOf_1 : decode cX8_tareOf 1 = .ok (.istore_n 3, 1) := by decide +kernel
theorem dX8_tareOf_2 : decode cX8_tareOf 2 = .ok (.iconst 0, 1) := by decide +kernel
theorem dX8_tareOf_3 : decode cX8_tareOf 3 = .ok (.istore 4, 2) := by decide +kernel
theorem dX8_tareOf_5 : decode cX8_tareOf 5 = .ok (.iload 4, 2) := by decide +kernel
theorem dX8_tareOf_7 : decode cX8_tareOf 7 = .ok (.aload_n 0, 1) := by decide +kernel
theorem dX8_tareOf_8 : decode cX8_tareOf 8 = .ok (.getfield 133, 3) := by decide +kernel
theorem dX8_tareOf_11 : decode cX8_tareOf 11 = .ok (.if_icmp .ge 70, 3) := by decide +kernel
theorem dX8_tareOf_14 : decode cX8_tareOf 14 = .ok (.aload_n 0, 1) := by decide +kernel
theorem dX8_tareOf_15 : decode cX8_tareOf 15 = .ok (.getfield 19, 3) := by decide +kernel
theorem dX8_tareOf_18 : decode cX8_tareOf 18 = .ok (.iload 4, 2) := by decide +kernel
theorem dX8_tareOf_20 : decode cX8_tareOf 20 = .ok (.iaload, 1) := by decide +kernel
theorem dX8_tareOf_21 : decode cX8_tareOf 21 = .ok (.iload_n 1, 1) := by decide +kernel
theorem dX8_tareOf_22 : decode cX8_tareOf 22 = .ok (.if_icmp .ne 18, 3) := by decide +kernel
theorem dX8_tareOf_25 : decode cX8_tareOf 25 = .ok (.aload_n 0, 1) := by decide +kernel
theorem dX8_tareOf_26 : decode cX8_tareOf 26 = .ok (.getfield 16, 3) := by decide +kernel
theorem dX8_tareOf_29 : decode cX8_tareOf 29 = .ok (.iload 4, 2) := by decide +kernel
theorem dX8_tareOf_31 : decode cX8_tareOf 31 = .ok (.iaload, 1) := by decide +kernel
theorem dX8_tareOf_32 : decode cX8_tareOf 32 = .ok (.iload_n 2, 1) := by decide +kernel
theorem dX8_tareOf_33 : decode cX8_tareOf 33 = .ok (.if_icmp .gt 7, 3) := by decide +kernel
theorem dX8_tareOf_36 : decode cX8_tareOf 36 = .ok (.iconst 1, 1) := by decide +kernel
theorem dX8_tareOf_37 : decode cX8_tareOf 37 = .ok (.goto 4, 3) := by decide +kernel
theorem dX8_tareOf_40 : decode cX8_tareOf 40 = .ok (.iconst 0, 1) := by decide +kernel
theorem dX8_tareOf_41 : decode cX8_tareOf 41 = .ok (.istore 5, 2) := by decide +kernel
theorem dX8_tareOf_43 : decode cX8_tareOf 43 = .ok (.iload 5, 2) := by decide +kernel
theorem dX8_tareOf_45 : decode cX8_tareOf 45 = .ok (.ifCond .eq 28, 3) := by decide +kernel
theorem dX8_tareOf_48 : decode cX8_tareOf 48 = .ok (.iload_n 3, 1) := by decide +kernel
theorem dX8_tareOf_49 : decode cX8_tareOf 49 = .ok (.ifCond .lt 19, 3) := by decide +kernel
theorem dX8_tareOf_52 : decode cX8_tareOf 52 = .ok (.aload_n 0, 1) := by decide +kernel
theorem dX8_tareOf_53 : decode cX8_tareOf 53 = .ok (.getfield 16, 3) := by decide +kernel
theorem dX8_tareOf_56 : decode cX8_tareOf 56 = .ok (.iload 4, 2) := by decide +kernel
theorem dX8_tareOf_58 : decode cX8_tareOf 58 = .ok (.iaload, 1) := by decide +kernel
theorem dX8_tareOf_59 : decode cX8_tareOf 59 = .ok (.aload_n 0, 1) := by decide +kernel
theorem dX8_tareOf_60 : decode cX8_tareOf 60 = .ok (.getfield 16, 3) := by decide +kernel
theorem dX8_tareOf_63 : decode cX8_tareOf 63 = .ok (.iload_n 3, 1) := by decide +kernel
theorem dX8_tareOf_64 : decode cX8_tareOf 64 = .ok (.iaload, 1) := by decide +kernel
theorem dX8_tareOf_65 : decode cX8_tareOf 65 = .ok (.if_icmp .le 8, 3) := by decide +kernel
theorem dX8_tareOf_68 : decode cX8_tareOf 68 = .ok (.iload 4, 2) := by decide +kernel
theorem dX8_tareOf_70 : decode cX8_tareOf 70 = .ok (.goto 4, 3) := by decide +kernel
theorem dX8_tareOf_73 : decode cX8_tareOf 73 = .ok (.iload_n 3, 1) := by decide +kernel
theorem dX8_tareOf_74 : decode cX8_tareOf 74 = .ok (.istore_n 3, 1) := by decide +kernel
theorem dX8_tareOf_75 : decode cX8_tareOf 75 = .ok (.iinc 4 1, 3) := by decide +kernel
theorem dX8_tareOf_78 : decode cX8_tareOf 78 = .ok (.goto (-73), 3) := by decide +kernel
theorem dX8_tareOf_81 : decode cX8_tareOf 81 = .ok (.iload_n 3, 1) := by decide +kernel
theorem dX8_tareOf_82 : decode cX8_tareOf 82 = .ok (.ifCond .ge 9, 3) := by decide +kernel
theorem dX8_tareOf_85 : decode cX8_tareOf 85 = .ok (.ldc2_w 136, 3) := by decide +kernel
theorem dX8_tareOf_88 : decode cX8_tareOf 88 = .ok (.goto 10, 3) := by decide +kernel
theorem dX8_tareOf_91 : decode cX8_tareOf 91 = .ok (.aload_n 0, 1) := by decide +kernel
theorem dX8_tareOf_92 : decode cX8_tareOf 92 = .ok (.getfield 22, 3) := by decide +kernel
theorem dX8_tareOf_95 : decode cX8_tareOf 95 = .ok (.iload_n 3, 1) := by decide +kernel
theorem dX8_tareOf_96 : decode cX8_tareOf 96 = .ok (.iaload, 1) := by decide +kernel
theorem dX8_tareOf_97 : decode cX8_tareOf 97 = .ok (.i2l, 1) := by decide +kernel
theorem dX8_tareOf_98 : decode cX8_tareOf 98 = .ok (.lreturn, 1) := by decide +kernel
theorem dX8_ticket_0 : decode cX8_ticket 0 = .ok (.aload_n 0, 1) := by decide +kernel
theorem dX8_ticket_1 : decode cX8_ticket 1 = .ok (.iconst 0, 1) := by decide +kernel
theorem dX8_ticket_2 : decode cX8_ticket 2 = .ok (.putfield 67, 3) := by decide +kernel
theorem dX8_ticket_5 : decode cX8_ticket 5 = .ok (.iconst 1, 1) := by decide +kernel
theorem dX8_ticket_6 : decode cX8_ticket 6 = .ok (.iload_n 1, 1) := by decide +kernel
theorem dX8_ticket_7 : decode cX8_ticket 7 = .ok (.i2l, 1) := by decide +kernel
theorem dX8_ticket_8 : decode cX8_ticket 8 = .ok (.invokestatic 138, 3) := by decide +kernel
theorem dX8_ticket_11 : decode cX8_ticket 11 = .ok (.ifCond .eq 59, 3) := by decide +kernel
theorem dX8_ticket_14 : decode cX8_ticket 14 = .ok (.iconst 2, 1) := by decide +kernel
theorem dX8_ticket_15 : decode cX8_ticket 15 = .ok (.iload_n 2, 1) := by decide +kernel
theorem dX8_ticket_16 : decode cX8_ticket 16 = .ok (.i2l, 1) := by decide +kernel
theorem dX8_ticket_17 : decode cX8_ticket 17 = .ok (.invokestatic 138, 3) := by decide +kernel
theorem dX8_ticket_20 : decode cX8_ticket 20 = .ok (.ifCond .eq 50, 3) := by decide +kernel
theorem dX8_ticket_23 : decode cX8_ticket 23 = .ok (.iconst 3, 1) := by decide +kernel
theorem dX8_ticket_24 : decode cX8_ticket 24 = .ok (.lload_n 3, 1) := by decide +kernel
theorem dX8_ticket_25 : decode cX8_ticket 25 = .ok (.invokestatic 138, 3) := by decide +kernel
theorem dX8_ticket_28 : decode cX8_ticket 28 = .ok (.ifCond .eq 42, 3) := by decide +kernel
theorem dX8_ticket_31 : decode cX8_ticket 31 = .ok (.lload 5, 2) := by decide +kernel
theorem dX8_ticket_33 : decode cX8_ticket 33 = .ok (.ldc2_w 136, 3) := by decide +kernel
theorem dX8_ticket_36 : decode cX8_ticket 36 = .ok (.lcmp, 1) := by decide +kernel
theorem dX8_ticket_37 : decode cX8_ticket 37 = .ok (.ifCond .eq 12, 3) := by decide +kernel
theorem dX8_ticket_40 : decode cX8_ticket 40 = .ok (.iconst 4, 1) := by decide +kernel
theorem dX8_ticket_41 : decode cX8_ticket 41 = .ok (.lload 5, 2) := by decide +kernel
theorem dX8_ticket_43 : decode cX8_ticket 43 = .ok (.invokestatic 138, 3) := by decide +kernel
theorem dX8_ticket_46 : decode cX8_ticket 46 = .ok (.ifCond .eq 24, 3) := by decide +kernel
theorem dX8_ticket_49 : decode cX8_ticket 49 = .ok (.bipush 6, 2) := by decide +kernel
theorem dX8_ticket_51 : decode cX8_ticket 51 = .ok (.lload 7, 2) := by decide +kernel
theorem dX8_ticket_53 : decode cX8_ticket 53 = .ok (.invokestatic 138, 3) := by decide +kernel
theorem dX8_ticket_56 : decode cX8_ticket 56 = .ok (.ifCond .eq 14, 3) := by decide +kernel
theorem dX8_ticket_59 : decode cX8_ticket 59 = .ok (.bipush 7, 2) := by decide +kernel
theorem dX8_ticket_61 : decode cX8_ticket 61 = .ok (.iload 9, 2) := by decide +kernel
theorem dX8_ticket_63 : decode cX8_ticket 63 = .ok (.i2l, 1) := by decide +kernel
theorem dX8_ticket_64 : decode cX8_ticket 64 = .ok (.invokestatic 138, 3) := by decide +kernel
theorem dX8_ticket_67 : decode cX8_ticket 67 = .ok (.ifCond .ne 5, 3) := by decide +kernel
theorem dX8_ticket_70 : decode cX8_ticket 70 = .ok (.iconst (-1), 1) := by decide +kernel
theorem dX8_ticket_71 : decode cX8_ticket 71 = .ok (.ireturn, 1) := by decide +kernel
theorem dX8_ticket_72 : decode cX8_ticket 72 = .ok (.lload 5, 2) := by decide +kernel
theorem dX8_ticket_74 : decode cX8_ticket 74 = .ok (.lconst 0, 1) := by decide +kernel
theorem dX8_ticket_75 : decode cX8_ticket 75 = .ok (.lcmp, 1) := by decide +kernel
theorem dX8_ticket_76 : decode cX8_ticket 76 = .ok (.ifCond .ge 16, 3) := by decide +kernel
theorem dX8_ticket_79 : decode cX8_ticket 79 = .ok (.aload_n 0, 1) := by decide +kernel
theorem dX8_ticket_80 : decode cX8_ticket 80 = .ok (.iload_n 1, 1) := by decide +kernel
theorem dX8_ticket_81 : decode cX8_ticket 81 = .ok (.lload 7, 2) := by decide +kernel
theorem dX8_ticket_83 : decode cX8_ticket 83 = .ok (.invokestatic 104, 3) := by decide +kernel
theorem dX8_ticket_86 : decode cX8_ticket 86 = .ok (.invokevirtual 142, 3) := by decide +kernel
theorem dX8_ticket_89 : decode cX8_ticket 89 = .ok (.goto 5, 3) := by decide +kernel
theorem dX8_ticket_92 : decode cX8_ticket 92 = .ok (.lload 5, 2) := by decide +kernel
theorem dX8_ticket_94 : decode cX8_ticket 94 = .ok (.lstore 10, 2) := by decide +kernel
theorem dX8_ticket_96 : decode cX8_ticket 96 = .ok (.lload 10, 2) := by decide +kernel
theorem dX8_ticket_98 : decode cX8_ticket 98 = .ok (.lconst 0, 1) := by decide +kernel
theorem dX8_ticket_99 : decode cX8_ticket 99 = .ok (.lcmp, 1) := by decide +kernel
theorem dX8_ticket_100 : decode cX8_ticket 100 = .ok (.ifCond .lt 23, 3) := by decide +kernel
theorem dX8_ticket_103 : decode cX8_ticket 103 = .ok (.aload_n 0, 1) := by decide +kernel
theorem dX8_ticket_104 : decode cX8_ticket 104 = .ok (.getfield 98, 3) := by decide +kernel
theorem dX8_ticket_107 : decode cX8_ticket 107 = .ok (.sipush 200, 3) := by decide +kernel
theorem dX8_ticket_110 : decode cX8_ticket 110 = .ok (.if_icmp .eq 13, 3) := by decide +kernel
theorem dX8_ticket_113 : decode cX8_ticket 113 = .ok (.aload_n 0, 1) := by decide +kernel
theorem dX8_ticket_114 : decode cX8_ticket 114 = .ok (.getfield 146, 3) := by decide +kernel
theorem dX8_ticket_117 : decode cX8_ticket 117 = .ok (.sipush 400, 3) := by decide +kernel
theorem dX8_ticket_120 : decode cX8_ticket 120 = .ok (.if_icmp .ne 5, 3) := by decide +kernel
theorem dX8_ticket_123 : decode cX8_ticket 123 = .ok (.iconst (-1), 1) := by decide +kernel
theorem dX8_ticket_124 : decode cX8_ticket 124 = .ok (.ireturn, 1) := by decide +kernel
theorem dX8_ticket_125 : decode cX8_ticket 125 = .ok (.lload_n 3, 1) := by decide +kernel
theorem dX8_ticket_126 : decode cX8_ticket 126 = .ok (.lload 10, 2) := by decide +kernel
theorem dX8_ticket_128 : decode cX8_ticket 128 = .ok (.lcmp, 1) := by decide +kernel
theorem dX8_ticket_129 : decode cX8_ticket 129 = .ok (.ifCond .ge 39, 3) := by decide +kernel
theorem dX8_ticket_132 : decode cX8_ticket 132 = .ok (.aload_n 0, 1) := by decide +kernel
theorem dX8_ticket_133 : decode cX8_ticket 133 = .ok (.getfield 32, 3) := by decide +kernel
theorem dX8_ticket_136 : decode cX8_ticket 136 = .ok (.aload_n 0, 1) := by decide +kernel
theorem dX8_ticket_137 : decode cX8_ticket 137 = .ok (.getfield 149, 3) := by decide +kernel
theorem dX8_ticket_140 : decode cX8_ticket 140 = .ok (.aload_n 0, 1) := by decide +kernel
theorem dX8_ticket_141 : decode cX8_ticket 141 = .ok (.getfield 146, 3) := by decide +kernel
theorem dX8_ticket_144 : decode cX8_ticket 144 = .ok (.iastore, 1) := by decide +kernel
theorem dX8_ticket_145 : decode cX8_ticket 145 = .ok (.aload_n 0, 1) := by decide +kernel
theorem dX8_ticket_146 : decode cX8_ticket 146 = .ok (.dup, 1) := by decide +kernel
theorem dX8_ticket_147 : decode cX8_ticket 147 = .ok (.getfield 149, 3) := by decide +kernel
theorem dX8_ticket_150 : decode cX8_ticket 150 = .ok (.iconst 1, 1) := by decide +kernel
theorem dX8_ticket_151 : decode cX8_ticket 151 = .ok (.iadd, 1) := by decide +kernel
theorem dX8_ticket_152 : decode cX8_ticket 152 = .ok (.putfield 149, 3) := by decide +kernel
theorem dX8_ticket_155 : decode cX8_ticket 155 = .ok (.aload_n 0, 1) := by decide +kernel
theorem dX8_ticket_156 : decode cX8_ticket 156 = .ok (.dup, 1) := by decide +kernel
theorem dX8_ticket_157 : decode cX8_ticket 157 = .ok (.getfield 146, 3) := by decide +kernel
theorem dX8_ticket_160 : decode cX8_ticket 160 = .ok (.iconst 1, 1) := by decide +kernel
theorem dX8_ticket_161 : decode cX8_ticket 161 = .ok (.iadd, 1) := by decide +kernel
theorem dX8_ticket_162 : decode cX8_ticket 162 = .ok (.putfield 146, 3) := by decide +kernel
theorem dX8_ticket_165 : decode cX8_ticket 165 = .ok (.bipush (-2), 2) := by decide +kernel
theorem dX8_ticket_167 : decode cX8_ticket 167 = .ok (.ireturn, 1) := by decide +kernel
theorem dX8_ticket_168 : decode cX8_ticket 168 = .ok (.bipush 9, 2) := by decide +kernel
theorem dX8_ticket_170 : decode cX8_ticket 170 = .ok (.aload_n 0, 1) := by decide +kernel
theorem dX8_ticket_171 : decode cX8_ticket 171 = .ok (.getfield 112, 3) := by decide +kernel
theorem dX8_ticket_174 : decode cX8_ticket 174 = .ok (.imul, 1) := by decide +kernel
theorem dX8_ticket_175 : decode cX8_ticket 175 = .ok (.istore 12, 2) := by decide +kernel
theorem dX8_ticket_177 : decode cX8_ticket 177 = .ok (.aload_n 0, 1) := by decide +kernel
theorem dX8_ticket_178 : decode cX8_ticket 178 = .ok (.getfield 25, 3) := by decide +kernel
theorem dX8_ticket_181 : decode cX8_ticket 181 = .ok (.iload 12, 2) := by decide +kernel
theorem dX8_ticket_183 : decode cX8_ticket 183 = .ok (.aload_n 0, 1) := by decide +kernel
theorem dX8_ticket_184 : decode cX8_ticket 184 = .ok (.getfield 146, 3) := by decide +kernel
theorem dX8_ticket_187 : decode cX8_ticket 187 = .ok (.i2l, 1) := by decide +kernel
theorem dX8_ticket_188 : decode cX8_ticket 188 = .ok (.lastore, 1) := by decide +kernel
theorem dX8_ticket_189 : decode cX8_ticket 189 = .ok (.aload_n 0, 1) := by decide +kernel
theorem dX8_ticket_190 : decode cX8_ticket 190 = .ok (.getfield 25, 3) := by decide +kernel
theorem dX8_ticket_193 : decode cX8_ticket 193 = .ok (.iload 12, 2) := by decide +kernel
theorem dX8_ticket_195 : decode cX8_ticket 195 = .ok (.iconst 1, 1) := by decide +kernel
theorem dX8_ticket_196 : decode cX8_ticket 196 = .ok (.iadd, 1) := by decide +kernel
theorem dX8_ticket_197 : decode cX8_ticket 197 = .ok (.iload_n 1, 1) := by decide +kernel
theorem dX8_ticket_198 : decode cX8_ticket 198 = .ok (.i2l, 1) := by decide +kernel
theorem dX8_ticket_199 : decode cX8_ticket 199 = .ok (.lastore, 1) := by decide +kernel
theorem dX8_ticket_200 : decode cX8_ticket 200 = .ok (.aload_n 0, 1) := by decide +kernel
theorem dX8_ticket_201 : decode cX8_ticket 201 = .ok (.getfield 25, 3) := by decide +kernel
theorem dX8_ticket_204 : decode cX8_ticket 204 = .ok (.iload 12, 2) := by decide +kernel
theorem dX8_ticket_206 : decode cX8_ticket 206 = .ok (.iconst 2, 1) := by decide +kernel
theorem dX8_ticket_207 : decode cX8_ticket 207 = .ok (.iadd, 1) := by decide +kernel
theorem dX8_ticket_208 : decode cX8_ticket 208 = .ok (.iload_n 2, 1) := by decide +kernel
theorem dX8_ticket_209 : decode cX8_ticket 209 = .ok (.i2l, 1) := by decide +kernel
theorem dX8_ticket_210 : decode cX8_ticket 210 = .ok (.lastore, 1) := by decide +kernel
theorem dX8_ticket_211 : decode cX8_ticket 211 = .ok (.aload_n 0, 1) := by decide +kernel
theorem dX8_ticket_212 : decode cX8_ticket 212 = .ok (.getfield 25, 3) := by decide +kernel
theorem dX8_ticket_215 : decode cX8_ticket 215 = .ok (.iload 12, 2) := by decide +kernel
theorem dX8_ticket_217 : decode cX8_ticket 217 = .ok (.iconst 3, 1) := by decide +kernel
theorem dX8_ticket_218 : decode cX8_ticket 218 = .ok (.iadd, 1) := by decide +kernel
theorem dX8_ticket_219 : decode cX8_ticket 219 = .ok (.lload_n 3, 1) := by decide +kernel
theorem dX8_ticket_220 : decode cX8_ticket 220 = .ok (.lastore, 1) := by decide +kernel
theorem dX8_ticket_221 : decode cX8_ticket 221 = .ok (.aload_n 0, 1) := by decide +kernel
theorem dX8_ticket_222 : decode cX8_ticket 222 = .ok (.getfield 25, 3) := by decide +kernel
theorem dX8_ticket_225 : decode cX8_ticket 225 = .ok (.iload 12, 2) := by decide +kernel
theorem dX8_ticket_227 : decode cX8_ticket 227 = .ok (.iconst 4, 1) := by decide +kernel
theorem dX8_ticket_228 : decode cX8_ticket 228 = .ok (.iadd, 1) := by decide +kernel
theorem dX8_ticket_229 : decode cX8_ticket 229 = .ok (.lload 10, 2) := by decide +kernel
theorem dX8_ticket_231 : decode cX8_ticket 231 = .ok (.lastore, 1) := by decide +kernel
theorem dX8_ticket_232 : decode cX8_ticket 232 = .ok (.aload_n 0, 1) := by decide +kernel
theorem dX8_ticket_233 : decode cX8_ticket 233 = .ok (.getfield 25, 3) := by decide +kernel
theorem dX8_ticket_236 : decode cX8_ticket 236 = .ok (.iload 12, 2) := by decide +kernel
theorem dX8_ticket_238 : decode cX8_ticket 238 = .ok (.bipush 6, 2) := by decide +kernel
theorem dX8_ticket_240 : decode cX8_ticket 240 = .ok (.iadd, 1) := by decide +kernel
theorem dX8_ticket_241 : decode cX8_ticket 241 = .ok (.lload 7, 2) := by decide +kernel
theorem dX8_ticket_243 : decode cX8_ticket 243 = .ok (.lastore, 1) := by decide +kernel
theorem dX8_ticket_244 : decode cX8_ticket 244 = .ok (.aload_n 0, 1) := by decide +kernel
theorem dX8_ticket_245 : decode cX8_ticket 245 = .ok (.getfield 25, 3) := by decide +kernel
theorem dX8_ticket_248 : decode cX8_ticket 248 = .ok (.iload 12, 2) := by decide +kernel
theorem dX8_ticket_250 : decode cX8_ticket 250 = .ok (.bipush 7, 2) := by decide +kernel
theorem dX8_ticket_252 : decode cX8_ticket 252 = .ok (.iadd, 1) := by decide +kernel
theorem dX8_ticket_253 : decode cX8_ticket 253 = .ok (.iload 9, 2) := by decide +kernel
theorem dX8_ticket_255 : decode cX8_ticket 255 = .ok (.i2l, 1) := by decide +kernel
theorem dX8_ticket_256 : decode cX8_ticket 256 = .ok (.lastore, 1) := by decide +kernel
theorem dX8_ticket_257 : decode cX8_ticket 257 = .ok (.aload_n 0, 1) := by decide +kernel
theorem dX8_ticket_258 : decode cX8_ticket 258 = .ok (.getfield 25, 3) := by decide +kernel
theorem dX8_ticket_261 : decode cX8_ticket 261 = .ok (.iload 12, 2) := by decide +kernel
theorem dX8_ticket_263 : decode cX8_ticket 263 = .ok (.bipush 8, 2) := by decide +kernel
theorem dX8_ticket_265 : decode cX8_ticket 265 = .ok (.iadd, 1) := by decide +kernel
theorem dX8_ticket_266 : decode cX8_ticket 266 = .ok (.lconst 0, 1) := by decide +kernel
theorem dX8_ticket_267 : decode cX8_ticket 267 = .ok (.lastore, 1) := by decide +kernel
theorem dX8_ticket_268 : decode cX8_ticket 268 = .ok (.aload_n 0, 1) := by decide +kernel
theorem dX8_ticket_269 : decode cX8_ticket 269 = .ok (.dup, 1) := by decide +kernel
theorem dX8_ticket_270 : decode cX8_ticket 270 = .ok (.getfield 146, 3) := by decide +kernel
theorem dX8_ticket_273 : decode cX8_ticket 273 = .ok (.iconst 1, 1) := by decide +kernel
theorem dX8_ticket_274 : decode cX8_ticket 274 = .ok (.iadd, 1) := by decide +kernel
theorem dX8_ticket_275 : decode cX8_ticket 275 = .ok (.putfield 146, 3) := by decide +kernel
theorem dX8_ticket_278 : decode cX8_ticket 278 = .ok (.aload_n 0, 1) := by decide +kernel
theorem dX8_ticket_279 : decode cX8_ticket 279 = .ok (.iconst 1, 1) := by decide +kernel
theorem dX8_ticket_280 : decode cX8_ticket 280 = .ok (.aload_n 0, 1) := by decide +kernel
theorem dX8_ticket_281 : decode cX8_ticket 281 = .ok (.getfield 112, 3) := by decide +kernel
theorem dX8_ticket_284 : decode cX8_ticket 284 = .ok (.invokevirtual 152, 3) := by decide +kernel
theorem dX8_ticket_287 : decode cX8_ticket 287 = .ok (.istore 13, 2) := by decide +kernel
theorem dX8_ticket_289 : decode cX8_ticket 289 = .ok (.aload_n 0, 1) := by decide +kernel
theorem dX8_ticket_290 : decode cX8_ticket 290 = .ok (.iload 13, 2) := by decide +kernel
theorem dX8_ticket_292 : decode cX8_ticket 292 = .ok (.iload_n 1, 1) := by decide +kernel
theorem dX8_ticket_293 : decode cX8_ticket 293 = .ok (.i2l, 1) := by decide +kernel
theorem dX8_ticket_294 : decode cX8_ticket 294 = .ok (.iconst 4, 1) := by decide +kernel
theorem dX8_ticket_295 : decode cX8_ticket 295 = .ok (.invokevirtual 108, 3) := by decide +kernel
theorem dX8_ticket_298 : decode cX8_ticket 298 = .ok (.istore 13, 2) := by decide +kernel
theorem dX8_ticket_300 : decode cX8_ticket 300 = .ok (.aload_n 0, 1) := by decide +kernel
theorem dX8_ticket_301 : decode cX8_ticket 301 = .ok (.iload 13, 2) := by decide +kernel
theorem dX8_ticket_303 : decode cX8_ticket 303 = .ok (.iload_n 2, 1) := by decide +kernel
theorem dX8_ticket_304 : decode cX8_ticket 304 = .ok (.i2l, 1) := by decide +kernel
theorem dX8_ticket_305 : decode cX8_ticket 305 = .ok (.iconst 4, 1) := by decide +kernel
theorem dX8_ticket_306 : decode cX8_ticket 306 = .ok (.invokevirtual 108, 3) := by decide +kernel
theorem dX8_ticket_309 : decode cX8_ticket 309 = .ok (.istore 13, 2) := by decide +kernel
theorem dX8_ticket_311 : decode cX8_ticket 311 = .ok (.aload_n 0, 1) := by decide +kernel
theorem dX8_ticket_312 : decode cX8_ticket 312 = .ok (.iload 13, 2) := by decide +kernel
theorem dX8_ticket_314 : decode cX8_ticket 314 = .ok (.lload_n 3, 1) := by decide +kernel
theorem dX8_ticket_315 : decode cX8_ticket 315 = .ok (.bipush 8, 2) := by decide +kernel
theorem dX8_ticket_317 : decode cX8_ticket 317 = .ok (.invokevirtual 108, 3) := by decide +kernel
theorem dX8_ticket_320 : decode cX8_ticket 320 = .ok (.istore 13, 2) := by decide +kernel
theorem dX8_ticket_322 : decode cX8_ticket 322 = .ok (.aload_n 0, 1) := by decide +kernel
theorem dX8_ticket_323 : decode cX8_ticket 323 = .ok (.iload 13, 2) := by decide +kernel
theorem dX8_ticket_325 : decode cX8_ticket 325 = .ok (.lload 10, 2) := by decide +kernel
theorem dX8_ticket_327 : decode cX8_ticket 327 = .ok (.bipush 8, 2) := by decide +kernel
theorem dX8_ticket_329 : decode cX8_ticket 329 = .ok (.invokevirtual 108, 3) := by decide +kernel
theorem dX8_ticket_332 : decode cX8_ticket 332 = .ok (.istore 13, 2) := by decide +kernel
theorem dX8_ticket_334 : decode cX8_ticket 334 = .ok (.aload_n 0, 1) := by decide +kernel
theorem dX8_ticket_335 : decode cX8_ticket 335 = .ok (.iload 13, 2) := by decide +kernel
theorem dX8_ticket_337 : decode cX8_ticket 337 = .ok (.lload 7, 2) := by decide +kernel
theorem dX8_ticket_339 : decode cX8_ticket 339 = .ok (.bipush 8, 2) := by decide +kernel
theorem dX8_ticket_341 : decode cX8_ticket 341 = .ok (.invokevirtual 108, 3) := by decide +kernel
theorem dX8_ticket_344 : decode cX8_ticket 344 = .ok (.istore 13, 2) := by decide +kernel
theorem dX8_ticket_346 : decode cX8_ticket 346 = .ok (.aload_n 0, 1) := by decide +kernel
theorem dX8_ticket_347 : decode cX8_ticket 347 = .ok (.iload 13, 2) := by decide +kernel
theorem dX8_ticket_349 : decode cX8_ticket 349 = .ok (.iload 9, 2) := by decide +kernel
theorem dX8_ticket_351 : decode cX8_ticket 351 = .ok (.i2l, 1) := by decide +kernel
theorem dX8_ticket_352 : decode cX8_ticket 352 = .ok (.iconst 4, 1) := by decide +kernel
theorem dX8_ticket_353 : decode cX8_ticket 353 = .ok (.invokevirtual 108, 3) := by decide +kernel
theorem dX8_ticket_356 : decode cX8_ticket 356 = .ok (.istore 13, 2) := by decide +kernel
theorem dX8_ticket_358 : decode cX8_ticket 358 = .ok (.aload_n 0, 1) := by decide +kernel
theorem dX8_ticket_359 : decode cX8_ticket 359 = .ok (.aload_n 0, 1) := by decide +kernel
theorem dX8_ticket_360 : decode cX8_ticket 360 = .ok (.getfield 112, 3) := by decide +kernel
theorem dX8_ticket_363 : decode cX8_ticket 363 = .ok (.invokevirtual 155, 3) := by decide +kernel
theorem dX8_ticket_366 : decode cX8_ticket 366 = .ok (.istore 14, 2) := by decide +kernel
theorem dX8_ticket_368 : decode cX8_ticket 368 = .ok (.aload_n 0, 1) := by decide +kernel
theorem dX8_ticket_369 : decode cX8_ticket 369 = .ok (.dup, 1) := by decide +kernel
theorem dX8_ticket_370 : decode cX8_ticket 370 = .ok (.getfield 112, 3) := by decide +kernel
theorem dX8_ticket_373 : decode cX8_ticket 373 = .ok (.iconst 1, 1) := by decide +kernel
theorem dX8_ticket_374 : decode cX8_ticket 374 = .ok (.iadd, 1) := by decide +kernel
theorem dX8_ticket_375 : decode cX8_ticket 375 = .ok (.putfield 112, 3) := by decide +kernel
theorem dX8_ticket_378 : decode cX8_ticket 378 = .ok (.aload_n 0, 1) := by decide +kernel
theorem dX8_ticket_379 : decode cX8_ticket 379 = .ok (.getfield 112, 3) := by decide +kernel
theorem dX8_ticket_382 : decode cX8_ticket 382 = .ok (.iconst 1, 1) := by decide +kernel
theorem dX8_ticket_383 : decode cX8_ticket 383 = .ok (.isub, 1) := by decide +kernel
theorem dX8_ticket_384 : decode cX8_ticket 384 = .ok (.ireturn, 1) := by decide +kernel
theorem dX8_isVoid_0 : decode cX8_isVoid 0 = .ok (.aload_n 0, 1) := by decide +kernel
theorem dX8_isVoid_1 : decode cX8_isVoid 1 = .ok (.getfield 25, 3) := by decide +kernel
theorem dX8_isVoid_4 : decode cX8_isVoid 4 = .ok (.bipush 9, 2) := by decide +kernel
theorem dX8_isVoid_6 : decode cX8_isVoid 6 = .ok (.iload_n 1, 1) := by decide +kernel
theorem dX8_isVoid_7 : decode cX8_isVoid 7 = .ok (.imul, 1) := by decide +kernel
theorem dX8_isVoid_8 : decode cX8_isVoid 8 = .ok (.bipush 8, 2) := by decide +kernel
theorem dX8_isVoid_10 : decode cX8_isVoid 10 = .ok (.iadd, 1) := by decide +kernel
theorem dX8_isVoid_11 : decode cX8_isVoid 11 = .ok (.laload, 1) := by decide +kernel
theorem dX8_isVoid_12 : decode cX8_isVoid 12 = .ok (.lconst 0, 1) := by decide +kernel
theorem dX8_isVoid_13 : decode cX8_isVoid 13 = .ok (.lcmp, 1) := by decide +kernel
theorem dX8_isVoid_14 : decode cX8_isVoid 14 = .ok (.ifCond .eq 7, 3) := by decide +kernel
theorem dX8_isVoid_17 : decode cX8_isVoid 17 = .ok (.iconst 1, 1) := by decide +kernel
theorem dX8_isVoid_18 : decode cX8_isVoid 18 = .ok (.goto 4, 3) := by decide +kernel
theorem dX8_isVoid_21 : decode cX8_isVoid 21 = .ok (.iconst 0, 1) := by decide +kernel
theorem dX8_isVoid_22 : decode cX8_isVoid 22 = .ok (.ireturn, 1) := by decide +kernel
theorem dX8_correct_0 : decode cX8_correct 0 = .ok (.aload_n 0, 1) := by decide +kernel
theorem dX8_correct_1 : decode cX8_correct 1 = .ok (.iload_n 1, 1) := by decide +kernel
theorem dX8_correct_2 : decode cX8_correct 2 = .ok (.invokevirtual 159, 3) := by decide +kernel
theorem dX8_correct_5 : decode cX8_correct 5 = .ok (.ifCond .eq 40, 3) := by decide +kernel
theorem dX8_correct_8 : decode cX8_correct 8 = .ok (.iload_n 2, 1) := by decide +kernel
theorem dX8_correct_9 : decode cX8_correct 9 = .ok (.lload_n 3, 1) := by decide +kernel
theorem dX8_correct_10 : decode cX8_correct 10 = .ok (.invokestatic 138, 3) := by decide +kernel
theorem dX8_correct_13 : decode cX8_correct 13 = .ok (.ifCond .eq 32, 3) := by decide +kernel
theorem dX8_correct_16 : decode cX8_correct 16 = .ok (.bipush 7, 2) := by decide +kernel
theorem dX8_correct_18 : decode cX8_correct 18 = .ok (.iload 5, 2) := by decide +kernel
theorem dX8_correct_20 : decode cX8_correct 20 = .ok (.i2l, 1) := by decide +kernel
theorem dX8_correct_21 : decode cX8_correct 21 = .ok (.invokestatic 138, 3) := by decide +kernel
theorem dX8_correct_24 : decode cX8_correct 24 = .ok (.ifCond .eq 21, 3) := by decide +kernel
theorem dX8_correct_27 : decode cX8_correct 27 = .ok (.aload_n 0, 1) := by decide +kernel
theorem dX8_correct_28 : decode cX8_correct 28 = .ok (.iload_n 1, 1) := by decide +kernel
theorem dX8_correct_29 : decode cX8_correct 29 = .ok (.invokevirtual 163, 3) := by decide +kernel
theorem dX8_correct_32 : decode cX8_correct 32 = .ok (.ifCond .ne 13, 3) := by decide +kernel
theorem dX8_correct_35 : decode cX8_correct 35 = .ok (.aload_n 0, 1) := by decide +kernel
theorem dX8_correct_36 : decode cX8_correct 36 = .ok (.getfield 98, 3) := by decide +kernel
theorem dX8_correct_39 : decode cX8_correct 39 = .ok (.sipush 200, 3) := by decide +kernel
theorem dX8_correct_42 : decode cX8_correct 42 = .ok (.if_icmp .ne 5, 3) := by decide +kernel
theorem dX8_correct_45 : decode cX8_correct 45 = .ok (.iconst (-1), 1) := by decide +kernel
theorem dX8_correct_46 : decode cX8_correct 46 = .ok (.ireturn, 1) := by decide +kernel
theorem dX8_correct_47 : decode cX8_correct 47 = .ok (.iload_n 2, 1) := by decide +kernel
theorem dX8_correct_48 : decode cX8_correct 48 = .ok (.iconst 3, 1) := by decide +kernel
theorem dX8_correct_49 : decode cX8_correct 49 = .ok (.if_icmp .ne 7, 3) := by decide +kernel
theorem dX8_correct_52 : decode cX8_correct 52 = .ok (.lload_n 3, 1) := by decide +kernel
theorem dX8_correct_53 : decode cX8_correct 53 = .ok (.goto 14, 3) := by decide +kernel
theorem dX8_correct_56 : decode cX8_correct 56 = .ok (.aload_n 0, 1) := by decide +kernel
theorem dX8_correct_57 : decode cX8_correct 57 = .ok (.getfield 25, 3) := by decide +kernel
theorem dX8_correct_60 : decode cX8_correct 60 = .ok (.bipush 9, 2) := by decide +kernel
theorem dX8_correct_62 : decode cX8_correct 62 = .ok (.iload_n 1, 1) := by decide +kernel
theorem dX8_correct_63 : decode cX8_correct 63 = .ok (.imul, 1) := by decide +kernel
theorem dX8_correct_64 : decode cX8_correct 64 = .ok (.iconst 3, 1) := by decide +kernel
theorem dX8_correct_65 : decode cX8_correct 65 = .ok (.iadd, 1) := by decide +kernel
theorem dX8_correct_66 : decode cX8_correct 66 = .ok (.laload, 1) := by decide +kernel
theorem dX8_correct_67 : decode cX8_correct 67 = .ok (.lstore 6, 2) := by decide +kernel
theorem dX8_correct_69 : decode cX8_correct 69 = .ok (.iload_n 2, 1) := by decide +kernel
theorem dX8_correct_70 : decode cX8_correct 70 = .ok (.iconst 4, 1) := by decide +kernel
theorem dX8_correct_71 : decode cX8_correct 71 = .ok (.if_icmp .ne 7, 3) := by decide +kernel
theorem dX8_correct_74 : decode cX8_correct 74 = .ok (.lload_n 3, 1) := by decide +kernel
theorem dX8_correct_75 : decode cX8_correct 75 = .ok (.goto 14, 3) := by decide +kernel
theorem dX8_correct_78 : decode cX8_correct 78 = .ok (.aload_n 0, 1) := by decide +kernel
theorem dX8_correct_79 : decode cX8_correct 79 = .ok (.getfield 25, 3) := by decide +kernel
theorem dX8_correct_82 : decode cX8_correct 82 = .ok (.bipush 9, 2) := by decide +kernel
theorem dX8_correct_84 : decode cX8_correct 84 = .ok (.iload_n 1, 1) := by decide +kernel
theorem dX8_correct_85 : decode cX8_correct 85 = .ok (.imul, 1) := by decide +kernel
theorem dX8_correct_86 : decode cX8_correct 86 = .ok (.iconst 4, 1) := by decide +kernel
theorem dX8_correct_87 : decode cX8_correct 87 = .ok (.iadd, 1) := by decide +kernel
theorem dX8_correct_88 : decode cX8_correct 88 = .ok (.laload, 1) := by decide +kernel
theorem dX8_correct_89 : decode cX8_correct 89 = .ok (.lstore 8, 2) := by decide +kernel
theorem dX8_correct_91 : decode cX8_correct 91 = .ok (.lload 6, 2) := by decide +kernel
theorem dX8_correct_93 : decode cX8_correct 93 = .ok (.lload 8, 2) := by decide +kernel
theorem dX8_correct_95 : decode cX8_correct 95 = .ok (.lcmp, 1) := by decide +kernel
theorem dX8_correct_96 : decode cX8_correct 96 = .ok (.ifCond .ge 5, 3) := by decide +kernel
theorem dX8_correct_99 : decode cX8_correct 99 = .ok (.iconst (-1), 1) := by decide +kernel
theorem dX8_correct_100 : decode cX8_correct 100 = .ok (.ireturn, 1) := by decide +kernel
theorem dX8_correct_101 : decode cX8_correct 101 = .ok (.aload_n 0, 1) := by decide +kernel
theorem dX8_correct_102 : decode cX8_correct 102 = .ok (.getfield 25, 3) := by decide +kernel
theorem dX8_correct_105 : decode cX8_correct 105 = .ok (.bipush 9, 2) := by decide +kernel
theorem dX8_correct_107 : decode cX8_correct 107 = .ok (.iload_n 1, 1) := by decide +kernel
theorem dX8_correct_108 : decode cX8_correct 108 = .ok (.imul, 1) := by decide +kernel
theorem dX8_correct_109 : decode cX8_correct 109 = .ok (.iload_n 2, 1) := by decide +kernel
theorem dX8_correct_110 : decode cX8_correct 110 = .ok (.iadd, 1) := by decide +kernel
theorem dX8_correct_111 : decode cX8_correct 111 = .ok (.lload_n 3, 1) := by decide +kernel
theorem dX8_correct_112 : decode cX8_correct 112 = .ok (.lastore, 1) := by decide +kernel
theorem dX8_correct_113 : decode cX8_correct 113 = .ok (.aload_n 0, 1) := by decide +kernel
theorem dX8_correct_114 : decode cX8_correct 114 = .ok (.iconst 2, 1) := by decide +kernel
theorem dX8_correct_115 : decode cX8_correct 115 = .ok (.iload_n 1, 1) := by decide +kernel
theorem dX8_correct_116 : decode cX8_correct 116 = .ok (.invokevirtual 152, 3) := by decide +kernel
theorem dX8_correct_119 : decode cX8_correct 119 = .ok (.istore 10, 2) := by decide +kernel
theorem dX8_correct_121 : decode cX8_correct 121 = .ok (.aload_n 0, 1) := by decide +kernel
theorem dX8_correct_122 : decode cX8_correct 122 = .ok (.iload 10, 2) := by decide +kernel
theorem dX8_correct_124 : decode cX8_correct 124 = .ok (.iload_n 2, 1) := by decide +kernel
theorem dX8_correct_125 : decode cX8_correct 125 = .ok (.i2l, 1) := by decide +kernel
theorem dX8_correct_126 : decode cX8_correct 126 = .ok (.iconst 4, 1) := by decide +kernel
theorem dX8_correct_127 : decode cX8_correct 127 = .ok (.invokevirtual 108, 3) := by decide +kernel
theorem dX8_correct_130 : decode cX8_correct 130 = .ok (.istore 10, 2) := by decide +kernel
theorem dX8_correct_132 : decode cX8_correct 132 = .ok (.aload_n 0, 1) := by decide +kernel
theorem dX8_correct_133 : decode cX8_correct 133 = .ok (.iload 10, 2) := by decide +kernel
theorem dX8_correct_135 : decode cX8_correct 135 = .ok (.lload_n 3, 1) := by decide +kernel
theorem dX8_correct_136 : decode cX8_correct 136 = .ok (.bipush 8, 2) := by decide +kernel
theorem dX8_correct_138 : decode cX8_correct 138 = .ok (.invokevirtual 108, 3) := by decide +kernel
theorem dX8_correct_141 : decode cX8_correct 141 = .ok (.istore 10, 2) := by decide +kernel
theorem dX8_correct_143 : decode cX8_correct 143 = .ok (.aload_n 0, 1) := by decide +kernel
theorem dX8_correct_144 : decode cX8_correct 144 = .ok (.iload 10, 2) := by decide +kernel
theorem dX8_correct_146 : decode cX8_correct 146 = .ok (.iload 5, 2) := by decide +kernel
theorem dX8_correct_148 : decode cX8_correct 148 = .ok (.i2l, 1) := by decide +kernel
theorem dX8_correct_149 : decode cX8_correct 149 = .ok (.iconst 4, 1) := by decide +kernel
theorem dX8_correct_150 : decode cX8_correct 150 = .ok (.invokevirtual 108, 3) := by decide +kernel
theorem dX8_correct_153 : decode cX8_correct 153 = .ok (.istore 10, 2) := by decide +kernel
theorem dX8_correct_155 : decode cX8_correct 155 = .ok (.aload_n 0, 1) := by decide +kernel
theorem dX8_correct_156 : decode cX8_correct 156 = .ok (.iload_n 1, 1) := by decide +kernel
theorem dX8_correct_157 : decode cX8_correct 157 = .ok (.invokevirtual 155, 3) := by decide +kernel
theorem dX8_correct_160 : decode cX8_correct 160 = .ok (.ireturn, 1) := by decide +kernel
theorem dX8_voids_0 : decode cX8_voids 0 = .ok (.aload_n 0, 1) := by decide +kernel
theorem dX8_voids_1 : decode cX8_voids 1 = .ok (.iload_n 1, 1) := by decide +kernel
theorem dX8_voids_2 : decode cX8_voids 2 = .ok (.invokevirtual 159, 3) := by decide +kernel
theorem dX8_voids_5 : decode cX8_voids 5 = .ok (.ifCond .eq 32, 3) := by decide +kernel
theorem dX8_voids_8 : decode cX8_voids 8 = .ok (.iload_n 2, 1) := by decide +kernel
theorem dX8_voids_9 : decode cX8_voids 9 = .ok (.iconst 1, 1) := by decide +kernel
theorem dX8_voids_10 : decode cX8_voids 10 = .ok (.if_icmp .lt 27, 3) := by decide +kernel
theorem dX8_voids_13 : decode cX8_voids 13 = .ok (.iload_n 2, 1) := by decide +kernel
theorem dX8_voids_14 : decode cX8_voids 14 = .ok (.bipush 99, 2) := by decide +kernel
theorem dX8_voids_16 : decode cX8_voids 16 = .ok (.if_icmp .gt 21, 3) := by decide +kernel
theorem dX8_voids_19 : decode cX8_voids 19 = .ok (.aload_n 0, 1) := by decide +kernel
theorem dX8_voids_20 : decode cX8_voids 20 = .ok (.iload_n 1, 1) := by decide +kernel
theorem dX8_voids_21 : decode cX8_voids 21 = .ok (.invokevirtual 163, 3) := by decide +kernel
theorem dX8_voids_24 : decode cX8_voids 24 = .ok (.ifCond .ne 13, 3) := by decide +kernel
theorem dX8_voids_27 : decode cX8_voids 27 = .ok (.aload_n 0, 1) := by decide +kernel
theorem dX8_voids_28 : decode cX8_voids 28 = .ok (.getfield 98, 3) := by decide +kernel
theorem dX8_voids_31 : decode cX8_voids 31 = .ok (.sipush 200, 3) := by decide +kernel
theorem dX8_voids_34 : decode cX8_voids 34 = .ok (.if_icmp .ne 5, 3) := by decide +kernel
theorem dX8_voids_37 : decode cX8_voids 37 = .ok (.iconst (-1), 1) := by decide +kernel
theorem dX8_voids_38 : decode cX8_voids 38 = .ok (.ireturn, 1) := by decide +kernel
theorem dX8_voids_39 : decode cX8_voids 39 = .ok (.aload_n 0, 1) := by decide +kernel
theorem dX8_voids_40 : decode cX8_voids 40 = .ok (.getfield 25, 3) := by decide +kernel
theorem dX8_voids_43 : decode cX8_voids 43 = .ok (.bipush 9, 2) := by decide +kernel
theorem dX8_voids_45 : decode cX8_voids 45 = .ok (.iload_n 1, 1) := by decide +kernel
theorem dX8_voids_46 : decode cX8_voids 46 = .ok (.imul, 1) := by decide +kernel
theorem dX8_voids_47 : decode cX8_voids 47 = .ok (.bipush 8, 2) := by decide +kernel
theorem dX8_voids_49 : decode cX8_voids 49 = .ok (.iadd, 1) := by decide +kernel
theorem dX8_voids_50 : decode cX8_voids 50 = .ok (.iload_n 2, 1) := by decide +kernel
theorem dX8_voids_51 : decode cX8_voids 51 = .ok (.i2l, 1) := by decide +kernel
theorem dX8_voids_52 : decode cX8_voids 52 = .ok (.lastore, 1) := by decide +kernel
theorem dX8_voids_53 : decode cX8_voids 53 = .ok (.aload_n 0, 1) := by decide +kernel
theorem dX8_voids_54 : decode cX8_voids 54 = .ok (.aload_n 0, 1) := by decide +kernel
theorem dX8_voids_55 : decode cX8_voids 55 = .ok (.iconst 3, 1) := by decide +kernel
theorem dX8_voids_56 : decode cX8_voids 56 = .ok (.iload_n 1, 1) := by decide +kernel
theorem dX8_voids_57 : decode cX8_voids 57 = .ok (.invokevirtual 152, 3) := by decide +kernel
theorem dX8_voids_60 : decode cX8_voids 60 = .ok (.iload_n 2, 1) := by decide +kernel
theorem dX8_voids_61 : decode cX8_voids 61 = .ok (.i2l, 1) := by decide +kernel
theorem dX8_voids_62 : decode cX8_voids 62 = .ok (.iconst 4, 1) := by decide +kernel
theorem dX8_voids_63 : decode cX8_voids 63 = .ok (.invokevirtual 108, 3) := by decide +kernel
theorem dX8_voids_66 : decode cX8_voids 66 = .ok (.istore_n 3, 1) := by decide +kernel
theorem dX8_voids_67 : decode cX8_voids 67 = .ok (.aload_n 0, 1) := by decide +kernel
theorem dX8_voids_68 : decode cX8_voids 68 = .ok (.iload_n 1, 1) := by decide +kernel
theorem dX8_voids_69 : decode cX8_voids 69 = .ok (.invokevirtual 155, 3) := by decide +kernel
theorem dX8_voids_72 : decode cX8_voids 72 = .ok (.ireturn, 1) := by decide +kernel
theorem dX8_at_0 : decode cX8_at 0 = .ok (.aload_n 0, 1) := by decide +kernel
theorem dX8_at_1 : decode cX8_at 1 = .ok (.iload_n 1, 1) := by decide +kernel
theorem dX8_at_2 : decode cX8_at 2 = .ok (.invokevirtual 159, 3) := by decide +kernel
theorem dX8_at_5 : decode cX8_at 5 = .ok (.ifCond .eq 13, 3) := by decide +kernel
theorem dX8_at_8 : decode cX8_at 8 = .ok (.iload_n 2, 1) := by decide +kernel
theorem dX8_at_9 : decode cX8_at 9 = .ok (.ifCond .lt 9, 3) := by decide +kernel
theorem dX8_at_12 : decode cX8_at 12 = .ok (.iload_n 2, 1) := by decide +kernel
theorem dX8_at_13 : decode cX8_at 13 = .ok (.bipush 8, 2) := by decide +kernel
theorem dX8_at_15 : decode cX8_at 15 = .ok (.if_icmp .le 7, 3) := by decide +kernel
theorem dX8_at_18 : decode cX8_at 18 = .ok (.ldc2_w 136, 3) := by decide +kernel
theorem dX8_at_21 : decode cX8_at 21 = .ok (.lreturn, 1) := by decide +kernel
theorem dX8_at_22 : decode cX8_at 22 = .ok (.iload_n 2, 1) := by decide +kernel
theorem dX8_at_23 : decode cX8_at 23 = .ok (.iconst 5, 1) := by decide +kernel
theorem dX8_at_24 : decode cX8_at 24 = .ok (.if_icmp .ne 29, 3) := by decide +kernel
theorem dX8_at_27 : decode cX8_at 27 = .ok (.aload_n 0, 1) := by decide +kernel
theorem dX8_at_28 : decode cX8_at 28 = .ok (.getfield 25, 3) := by decide +kernel
theorem dX8_at_31 : decode cX8_at 31 = .ok (.bipush 9, 2) := by decide +kernel
theorem dX8_at_33 : decode cX8_at 33 = .ok (.iload_n 1, 1) := by decide +kernel
theorem dX8_at_34 : decode cX8_at 34 = .ok (.imul, 1) := by decide +kernel
theorem dX8_at_35 : decode cX8_at 35 = .ok (.iconst 3, 1) := by decide +kernel
theorem dX8_at_36 : decode cX8_at 36 = .ok (.iadd, 1) := by decide +kernel
theorem dX8_at_37 : decode cX8_at 37 = .ok (.laload, 1) := by decide +kernel
theorem dX8_at_38 : decode cX8_at 38 = .ok (.aload_n 0, 1) := by decide +kernel
theorem dX8_at_39 : decode cX8_at 39 = .ok (.getfield 25, 3) := by decide +kernel
theorem dX8_at_42 : decode cX8_at 42 = .ok (.bipush 9, 2) := by decide +kernel
theorem dX8_at_44 : decode cX8_at 44 = .ok (.iload_n 1, 1) := by decide +kernel
theorem dX8_at_45 : decode cX8_at 45 = .ok (.imul, 1) := by decide +kernel
theorem dX8_at_46 : decode cX8_at 46 = .ok (.iconst 4, 1) := by decide +kernel
theorem dX8_at_47 : decode cX8_at 47 = .ok (.iadd, 1) := by decide +kernel
theorem dX8_at_48 : decode cX8_at 48 = .ok (.laload, 1) := by decide +kernel
theorem dX8_at_49 : decode cX8_at 49 = .ok (.lsub, 1) := by decide +kernel
theorem dX8_at_50 : decode cX8_at 50 = .ok (.goto 14, 3) := by decide +kernel
theorem dX8_at_53 : decode cX8_at 53 = .ok (.aload_n 0, 1) := by decide +kernel
theorem dX8_at_54 : decode cX8_at 54 = .ok (.getfield 25, 3) := by decide +kernel
theorem dX8_at_57 : decode cX8_at 57 = .ok (.bipush 9, 2) := by decide +kernel
theorem dX8_at_59 : decode cX8_at 59 = .ok (.iload_n 1, 1) := by decide +kernel
theorem dX8_at_60 : decode cX8_at 60 = .ok (.imul, 1) := by decide +kernel
theorem dX8_at_61 : decode cX8_at 61 = .ok (.iload_n 2, 1) := by decide +kernel
theorem dX8_at_62 : decode cX8_at 62 = .ok (.iadd, 1) := by decide +kernel
theorem dX8_at_63 : decode cX8_at 63 = .ok (.laload, 1) := by decide +kernel
theorem dX8_at_64 : decode cX8_at 64 = .ok (.lreturn, 1) := by decide +kernel
theorem dX8_number_0 : decode cX8_number 0 = .ok (.aload_n 0, 1) := by decide +kernel
theorem dX8_number_1 : decode cX8_number 1 = .ok (.iload_n 1, 1) := by decide +kernel
theorem dX8_number_2 : decode cX8_number 2 = .ok (.invokevirtual 159, 3) := by decide +kernel
theorem dX8_number_5 : decode cX8_number 5 = .ok (.ifCond .eq 16, 3) := by decide +kernel
theorem dX8_number_8 : decode cX8_number 8 = .ok (.aload_n 0, 1) := by decide +kernel
theorem dX8_number_9 : decode cX8_number 9 = .ok (.getfield 25, 3) := by decide +kernel
theorem dX8_number_12 : decode cX8_number 12 = .ok (.bipush 9, 2) := by decide +kernel
theorem dX8_number_14 : decode cX8_number 14 = .ok (.iload_n 1, 1) := by decide +kernel
theorem dX8_number_15 : decode cX8_number 15 = .ok (.imul, 1) := by decide +kernel
theorem dX8_number_16 : decode cX8_number 16 = .ok (.laload, 1) := by decide +kernel
theorem dX8_number_17 : decode cX8_number 17 = .ok (.l2i, 1) := by decide +kernel
theorem dX8_number_18 : decode cX8_number 18 = .ok (.goto 4, 3) := by decide +kernel
theorem dX8_number_21 : decode cX8_number 21 = .ok (.iconst (-1), 1) := by decide +kernel
theorem dX8_number_22 : decode cX8_number 22 = .ok (.ireturn, 1) := by decide +kernel
theorem dX8_gap_0 : decode cX8_gap 0 = .ok (.aload_n 0, 1) := by decide +kernel
theorem dX8_gap_1 : decode cX8_gap 1 = .ok (.iconst 0, 1) := by decide +kernel
theorem dX8_gap_2 : decode cX8_gap 2 = .ok (.putfield 67, 3) := by decide +kernel
theorem dX8_gap_5 : decode cX8_gap 5 = .ok (.iload_n 1, 1) := by decide +kernel
theorem dX8_gap_6 : decode cX8_gap 6 = .ok (.ifCond .lt 20, 3) := by decide +kernel
theorem dX8_gap_9 : decode cX8_gap 9 = .ok (.iload_n 1, 1) := by decide +kernel
theorem dX8_gap_10 : decode cX8_gap 10 = .ok (.aload_n 0, 1) := by decide +kernel
theorem dX8_gap_11 : decode cX8_gap 11 = .ok (.getfield 149, 3) := by decide +kernel
theorem dX8_gap_14 : decode cX8_gap 14 = .ok (.if_icmp .ge 12, 3) := by decide +kernel
theorem dX8_gap_17 : decode cX8_gap 17 = .ok (.aload_n 0, 1) := by decide +kernel
theorem dX8_gap_18 : decode cX8_gap 18 = .ok (.getfield 32, 3) := by decide +kernel
theorem dX8_gap_21 : decode cX8_gap 21 = .ok (.iload_n 1, 1) := by decide +kernel
theorem dX8_gap_22 : decode cX8_gap 22 = .ok (.iaload, 1) := by decide +kernel
theorem dX8_gap_23 : decode cX8_gap 23 = .ok (.goto 4, 3) := by decide +kernel
theorem dX8_gap_26 : decode cX8_gap 26 = .ok (.iconst (-1), 1) := by decide +kernel
theorem dX8_gap_27 : decode cX8_gap 27 = .ok (.ireturn, 1) := by decide +kernel
theorem dX8_rows_0 : decode cX8_rows 0 = .ok (.aload_n 0, 1) := by decide +kernel
theorem dX8_rows_1 : decode cX8_rows 1 = .ok (.iconst 0, 1) := by decide +kernel
theorem dX8_rows_2 : decode cX8_rows 2 = .ok (.putfield 67, 3) := by decide +kernel
theorem dX8_rows_5 : decode cX8_rows 5 = .ok (.aload_n 0, 1) := by decide +kernel
theorem dX8_rows_6 : decode cX8_rows 6 = .ok (.getfield 98, 3) := by decide +kernel
theorem dX8_rows_9 : decode cX8_rows 9 = .ok (.ireturn, 1) := by decide +kernel
theorem dX8_made_0 : decode cX8_made 0 = .ok (.aload_n 0, 1) := by decide +kernel
theorem dX8_made_1 : decode cX8_made 1 = .ok (.iconst 0, 1) := by decide +kernel
theorem dX8_made_2 : decode cX8_made 2 = .ok (.putfield 67, 3) := by decide +kernel
theorem dX8_made_5 : decode cX8_made 5 = .ok (.aload_n 0, 1) := by decide +kernel
theorem dX8_made_6 : decode cX8_made 6 = .ok (.getfield 146, 3) := by decide +kernel
theorem dX8_made_9 : decode cX8_made 9 = .ok (.ireturn, 1) := by decide +kernel
theorem dX8_split_0 : decode cX8_split 0 = .ok (.aload_n 0, 1) := by decide +kernel
theorem dX8_split_1 : decode cX8_split 1 = .ok (.iload_n 1, 1) := by decide +kernel
theorem dX8_split_2 : decode cX8_split 2 = .ok (.invokevirtual 159, 3) := by decide +kernel
theorem dX8_split_5 : decode cX8_split 5 = .ok (.ifCond .eq 24, 3) := by decide +kernel
theorem dX8_split_8 : decode cX8_split 8 = .ok (.iload_n 2, 1) := by decide +kernel
theorem dX8_split_9 : decode cX8_split 9 = .ok (.i2l, 1) := by decide +kernel
theorem dX8_split_10 : decode cX8_split 10 = .ok (.ldc2_w 166, 3) := by decide +kernel
theorem dX8_split_13 : decode cX8_split 13 = .ok (.invokestatic 119, 3) := by decide +kernel
theorem dX8_split_16 : decode cX8_split 16 = .ok (.ifCond .eq 13, 3) := by decide +kernel
theorem dX8_split_19 : decode cX8_split 19 = .ok (.lload_n 3, 1) := by decide +kernel
theorem dX8_split_20 : decode cX8_split 20 = .ok (.ldc2_w 168, 3) := by decide +kernel
theorem dX8_split_23 : decode cX8_split 23 = .ok (.invokestatic 119, 3) := by decide +kernel
theorem dX8_split_26 : decode cX8_split 26 = .ok (.ifCond .ne 5, 3) := by decide +kernel
theorem dX8_split_29 : decode cX8_split 29 = .ok (.iconst 0, 1) := by decide +kernel
theorem dX8_split_30 : decode cX8_split 30 = .ok (.ireturn, 1) := by decide +kernel
theorem dX8_split_31 : decode cX8_split 31 = .ok (.aload_n 0, 1) := by decide +kernel
theorem dX8_split_32 : decode cX8_split 32 = .ok (.getfield 29, 3) := by decide +kernel
theorem dX8_split_35 : decode cX8_split 35 = .ok (.bipush 8, 2) := by decide +kernel
theorem dX8_split_37 : decode cX8_split 37 = .ok (.iload_n 1, 1) := by decide +kernel
theorem dX8_split_38 : decode cX8_split 38 = .ok (.imul, 1) := by decide +kernel
theorem dX8_split_39 : decode cX8_split 39 = .ok (.iload_n 2, 1) := by decide +kernel
theorem dX8_split_40 : decode cX8_split 40 = .ok (.iadd, 1) := by decide +kernel
theorem dX8_split_41 : decode cX8_split 41 = .ok (.lload_n 3, 1) := by decide +kernel
theorem dX8_split_42 : decode cX8_split 42 = .ok (.l2i, 1) := by decide +kernel
theorem dX8_split_43 : decode cX8_split 43 = .ok (.iastore, 1) := by decide +kernel
theorem dX8_split_44 : decode cX8_split 44 = .ok (.iconst 1, 1) := by decide +kernel
theorem dX8_split_45 : decode cX8_split 45 = .ok (.ireturn, 1) := by decide +kernel
theorem dX8_share_0 : decode cX8_share 0 = .ok (.aload_n 0, 1) := by decide +kernel
theorem dX8_share_1 : decode cX8_share 1 = .ok (.iload_n 1, 1) := by decide +kernel
theorem dX8_share_2 : decode cX8_share 2 = .ok (.invokevirtual 159, 3) := by decide +kernel
theorem dX8_share_5 : decode cX8_share 5 = .ok (.ifCond .eq 14, 3) := by decide +kernel
theorem dX8_share_8 : decode cX8_share 8 = .ok (.iload_n 2, 1) := by decide +kernel
theorem dX8_share_9 : decode cX8_share 9 = .ok (.i2l, 1) := by decide +kernel
theorem dX8_share_10 : decode cX8_share 10 = .ok (.ldc2_w 166, 3) := by decide +kernel
theorem dX8_share_13 : decode cX8_share 13 = .ok (.invokestatic 119, 3) := by decide +kernel
theorem dX8_share_16 : decode cX8_share 16 = .ok (.ifCond .ne 7, 3) := by decide +kernel
theorem dX8_share_19 : decode cX8_share 19 = .ok (.ldc2_w 136, 3) := by decide +kernel
theorem dX8_share_22 : decode cX8_share 22 = .ok (.lreturn, 1) := by decide +kernel
theorem dX8_share_23 : decode cX8_share 23 = .ok (.lconst 0, 1) := by decide +kernel
theorem dX8_share_24 : decode cX8_share 24 = .ok (.lstore_n 3, 1) := by decide +kernel
theorem dX8_share_25 : decode cX8_share 25 = .ok (.iconst 0, 1) := by decide +kernel
theorem dX8_share_26 : decode cX8_share 26 = .ok (.istore 5, 2) := by decide +kernel
theorem dX8_share_28 : decode cX8_share 28 = .ok (.iload 5, 2) := by decide +kernel
theorem dX8_share_30 : decode cX8_share 30 = .ok (.bipush 8, 2) := by decide +kernel
theorem dX8_share_32 : decode cX8_share 32 = .ok (.if_icmp .ge 25, 3) := by decide +kernel
theorem dX8_share_35 : decode cX8_share 35 = .ok (.lload_n 3, 1) := by decide +kernel
theorem dX8_share_36 : decode cX8_share 36 = .ok (.aload_n 0, 1) := by decide +kernel
theorem dX8_share_37 : decode cX8_share 37 = .ok (.getfield 29, 3) := by decide +kernel
theorem dX8_share_40 : decode cX8_share 40 = .ok (.bipush 8, 2) := by decide +kernel
theorem dX8_share_42 : decode cX8_share 42 = .ok (.iload_n 1, 1) := by decide +kernel
theorem dX8_share_43 : decode cX8_share 43 = .ok (.imul, 1) := by decide +kernel
theorem dX8_share_44 : decode cX8_share 44 = .ok (.iload 5, 2) := by decide +kernel
theorem dX8_share_46 : decode cX8_share 46 = .ok (.iadd, 1) := by decide +kernel
theorem dX8_share_47 : decode cX8_share 47 = .ok (.iaload, 1) := by decide +kernel
theorem dX8_share_48 : decode cX8_share 48 = .ok (.i2l, 1) := by decide +kernel
theorem dX8_share_49 : decode cX8_share 49 = .ok (.ladd, 1) := by decide +kernel
theorem dX8_share_50 : decode cX8_share 50 = .ok (.lstore_n 3, 1) := by decide +kernel
theorem dX8_share_51 : decode cX8_share 51 = .ok (.iinc 5 1, 3) := by decide +kernel
theorem dX8_share_54 : decode cX8_share 54 = .ok (.goto (-26), 3) := by decide +kernel
theorem dX8_share_57 : decode cX8_share 57 = .ok (.lload_n 3, 1) := by decide +kernel
theorem dX8_share_58 : decode cX8_share 58 = .ok (.lconst 0, 1) := by decide +kernel
theorem dX8_share_59 : decode cX8_share 59 = .ok (.lcmp, 1) := by decide +kernel
theorem dX8_share_60 : decode cX8_share 60 = .ok (.ifCond .ne 7, 3) := by decide +kernel
theorem dX8_share_63 : decode cX8_share 63 = .ok (.ldc2_w 136, 3) := by decide +kernel
theorem dX8_share_66 : decode cX8_share 66 = .ok (.lreturn, 1) := by decide +kernel
theorem dX8_share_67 : decode cX8_share 67 = .ok (.aload_n 0, 1) := by decide +kernel
theorem dX8_share_68 : decode cX8_share 68 = .ok (.iload_n 1, 1) := by decide +kernel
theorem dX8_share_69 : decode cX8_share 69 = .ok (.invokevirtual 163, 3) := by decide +kernel
theorem dX8_share_72 : decode cX8_share 72 = .ok (.ifCond .eq 7, 3) := by decide +kernel
theorem dX8_share_75 : decode cX8_share 75 = .ok (.lconst 0, 1) := by decide +kernel
theorem dX8_share_76 : decode cX8_share 76 = .ok (.goto 9, 3) := by decide +kernel
theorem dX8_share_79 : decode cX8_share 79 = .ok (.aload_n 0, 1) := by decide +kernel
theorem dX8_share_80 : decode cX8_share 80 = .ok (.iload_n 1, 1) := by decide +kernel
theorem dX8_share_81 : decode cX8_share 81 = .ok (.iconst 5, 1) := by decide +kernel
theorem dX8_share_82 : decode cX8_share 82 = .ok (.invokevirtual 170, 3) := by decide +kernel
theorem dX8_share_85 : decode cX8_share 85 = .ok (.lstore 5, 2) := by decide +kernel
theorem dX8_share_87 : decode cX8_share 87 = .ok (.lload 5, 2) := by decide +kernel
theorem dX8_share_89 : decode cX8_share 89 = .ok (.lstore 7, 2) := by decide +kernel
theorem dX8_share_91 : decode cX8_share 91 = .ok (.iconst 0, 1) := by decide +kernel
theorem dX8_share_92 : decode cX8_share 92 = .ok (.istore 9, 2) := by decide +kernel
theorem dX8_share_94 : decode cX8_share 94 = .ok (.iload 9, 2) := by decide +kernel
theorem dX8_share_96 : decode cX8_share 96 = .ok (.bipush 8, 2) := by decide +kernel
theorem dX8_share_98 : decode cX8_share 98 = .ok (.if_icmp .ge 32, 3) := by decide +kernel
theorem dX8_share_101 : decode cX8_share 101 = .ok (.lload 7, 2) := by decide +kernel
theorem dX8_share_103 : decode cX8_share 103 = .ok (.lload 5, 2) := by decide +kernel
theorem dX8_share_105 : decode cX8_share 105 = .ok (.aload_n 0, 1) := by decide +kernel
theorem dX8_share_106 : decode cX8_share 106 = .ok (.getfield 29, 3) := by decide +kernel
theorem dX8_share_109 : decode cX8_share 109 = .ok (.bipush 8, 2) := by decide +kernel
theorem dX8_share_111 : decode cX8_share 111 = .ok (.iload_n 1, 1) := by decide +kernel
theorem dX8_share_112 : decode cX8_share 112 = .ok (.imul, 1) := by decide +kernel
theorem dX8_share_113 : decode cX8_share 113 = .ok (.iload 9, 2) := by decide +kernel
theorem dX8_share_115 : decode cX8_share 115 = .ok (.iadd, 1) := by decide +kernel
theorem dX8_share_116 : decode cX8_share 116 = .ok (.iaload, 1) := by decide +kernel
theorem dX8_share_117 : decode cX8_share 117 = .ok (.i2l, 1) := by decide +kernel
theorem dX8_share_118 : decode cX8_share 118 = .ok (.lmul, 1) := by decide +kernel
theorem dX8_share_119 : decode cX8_share 119 = .ok (.lload_n 3, 1) := by decide +kernel
theorem dX8_share_120 : decode cX8_share 120 = .ok (.ldiv, 1) := by decide +kernel
theorem dX8_share_121 : decode cX8_share 121 = .ok (.lsub, 1) := by decide +kernel
theorem dX8_share_122 : decode cX8_share 122 = .ok (.lstore 7, 2) := by decide +kernel
theorem dX8_share_124 : decode cX8_share 124 = .ok (.iinc 9 1, 3) := by decide +kernel
theorem dX8_share_127 : decode cX8_share 127 = .ok (.goto (-33), 3) := by decide +kernel
theorem dX8_share_130 : decode cX8_share 130 = .ok (.lload 5, 2) := by decide +kernel
theorem dX8_share_132 : decode cX8_share 132 = .ok (.aload_n 0, 1) := by decide +kernel
theorem dX8_share_133 : decode cX8_share 133 = .ok (.getfield 29, 3) := by decide +kernel
theorem dX8_share_136 : decode cX8_share 136 = .ok (.bipush 8, 2) := by decide +kernel
theorem dX8_share_138 : decode cX8_share 138 = .ok (.iload_n 1, 1) := by decide +kernel
theorem dX8_share_139 : decode cX8_share 139 = .ok (.imul, 1) := by decide +kernel
theorem dX8_share_140 : decode cX8_share 140 = .ok (.iload_n 2, 1) := by decide +kernel
theorem dX8_share_141 : decode cX8_share 141 = .ok (.iadd, 1) := by decide +kernel
theorem dX8_share_142 : decode cX8_share 142 = .ok (.iaload, 1) := by decide +kernel
theorem dX8_share_143 : decode cX8_share 143 = .ok (.i2l, 1) := by decide +kernel
theorem dX8_share_144 : decode cX8_share 144 = .ok (.lmul, 1) := by decide +kernel
theorem dX8_share_145 : decode cX8_share 145 = .ok (.lload_n 3, 1) := by decide +kernel
theorem dX8_share_146 : decode cX8_share 146 = .ok (.lrem, 1) := by decide +kernel
theorem dX8_share_147 : decode cX8_share 147 = .ok (.lstore 9, 2) := by decide +kernel
theorem dX8_share_149 : decode cX8_share 149 = .ok (.lconst 0, 1) := by decide +kernel
theorem dX8_share_150 : decode cX8_share 150 = .ok (.lstore 11, 2) := by decide +kernel
theorem dX8_share_152 : decode cX8_share 152 = .ok (.iconst 0, 1) := by decide +kernel
theorem dX8_share_153 : decode cX8_share 153 = .ok (.istore 13, 2) := by decide +kernel
theorem dX8_share_155 : decode cX8_share 155 = .ok (.iload 13, 2) := by decide +kernel
theorem dX8_share_157 : decode cX8_share 157 = .ok (.bipush 8, 2) := by decide +kernel
theorem dX8_share_159 : decode cX8_share 159 = .ok (.if_icmp .ge 61, 3) := by decide +kernel
theorem dX8_share_162 : decode cX8_share 162 = .ok (.lload 5, 2) := by decide +kernel
theorem dX8_share_164 : decode cX8_share 164 = .ok (.aload_n 0, 1) := by decide +kernel
theorem dX8_share_165 : decode cX8_share 165 = .ok (.getfield 29, 3) := by decide +kernel
theorem dX8_share_168 : decode cX8_share 168 = .ok (.bipush 8, 2) := by decide +kernel
theorem dX8_share_170 : decode cX8_share 170 = .ok (.iload_n 1, 1) := by decide +kernel
theorem dX8_share_171 : decode cX8_share 171 = .ok (.imul, 1) := by decide +kernel
theorem dX8_share_172 : decode cX8_share 172 = .ok (.iload 13, 2) := by decide +kernel
theorem dX8_share_174 : decode cX8_share 174 = .ok (.iadd, 1) := by decide +kernel
theorem dX8_share_175 : decode cX8_share 175 = .ok (.iaload, 1) := by decide +kernel
theorem dX8_share_176 : decode cX8_share 176 = .ok (.i2l, 1) := by decide +kernel
theorem dX8_share_177 : decode cX8_share 177 = .ok (.lmul, 1) := by decide +kernel
theorem dX8_share_178 : decode cX8_share 178 = .ok (.lload_n 3, 1) := by decide +kernel
theorem dX8_share_179 : decode cX8_share 179 = .ok (.lrem, 1) := by decide +kernel
theorem dX8_share_180 : decode cX8_share 180 = .ok (.lstore 14, 2) := by decide +kernel
theorem dX8_share_182 : decode cX8_share 182 = .ok (.lload 11, 2) := by decide +kernel
theorem dX8_share_184 : decode cX8_share 184 = .ok (.lload 14, 2) := by decide +kernel
theorem dX8_share_186 : decode cX8_share 186 = .ok (.lload 9, 2) := by decide +kernel
theorem dX8_share_188 : decode cX8_share 188 = .ok (.lcmp, 1) := by decide +kernel
theorem dX8_share_189 : decode cX8_share 189 = .ok (.ifCond .gt 17, 3) := by decide +kernel
theorem dX8_share_192 : decode cX8_share 192 = .ok (.lload 14, 2) := by decide +kernel
theorem dX8_share_194 : decode cX8_share 194 = .ok (.lload 9, 2) := by decide +kernel
theorem dX8_share_196 : decode cX8_share 196 = .ok (.lcmp, 1) := by decide +kernel
theorem dX8_share_197 : decode cX8_share 197 = .ok (.ifCond .ne 13, 3) := by decide +kernel
theorem dX8_share_200 : decode cX8_share 200 = .ok (.iload 13, 2) := by decide +kernel
theorem dX8_share_202 : decode cX8_share 202 = .ok (.iload_n 2, 1) := by decide +kernel
theorem dX8_share_203 : decode cX8_share 203 = .ok (.if_icmp .ge 7, 3) := by decide +kernel
theorem dX8_share_206 : decode cX8_share 206 = .ok (.lconst 1, 1) := by decide +kernel
theorem dX8_share_207 : decode cX8_share 207 = .ok (.goto 4, 3) := by decide +kernel
theorem dX8_share_210 : decode cX8_share 210 = .ok (.lconst 0, 1) := by decide +kernel
theorem dX8_share_211 : decode cX8_share 211 = .ok (.ladd, 1) := by decide +kernel
theorem dX8_share_212 : decode cX8_share 212 = .ok (.lstore 11, 2) := by decide +kernel
theorem dX8_share_214 : decode cX8_share 214 = .ok (.iinc 13 1, 3) := by decide +kernel
theorem dX8_share_217 : decode cX8_share 217 = .ok (.goto (-62), 3) := by decide +kernel
theorem dX8_share_220 : decode cX8_share 220 = .ok (.lload 5, 2) := by decide +kernel
theorem dX8_share_222 : decode cX8_share 222 = .ok (.aload_n 0, 1) := by decide +kernel
theorem dX8_share_223 : decode cX8_share 223 = .ok (.getfield 29, 3) := by decide +kernel
theorem dX8_share_226 : decode cX8_share 226 = .ok (.bipush 8, 2) := by decide +kernel
theorem dX8_share_228 : decode cX8_share 228 = .ok (.iload_n 1, 1) := by decide +kernel
theorem dX8_share_229 : decode cX8_share 229 = .ok (.imul, 1) := by decide +kernel
theorem dX8_share_230 : decode cX8_share 230 = .ok (.iload_n 2, 1) := by decide +kernel
theorem dX8_share_231 : decode cX8_share 231 = .ok (.iadd, 1) := by decide +kernel
theorem dX8_share_232 : decode cX8_share 232 = .ok (.iaload, 1) := by decide +kernel
theorem dX8_share_233 : decode cX8_share 233 = .ok (.i2l, 1) := by decide +kernel
theorem dX8_share_234 : decode cX8_share 234 = .ok (.lmul, 1) := by decide +kernel
theorem dX8_share_235 : decode cX8_share 235 = .ok (.lload_n 3, 1) := by decide +kernel
theorem dX8_share_236 : decode cX8_share 236 = .ok (.ldiv, 1) := by decide +kernel
theorem dX8_share_237 : decode cX8_share 237 = .ok (.lload 11, 2) := by decide +kernel
theorem dX8_share_239 : decode cX8_share 239 = .ok (.lload 7, 2) := by decide +kernel
theorem dX8_share_241 : decode cX8_share 241 = .ok (.lcmp, 1) := by decide +kernel
theorem dX8_share_242 : decode cX8_share 242 = .ok (.ifCond .ge 7, 3) := by decide +kernel
theorem dX8_share_245 : decode cX8_share 245 = .ok (.lconst 1, 1) := by decide +kernel
theorem dX8_share_246 : decode cX8_share 246 = .ok (.goto 4, 3) := by decide +kernel
theorem dX8_share_249 : decode cX8_share 249 = .ok (.lconst 0, 1) := by decide +kernel
theorem dX8_share_250 : decode cX8_share 250 = .ok (.ladd, 1) := by decide +kernel
theorem dX8_share_251 : decode cX8_share 251 = .ok (.lreturn, 1) := by decide +kernel
theorem dX8_put_0 : decode cX8_put 0 = .ok (.aload_n 0, 1) := by decide +kernel
theorem dX8_put_1 : decode cX8_put 1 = .ok (.getfield 60, 3) := by decide +kernel
theorem dX8_put_4 : decode cX8_put 4 = .ok (.aload_n 0, 1) := by decide +kernel
theorem dX8_put_5 : decode cX8_put 5 = .ok (.getfield 173, 3) := by decide +kernel
theorem dX8_put_8 : decode cX8_put 8 = .ok (.iload_n 1, 1) := by decide +kernel
theorem dX8_put_9 : decode cX8_put 9 = .ok (.i2b, 1) := by decide +kernel
theorem dX8_put_10 : decode cX8_put 10 = .ok (.bastore, 1) := by decide +kernel
theorem dX8_put_11 : decode cX8_put 11 = .ok (.aload_n 0, 1) := by decide +kernel
theorem dX8_put_12 : decode cX8_put 12 = .ok (.dup, 1) := by decide +kernel
theorem dX8_put_13 : decode cX8_put 13 = .ok (.getfield 173, 3) := by decide +kernel
theorem dX8_put_16 : decode cX8_put 16 = .ok (.iconst 1, 1) := by decide +kernel
theorem dX8_put_17 : decode cX8_put 17 = .ok (.iadd, 1) := by decide +kernel
theorem dX8_put_18 : decode cX8_put 18 = .ok (.putfield 173, 3) := by decide +kernel
theorem dX8_put_21 : decode cX8_put 21 = .ok (.return_, 1) := by decide +kernel
theorem dX8_putNumber_0 : decode cX8_putNumber 0 = .ok (.lconst 1, 1) := by decide +kernel
theorem dX8_putNumber_1 : decode cX8_putNumber 1 = .ok (.lstore_n 3, 1) := by decide +kernel
theorem dX8_putNumber_2 : decode cX8_putNumber 2 = .ok (.lload_n 1, 1) := by decide +kernel
theorem dX8_putNumber_3 : decode cX8_putNumber 3 = .ok (.lload_n 3, 1) := by decide +kernel
theorem dX8_putNumber_4 : decode cX8_putNumber 4 = .ok (.ldiv, 1) := by decide +kernel
theorem dX8_putNumber_5 : decode cX8_putNumber 5 = .ok (.ldc2_w 123, 3) := by decide +kernel
theorem dX8_putNumber_8 : decode cX8_putNumber 8 = .ok (.lcmp, 1) := by decide +kernel
theorem dX8_putNumber_9 : decode cX8_putNumber 9 = .ok (.ifCond .le 12, 3) := by decide +kernel
theorem dX8_putNumber_12 : decode cX8_putNumber 12 = .ok (.lload_n 3, 1) := by decide +kernel
theorem dX8_putNumber_13 : decode cX8_putNumber 13 = .ok (.ldc2_w 176, 3) := by decide +kernel
theorem dX8_putNumber_16 : decode cX8_putNumber 16 = .ok (.lmul, 1) := by decide +kernel
theorem dX8_putNumber_17 : decode cX8_putNumber 17 = .ok (.lstore_n 3, 1) := by decide +kernel
theorem dX8_putNumber_18 : decode cX8_putNumber 18 = .ok (.goto (-16), 3) := by decide +kernel
theorem dX8_putNumber_21 : decode cX8_putNumber 21 = .ok (.lload_n 3, 1) := by decide +kernel
theorem dX8_putNumber_22 : decode cX8_putNumber 22 = .ok (.lconst 0, 1) := by decide +kernel
theorem dX8_putNumber_23 : decode cX8_putNumber 23 = .ok (.lcmp, 1) := by decide +kernel
theorem dX8_putNumber_24 : decode cX8_putNumber 24 = .ok (.ifCond .le 28, 3) := by decide +kernel
theorem dX8_putNumber_27 : decode cX8_putNumber 27 = .ok (.aload_n 0, 1) := by decide +kernel
theorem dX8_putNumber_28 : decode cX8_putNumber 28 = .ok (.ldc2_w 178, 3) := by decide +kernel
theorem dX8_putNumber_31 : decode cX8_putNumber 31 = .ok (.lload_n 1, 1) := by decide +kernel
theorem dX8_putNumber_32 : decode cX8_putNumber 32 = .ok (.lload_n 3, 1) := by decide +kernel
theorem dX8_putNumber_33 : decode cX8_putNumber 33 = .ok (.ldiv, 1) := by decide +kernel
theorem dX8_putNumber_34 : decode cX8_putNumber 34 = .ok (.ldc2_w 176, 3) := by decide +kernel
theorem dX8_putNumber_37 : decode cX8_putNumber 37 = .ok (.lrem, 1) := by decide +kernel
theorem dX8_putNumber_38 : decode cX8_putNumber 38 = .ok (.ladd, 1) := by decide +kernel
theorem dX8_putNumber_39 : decode cX8_putNumber 39 = .ok (.l2i, 1) := by decide +kernel
theorem dX8_putNumber_40 : decode cX8_putNumber 40 = .ok (.invokevirtual 180, 3) := by decide +kernel
theorem dX8_putNumber_43 : decode cX8_putNumber 43 = .ok (.lload_n 3, 1) := by decide +kernel
theorem dX8_putNumber_44 : decode cX8_putNumber 44 = .ok (.ldc2_w 176, 3) := by decide +kernel
theorem dX8_putNumber_47 : decode cX8_putNumber 47 = .ok (.ldiv, 1) := by decide +kernel
theorem dX8_putNumber_48 : decode cX8_putNumber 48 = .ok (.lstore_n 3, 1) := by decide +kernel
theorem dX8_putNumber_49 : decode cX8_putNumber 49 = .ok (.goto (-28), 3) := by decide +kernel
theorem dX8_putNumber_52 : decode cX8_putNumber 52 = .ok (.return_, 1) := by decide +kernel
theorem dX8_print_0 : decode cX8_print 0 = .ok (.aload_n 0, 1) := by decide +kernel
theorem dX8_print_1 : decode cX8_print 1 = .ok (.iload_n 1, 1) := by decide +kernel
theorem dX8_print_2 : decode cX8_print 2 = .ok (.invokevirtual 159, 3) := by decide +kernel
theorem dX8_print_5 : decode cX8_print 5 = .ok (.ifCond .ne 5, 3) := by decide +kernel
theorem dX8_print_8 : decode cX8_print 8 = .ok (.iconst (-1), 1) := by decide +kernel
theorem dX8_print_9 : decode cX8_print 9 = .ok (.ireturn, 1) := by decide +kernel
theorem dX8_print_10 : decode cX8_print 10 = .ok (.aload_n 0, 1) := by decide +kernel
theorem dX8_print_11 : decode cX8_print 11 = .ok (.iconst 0, 1) := by decide +kernel
theorem dX8_print_12 : decode cX8_print 12 = .ok (.putfield 173, 3) := by decide +kernel
theorem dX8_print_15 : decode cX8_print 15 = .ok (.iconst 0, 1) := by decide +kernel
theorem dX8_print_16 : decode cX8_print 16 = .ok (.istore_n 3, 1) := by decide +kernel
theorem dX8_print_17 : decode cX8_print 17 = .ok (.iload_n 3, 1) := by decide +kernel
theorem dX8_print_18 : decode cX8_print 18 = .ok (.bipush 8, 2) := by decide +kernel
theorem dX8_print_20 : decode cX8_print 20 = .ok (.if_icmp .ge 29, 3) := by decide +kernel
theorem dX8_print_23 : decode cX8_print 23 = .ok (.iload_n 3, 1) := by decide +kernel
theorem dX8_print_24 : decode cX8_print 24 = .ok (.ifCond .le 9, 3) := by decide +kernel
theorem dX8_print_27 : decode cX8_print 27 = .ok (.aload_n 0, 1) := by decide +kernel
theorem dX8_print_28 : decode cX8_print 28 = .ok (.bipush 32, 2) := by decide +kernel
theorem dX8_print_30 : decode cX8_print 30 = .ok (.invokevirtual 180, 3) := by decide +kernel
theorem dX8_print_33 : decode cX8_print 33 = .ok (.aload_n 0, 1) := by decide +kernel
theorem dX8_print_34 : decode cX8_print 34 = .ok (.aload_n 0, 1) := by decide +kernel
theorem dX8_print_35 : decode cX8_print 35 = .ok (.iload_n 1, 1) := by decide +kernel
theorem dX8_print_36 : decode cX8_print 36 = .ok (.iload_n 3, 1) := by decide +kernel
theorem dX8_print_37 : decode cX8_print 37 = .ok (.invokevirtual 170, 3) := by decide +kernel
theorem dX8_print_40 : decode cX8_print 40 = .ok (.invokevirtual 183, 3) := by decide +kernel
theorem dX8_print_43 : decode cX8_print 43 = .ok (.iinc 3 1, 3) := by decide +kernel
theorem dX8_print_46 : decode cX8_print 46 = .ok (.goto (-29), 3) := by decide +kernel
theorem dX8_print_49 : decode cX8_print 49 = .ok (.aload_n 0, 1) := by decide +kernel
theorem dX8_print_50 : decode cX8_print 50 = .ok (.iload_n 1, 1) := by decide +kernel
theorem dX8_print_51 : decode cX8_print 51 = .ok (.invokevirtual 163, 3) := by decide +kernel
theorem dX8_print_54 : decode cX8_print 54 = .ok (.ifCond .eq 50, 3) := by decide +kernel
theorem dX8_print_57 : decode cX8_print 57 = .ok (.aload_n 0, 1) := by decide +kernel
theorem dX8_print_58 : decode cX8_print 58 = .ok (.bipush 32, 2) := by decide +kernel
theorem dX8_print_60 : decode cX8_print 60 = .ok (.invokevirtual 180, 3) := by decide +kernel
theorem dX8_print_63 : decode cX8_print 63 = .ok (.aload_n 0, 1) := by decide +kernel
theorem dX8_print_64 : decode cX8_print 64 = .ok (.bipush 86, 2) := by decide +kernel
theorem dX8_print_66 : decode cX8_print 66 = .ok (.invokevirtual 180, 3) := by decide +kernel
theorem dX8_print_69 : decode cX8_print 69 = .ok (.aload_n 0, 1) := by decide +kernel
theorem dX8_print_70 : decode cX8_print 70 = .ok (.bipush 79, 2) := by decide +kernel
theorem dX8_print_72 : decode cX8_print 72 = .ok (.invokevirtual 180, 3) := by decide +kernel
theorem dX8_print_75 : decode cX8_print 75 = .ok (.aload_n 0, 1) := by decide +kernel
theorem dX8_print_76 : decode cX8_print 76 = .ok (.bipush 73, 2) := by decide +kernel
theorem dX8_print_78 : decode cX8_print 78 = .ok (.invokevirtual 180, 3) := by decide +kernel
theorem dX8_print_81 : decode cX8_print 81 = .ok (.aload_n 0, 1) := by decide +kernel
theorem dX8_print_82 : decode cX8_print 82 = .ok (.bipush 68, 2) := by decide +kernel
theorem dX8_print_84 : decode cX8_print 84 = .ok (.invokevirtual 180, 3) := by decide +kernel
theorem dX8_print_87 : decode cX8_print 87 = .ok (.aload_n 0, 1) := by decide +kernel
theorem dX8_print_88 : decode cX8_print 88 = .ok (.bipush 32, 2) := by decide +kernel
theorem dX8_print_90 : decode cX8_print 90 = .ok (.invokevirtual 180, 3) := by decide +kernel
theorem dX8_print_93 : decode cX8_print 93 = .ok (.aload_n 0, 1) := by decide +kernel
theorem dX8_print_94 : decode cX8_print 94 = .ok (.aload_n 0, 1) := by decide +kernel
theorem dX8_print_95 : decode cX8_print 95 = .ok (.iload_n 1, 1) := by decide +kernel
theorem dX8_print_96 : decode cX8_print 96 = .ok (.bipush 8, 2) := by decide +kernel
theorem dX8_print_98 : decode cX8_print 98 = .ok (.invokevirtual 170, 3) := by decide +kernel
theorem dX8_print_101 : decode cX8_print 101 = .ok (.invokevirtual 183, 3) := by decide +kernel
theorem dX8_print_104 : decode cX8_print 104 = .ok (.iload_n 2, 1) := by decide +kernel
theorem dX8_print_105 : decode cX8_print 105 = .ok (.ifCond .lt 20, 3) := by decide +kernel
theorem dX8_print_108 : decode cX8_print 108 = .ok (.iload_n 2, 1) := by decide +kernel
theorem dX8_print_109 : decode cX8_print 109 = .ok (.aload_n 0, 1) := by decide +kernel
theorem dX8_print_110 : decode cX8_print 110 = .ok (.getfield 173, 3) := by decide +kernel
theorem dX8_print_113 : decode cX8_print 113 = .ok (.if_icmp .ge 12, 3) := by decide +kernel
theorem dX8_print_116 : decode cX8_print 116 = .ok (.aload_n 0, 1) := by decide +kernel
theorem dX8_print_117 : decode cX8_print 117 = .ok (.getfield 60, 3) := by decide +kernel
theorem dX8_print_120 : decode cX8_print 120 = .ok (.iload_n 2, 1) := by decide +kernel
theorem dX8_print_121 : decode cX8_print 121 = .ok (.baload, 1) := by decide +kernel
theorem dX8_print_122 : decode cX8_print 122 = .ok (.goto 4, 3) := by decide +kernel
theorem dX8_print_125 : decode cX8_print 125 = .ok (.iconst (-1), 1) := by decide +kernel
theorem dX8_print_126 : decode cX8_print 126 = .ok (.ireturn, 1) := by decide +kernel
theorem dX8_isRow_0 : decode cX8_isRow 0 = .ok (.aload_n 0, 1) := by decide +kernel
theorem dX8_isRow_1 : decode cX8_isRow 1 = .ok (.iconst 0, 1) := by decide +kernel
theorem dX8_isRow_2 : decode cX8_isRow 2 = .ok (.putfield 67, 3) := by decide +kernel
theorem dX8_isRow_5 : decode cX8_isRow 5 = .ok (.iload_n 1, 1) := by decide +kernel
theorem dX8_isRow_6 : decode cX8_isRow 6 = .ok (.ifCond .lt 15, 3) := by decide +kernel
theorem dX8_isRow_9 : decode cX8_isRow 9 = .ok (.iload_n 1, 1) := by decide +kernel
theorem dX8_isRow_10 : decode cX8_isRow 10 = .ok (.aload_n 0, 1) := by decide +kernel
theorem dX8_isRow_11 : decode cX8_isRow 11 = .ok (.getfield 98, 3) := by decide +kernel
theorem dX8_isRow_14 : decode cX8_isRow 14 = .ok (.if_icmp .ge 7, 3) := by decide +kernel
theorem dX8_isRow_17 : decode cX8_isRow 17 = .ok (.iconst 1, 1) := by decide +kernel
theorem dX8_isRow_18 : decode cX8_isRow 18 = .ok (.goto 4, 3) := by decide +kernel
theorem dX8_isRow_21 : decode cX8_isRow 21 = .ok (.iconst 0, 1) := by decide +kernel
theorem dX8_isRow_22 : decode cX8_isRow 22 = .ok (.ireturn, 1) := by decide +kernel
theorem dX8_poke_0 : decode cX8_poke 0 = .ok (.aload_n 0, 1) := by decide +kernel
theorem dX8_poke_1 : decode cX8_poke 1 = .ok (.iload_n 1, 1) := by decide +kernel
theorem dX8_poke_2 : decode cX8_poke 2 = .ok (.invokevirtual 187, 3) := by decide +kernel
theorem dX8_poke_5 : decode cX8_poke 5 = .ok (.ifCond .eq 26, 3) := by decide +kernel
theorem dX8_poke_8 : decode cX8_poke 8 = .ok (.iload_n 2, 1) := by decide +kernel
theorem dX8_poke_9 : decode cX8_poke 9 = .ok (.i2l, 1) := by decide +kernel
theorem dX8_poke_10 : decode cX8_poke 10 = .ok (.ldc2_w 190, 3) := by decide +kernel
theorem dX8_poke_13 : decode cX8_poke 13 = .ok (.invokestatic 119, 3) := by decide +kernel
theorem dX8_poke_16 : decode cX8_poke 16 = .ok (.ifCond .eq 15, 3) := by decide +kernel
theorem dX8_poke_19 : decode cX8_poke 19 = .ok (.iload_n 3, 1) := by decide +kernel
theorem dX8_poke_20 : decode cX8_poke 20 = .ok (.iconst 1, 1) := by decide +kernel
theorem dX8_poke_21 : decode cX8_poke 21 = .ok (.if_icmp .lt 10, 3) := by decide +kernel
theorem dX8_poke_24 : decode cX8_poke 24 = .ok (.iload_n 3, 1) := by decide +kernel
theorem dX8_poke_25 : decode cX8_poke 25 = .ok (.sipush 255, 3) := by decide +kernel
theorem dX8_poke_28 : decode cX8_poke 28 = .ok (.if_icmp .le 5, 3) := by decide +kernel
theorem dX8_poke_31 : decode cX8_poke 31 = .ok (.iconst 0, 1) := by decide +kernel
theorem dX8_poke_32 : decode cX8_poke 32 = .ok (.ireturn, 1) := by decide +kernel
theorem dX8_poke_33 : decode cX8_poke 33 = .ok (.aload_n 0, 1) := by decide +kernel
theorem dX8_poke_34 : decode cX8_poke 34 = .ok (.getfield 35, 3) := by decide +kernel
theorem dX8_poke_37 : decode cX8_poke 37 = .ok (.bipush 73, 2) := by decide +kernel
theorem dX8_poke_39 : decode cX8_poke 39 = .ok (.iload_n 1, 1) := by decide +kernel
theorem dX8_poke_40 : decode cX8_poke 40 = .ok (.imul, 1) := by decide +kernel
theorem dX8_poke_41 : decode cX8_poke 41 = .ok (.iload_n 2, 1) := by decide +kernel
theorem dX8_poke_42 : decode cX8_poke 42 = .ok (.iadd, 1) := by decide +kernel
theorem dX8_poke_43 : decode cX8_poke 43 = .ok (.aload_n 0, 1) := by decide +kernel
theorem dX8_poke_44 : decode cX8_poke 44 = .ok (.getfield 35, 3) := by decide +kernel
theorem dX8_poke_47 : decode cX8_poke 47 = .ok (.bipush 73, 2) := by decide +kernel
theorem dX8_poke_49 : decode cX8_poke 49 = .ok (.iload_n 1, 1) := by decide +kernel
theorem dX8_poke_50 : decode cX8_poke 50 = .ok (.imul, 1) := by decide +kernel
theorem dX8_poke_51 : decode cX8_poke 51 = .ok (.iload_n 2, 1) := by decide +kernel
theorem dX8_poke_52 : decode cX8_poke 52 = .ok (.iadd, 1) := by decide +kernel
theorem dX8_poke_53 : decode cX8_poke 53 = .ok (.baload, 1) := by decide +kernel
theorem dX8_poke_54 : decode cX8_poke 54 = .ok (.iload_n 3, 1) := by decide +kernel
theorem dX8_poke_55 : decode cX8_poke 55 = .ok (.ixor, 1) := by decide +kernel
theorem dX8_poke_56 : decode cX8_poke 56 = .ok (.i2b, 1) := by decide +kernel
theorem dX8_poke_57 : decode cX8_poke 57 = .ok (.bastore, 1) := by decide +kernel
theorem dX8_poke_58 : decode cX8_poke 58 = .ok (.iconst 1, 1) := by decide +kernel
theorem dX8_poke_59 : decode cX8_poke 59 = .ok (.ireturn, 1) := by decide +kernel
theorem dX8_byteAt_0 : decode cX8_byteAt 0 = .ok (.aload_n 0, 1) := by decide +kernel
theorem dX8_byteAt_1 : decode cX8_byteAt 1 = .ok (.aload_n 0, 1) := by decide +kernel
theorem dX8_byteAt_2 : decode cX8_byteAt 2 = .ok (.iload_n 1, 1) := by decide +kernel
theorem dX8_byteAt_3 : decode cX8_byteAt 3 = .ok (.invokevirtual 187, 3) := by decide +kernel
theorem dX8_byteAt_6 : decode cX8_byteAt 6 = .ok (.ifCond .eq 14, 3) := by decide +kernel
theorem dX8_byteAt_9 : decode cX8_byteAt 9 = .ok (.iload_n 2, 1) := by decide +kernel
theorem dX8_byteAt_10 : decode cX8_byteAt 10 = .ok (.i2l, 1) := by decide +kernel
theorem dX8_byteAt_11 : decode cX8_byteAt 11 = .ok (.ldc2_w 190, 3) := by decide +kernel
theorem dX8_byteAt_14 : decode cX8_byteAt 14 = .ok (.invokestatic 119, 3) := by decide +kernel
theorem dX8_byteAt_17 : decode cX8_byteAt 17 = .ok (.ifCond .ne 7, 3) := by decide +kernel
theorem dX8_byteAt_20 : decode cX8_byteAt 20 = .ok (.iconst 1, 1) := by decide +kernel
theorem dX8_byteAt_21 : decode cX8_byteAt 21 = .ok (.goto 4, 3) := by decide +kernel
theorem dX8_byteAt_24 : decode cX8_byteAt 24 = .ok (.iconst 0, 1) := by decide +kernel
theorem dX8_byteAt_25 : decode cX8_byteAt 25 = .ok (.putfield 67, 3) := by decide +kernel
theorem dX8_byteAt_28 : decode cX8_byteAt 28 = .ok (.aload_n 0, 1) := by decide +kernel
theorem dX8_byteAt_29 : decode cX8_byteAt 29 = .ok (.getfield 67, 3) := by decide +kernel
theorem dX8_byteAt_32 : decode cX8_byteAt 32 = .ok (.ifCond .le 7, 3) := by decide +kernel
theorem dX8_byteAt_35 : decode cX8_byteAt 35 = .ok (.iconst 0, 1) := by decide +kernel
theorem dX8_byteAt_36 : decode cX8_byteAt 36 = .ok (.goto 18, 3) := by decide +kernel
theorem dX8_byteAt_39 : decode cX8_byteAt 39 = .ok (.aload_n 0, 1) := by decide +kernel
theorem dX8_byteAt_40 : decode cX8_byteAt 40 = .ok (.getfield 35, 3) := by decide +kernel
theorem dX8_byteAt_43 : decode cX8_byteAt 43 = .ok (.bipush 73, 2) := by decide +kernel
theorem dX8_byteAt_45 : decode cX8_byteAt 45 = .ok (.iload_n 1, 1) := by decide +kernel
theorem dX8_byteAt_46 : decode cX8_byteAt 46 = .ok (.imul, 1) := by decide +kernel
theorem dX8_byteAt_47 : decode cX8_byteAt 47 = .ok (.iload_n 2, 1) := by decide +kernel
theorem dX8_byteAt_48 : decode cX8_byteAt 48 = .ok (.iadd, 1) := by decide +kernel
theorem dX8_byteAt_49 : decode cX8_byteAt 49 = .ok (.baload, 1) := by decide +kernel
theorem dX8_byteAt_50 : decode cX8_byteAt 50 = .ok (.sipush 255, 3) := by decide +kernel
theorem dX8_byteAt_53 : decode cX8_byteAt 53 = .ok (.iand, 1) := by decide +kernel
theorem dX8_byteAt_54 : decode cX8_byteAt 54 = .ok (.ireturn, 1) := by decide +kernel
theorem dX8_digest_0 : decode cX8_digest 0 = .ok (.aload_n 0, 1) := by decide +kernel
theorem dX8_digest_1 : decode cX8_digest 1 = .ok (.iload_n 1, 1) := by decide +kernel
theorem dX8_digest_2 : decode cX8_digest 2 = .ok (.invokevirtual 187, 3) := by decide +kernel
theorem dX8_digest_5 : decode cX8_digest 5 = .ok (.ifCond .eq 35, 3) := by decide +kernel
theorem dX8_digest_8 : decode cX8_digest 8 = .ok (.iload_n 2, 1) := by decide +kernel
theorem dX8_digest_9 : decode cX8_digest 9 = .ok (.i2l, 1) := by decide +kernel
theorem dX8_digest_10 : decode cX8_digest 10 = .ok (.ldc2_w 192, 3) := by decide +kernel
theorem dX8_digest_13 : decode cX8_digest 13 = .ok (.invokestatic 119, 3) := by decide +kernel
theorem dX8_digest_16 : decode cX8_digest 16 = .ok (.ifCond .eq 24, 3) := by decide +kernel
theorem dX8_digest_19 : decode cX8_digest 19 = .ok (.aload_n 0, 1) := by decide +kernel
theorem dX8_digest_20 : decode cX8_digest 20 = .ok (.getfield 35, 3) := by decide +kernel
theorem dX8_digest_23 : decode cX8_digest 23 = .ok (.bipush 73, 2) := by decide +kernel
theorem dX8_digest_25 : decode cX8_digest 25 = .ok (.iload_n 1, 1) := by decide +kernel
theorem dX8_digest_26 : decode cX8_digest 26 = .ok (.imul, 1) := by decide +kernel
theorem dX8_digest_27 : decode cX8_digest 27 = .ok (.bipush 41, 2) := by decide +kernel
theorem dX8_digest_29 : decode cX8_digest 29 = .ok (.iadd, 1) := by decide +kernel
theorem dX8_digest_30 : decode cX8_digest 30 = .ok (.iload_n 2, 1) := by decide +kernel
theorem dX8_digest_31 : decode cX8_digest 31 = .ok (.iadd, 1) := by decide +kernel
theorem dX8_digest_32 : decode cX8_digest 32 = .ok (.baload, 1) := by decide +kernel
theorem dX8_digest_33 : decode cX8_digest 33 = .ok (.sipush 255, 3) := by decide +kernel
theorem dX8_digest_36 : decode cX8_digest 36 = .ok (.iand, 1) := by decide +kernel
theorem dX8_digest_37 : decode cX8_digest 37 = .ok (.goto 4, 3) := by decide +kernel
theorem dX8_digest_40 : decode cX8_digest 40 = .ok (.iconst (-1), 1) := by decide +kernel
theorem dX8_digest_41 : decode cX8_digest 41 = .ok (.ireturn, 1) := by decide +kernel
theorem dX8_check_0 : decode cX8_check 0 = .ok (.aload_n 0, 1) := by decide +kernel
theorem dX8_check_1 : decode cX8_check 1 = .ok (.iconst 0, 1) := by decide +kernel
theorem dX8_check_2 : decode cX8_check 2 = .ok (.putfield 67, 3) := by decide +kernel
theorem dX8_check_5 : decode cX8_check 5 = .ok (.iload_n 1, 1) := by decide +kernel
theorem dX8_check_6 : decode cX8_check 6 = .ok (.ifCond .lt 11, 3) := by decide +kernel
theorem dX8_check_9 : decode cX8_check 9 = .ok (.iload_n 1, 1) := by decide +kernel
theorem dX8_check_10 : decode cX8_check 10 = .ok (.aload_n 0, 1) := by decide +kernel
theorem dX8_check_11 : decode cX8_check 11 = .ok (.getfield 98, 3) := by decide +kernel
theorem dX8_check_14 : decode cX8_check 14 = .ok (.if_icmp .le 5, 3) := by decide +kernel
theorem dX8_check_17 : decode cX8_check 17 = .ok (.iconst (-1), 1) := by decide +kernel
theorem dX8_check_18 : decode cX8_check 18 = .ok (.ireturn, 1) := by decide +kernel
theorem dX8_check_19 : decode cX8_check 19 = .ok (.iload_n 1, 1) := by decide +kernel
theorem dX8_check_20 : decode cX8_check 20 = .ok (.istore_n 2, 1) := by decide +kernel
theorem dX8_check_21 : decode cX8_check 21 = .ok (.iload_n 2, 1) := by decide +kernel
theorem dX8_check_22 : decode cX8_check 22 = .ok (.aload_n 0, 1) := by decide +kernel
theorem dX8_check_23 : decode cX8_check 23 = .ok (.getfield 98, 3) := by decide +kernel
theorem dX8_check_26 : decode cX8_check 26 = .ok (.if_icmp .ge 55, 3) := by decide +kernel
theorem dX8_check_29 : decode cX8_check 29 = .ok (.aload_n 0, 1) := by decide +kernel
theorem dX8_check_30 : decode cX8_check 30 = .ok (.iload_n 2, 1) := by decide +kernel
theorem dX8_check_31 : decode cX8_check 31 = .ok (.invokevirtual 101, 3) := by decide +kernel
theorem dX8_check_34 : decode cX8_check 34 = .ok (.iconst 0, 1) := by decide +kernel
theorem dX8_check_35 : decode cX8_check 35 = .ok (.istore_n 3, 1) := by decide +kernel
theorem dX8_check_36 : decode cX8_check 36 = .ok (.iload_n 3, 1) := by decide +kernel
theorem dX8_check_37 : decode cX8_check 37 = .ok (.bipush 32, 2) := by decide +kernel
theorem dX8_check_39 : decode cX8_check 39 = .ok (.if_icmp .ge 36, 3) := by decide +kernel
theorem dX8_check_42 : decode cX8_check 42 = .ok (.aload_n 0, 1) := by decide +kernel
theorem dX8_check_43 : decode cX8_check 43 = .ok (.getfield 35, 3) := by decide +kernel
theorem dX8_check_46 : decode cX8_check 46 = .ok (.bipush 73, 2) := by decide +kernel
theorem dX8_check_48 : decode cX8_check 48 = .ok (.iload_n 2, 1) := by decide +kernel
theorem dX8_check_49 : decode cX8_check 49 = .ok (.imul, 1) := by decide +kernel
theorem dX8_check_50 : decode cX8_check 50 = .ok (.bipush 41, 2) := by decide +kernel
theorem dX8_check_52 : decode cX8_check 52 = .ok (.iadd, 1) := by decide +kernel
theorem dX8_check_53 : decode cX8_check 53 = .ok (.iload_n 3, 1) := by decide +kernel
theorem dX8_check_54 : decode cX8_check 54 = .ok (.iadd, 1) := by decide +kernel
theorem dX8_check_55 : decode cX8_check 55 = .ok (.baload, 1) := by decide +kernel
theorem dX8_check_56 : decode cX8_check 56 = .ok (.aload_n 0, 1) := by decide +kernel
theorem dX8_check_57 : decode cX8_check 57 = .ok (.getfield 45, 3) := by decide +kernel
theorem dX8_check_60 : decode cX8_check 60 = .ok (.iload_n 3, 1) := by decide +kernel
theorem dX8_check_61 : decode cX8_check 61 = .ok (.baload, 1) := by decide +kernel
theorem dX8_check_62 : decode cX8_check 62 = .ok (.if_icmp .eq 7, 3) := by decide +kernel
theorem dX8_check_65 : decode cX8_check 65 = .ok (.iconst 1, 1) := by decide +kernel
theorem dX8_check_66 : decode cX8_check 66 = .ok (.iload_n 2, 1) := by decide +kernel
theorem dX8_check_67 : decode cX8_check 67 = .ok (.iadd, 1) := by decide +kernel
theorem dX8_check_68 : decode cX8_check 68 = .ok (.ireturn, 1) := by decide +kernel
theorem dX8_check_69 : decode cX8_check 69 = .ok (.iinc 3 1, 3) := by decide +kernel
theorem dX8_check_72 : decode cX8_check 72 = .ok (.goto (-36), 3) := by decide +kernel
theorem dX8_check_75 : decode cX8_check 75 = .ok (.iinc 2 1, 3) := by decide +kernel
theorem dX8_check_78 : decode cX8_check 78 = .ok (.goto (-57), 3) := by decide +kernel
theorem dX8_check_81 : decode cX8_check 81 = .ok (.iconst 0, 1) := by decide +kernel
theorem dX8_check_82 : decode cX8_check 82 = .ok (.ireturn, 1) := by decide +kernel
theorem dX8_root_0 : decode cX8_root 0 = .ok (.aload_n 0, 1) := by decide +kernel
theorem dX8_root_1 : decode cX8_root 1 = .ok (.iconst 0, 1) := by decide +kernel
theorem dX8_root_2 : decode cX8_root 2 = .ok (.putfield 67, 3) := by decide +kernel
theorem dX8_root_5 : decode cX8_root 5 = .ok (.iconst 0, 1) := by decide +kernel
theorem dX8_root_6 : decode cX8_root 6 = .ok (.istore_n 3, 1) := by decide +kernel
theorem dX8_root_7 : decode cX8_root 7 = .ok (.iconst 0, 1) := by decide +kernel
theorem dX8_root_8 : decode cX8_root 8 = .ok (.istore 4, 2) := by decide +kernel
theorem dX8_root_10 : decode cX8_root 10 = .ok (.iload 4, 2) := by decide +kernel
theorem dX8_root_12 : decode cX8_root 12 = .ok (.aload_n 0, 1) := by decide +kernel
theorem dX8_root_13 : decode cX8_root 13 = .ok (.getfield 98, 3) := by decide +kernel
theorem dX8_root_16 : decode cX8_root 16 = .ok (.if_icmp .ge 67, 3) := by decide +kernel
theorem dX8_root_19 : decode cX8_root 19 = .ok (.aload_n 0, 1) := by decide +kernel
theorem dX8_root_20 : decode cX8_root 20 = .ok (.getfield 39, 3) := by decide +kernel
theorem dX8_root_23 : decode cX8_root 23 = .ok (.iload 4, 2) := by decide +kernel
theorem dX8_root_25 : decode cX8_root 25 = .ok (.iaload, 1) := by decide +kernel
theorem dX8_root_26 : decode cX8_root 26 = .ok (.iload_n 1, 1) := by decide +kernel
theorem dX8_root_27 : decode cX8_root 27 = .ok (.if_icmp .ne 50, 3) := by decide +kernel
theorem dX8_root_30 : decode cX8_root 30 = .ok (.iconst 0, 1) := by decide +kernel
theorem dX8_root_31 : decode cX8_root 31 = .ok (.istore 5, 2) := by decide +kernel
theorem dX8_root_33 : decode cX8_root 33 = .ok (.iload 5, 2) := by decide +kernel
theorem dX8_root_35 : decode cX8_root 35 = .ok (.bipush 32, 2) := by decide +kernel
theorem dX8_root_37 : decode cX8_root 37 = .ok (.if_icmp .ge 37, 3) := by decide +kernel
theorem dX8_root_40 : decode cX8_root 40 = .ok (.aload_n 0, 1) := by decide +kernel
theorem dX8_root_41 : decode cX8_root 41 = .ok (.getfield 57, 3) := by decide +kernel
theorem dX8_root_44 : decode cX8_root 44 = .ok (.bipush 32, 2) := by decide +kernel
theorem dX8_root_46 : decode cX8_root 46 = .ok (.iload_n 3, 1) := by decide +kernel
theorem dX8_root_47 : decode cX8_root 47 = .ok (.imul, 1) := by decide +kernel
theorem dX8_root_48 : decode cX8_root 48 = .ok (.iload 5, 2) := by decide +kernel
theorem dX8_root_50 : decode cX8_root 50 = .ok (.iadd, 1) := by decide +kernel
theorem dX8_root_51 : decode cX8_root 51 = .ok (.aload_n 0, 1) := by decide +kernel
theorem dX8_root_52 : decode cX8_root 52 = .ok (.getfield 35, 3) := by decide +kernel
theorem dX8_root_55 : decode cX8_root 55 = .ok (.bipush 73, 2) := by decide +kernel
theorem dX8_root_57 : decode cX8_root 57 = .ok (.iload 4, 2) := by decide +kernel
theorem dX8_root_59 : decode cX8_root 59 = .ok (.imul, 1) := by decide +kernel
theorem dX8_root_60 : decode cX8_root 60 = .ok (.bipush 41, 2) := by decide +kernel
theorem dX8_root_62 : decode cX8_root 62 = .ok (.iadd, 1) := by decide +kernel
theorem dX8_root_63 : decode cX8_root 63 = .ok (.iload 5, 2) := by decide +kernel
theorem dX8_root_65 : decode cX8_root 65 = .ok (.iadd, 1) := by decide +kernel
theorem dX8_root_66 : decode cX8_root 66 = .ok (.baload, 1) := by decide +kernel
theorem dX8_root_67 : decode cX8_root 67 = .ok (.bastore, 1) := by decide +kernel
theorem dX8_root_68 : decode cX8_root 68 = .ok (.iinc 5 1, 3) := by decide +kernel
theorem dX8_root_71 : decode cX8_root 71 = .ok (.goto (-38), 3) := by decide +kernel
theorem dX8_root_74 : decode cX8_root 74 = .ok (.iinc 3 1, 3) := by decide +kernel
theorem dX8_root_77 : decode cX8_root 77 = .ok (.iinc 4 1, 3) := by decide +kernel
theorem dX8_root_80 : decode cX8_root 80 = .ok (.goto (-70), 3) := by decide +kernel
theorem dX8_root_83 : decode cX8_root 83 = .ok (.iload_n 3, 1) := by decide +kernel
theorem dX8_root_84 : decode cX8_root 84 = .ok (.ifCond .eq 14, 3) := by decide +kernel
theorem dX8_root_87 : decode cX8_root 87 = .ok (.iload_n 2, 1) := by decide +kernel
theorem dX8_root_88 : decode cX8_root 88 = .ok (.i2l, 1) := by decide +kernel
theorem dX8_root_89 : decode cX8_root 89 = .ok (.ldc2_w 192, 3) := by decide +kernel
theorem dX8_root_92 : decode cX8_root 92 = .ok (.invokestatic 119, 3) := by decide +kernel
theorem dX8_root_95 : decode cX8_root 95 = .ok (.ifCond .ne 5, 3) := by decide +kernel
theorem dX8_root_98 : decode cX8_root 98 = .ok (.iconst (-1), 1) := by decide +kernel
theorem dX8_root_99 : decode cX8_root 99 = .ok (.ireturn, 1) := by decide +kernel
theorem dX8_root_100 : decode cX8_root 100 = .ok (.iload_n 3, 1) := by decide +kernel
theorem dX8_root_101 : decode cX8_root 101 = .ok (.iconst 1, 1) := by decide +kernel
theorem dX8_root_102 : decode cX8_root 102 = .ok (.if_icmp .le 51, 3) := by decide +kernel
theorem dX8_root_105 : decode cX8_root 105 = .ok (.iconst 0, 1) := by decide +kernel
theorem dX8_root_106 : decode cX8_root 106 = .ok (.istore 4, 2) := by decide +kernel
theorem dX8_root_108 : decode cX8_root 108 = .ok (.iconst 0, 1) := by decide +kernel
theorem dX8_root_109 : decode cX8_root 109 = .ok (.istore 5, 2) := by decide +kernel
theorem dX8_root_111 : decode cX8_root 111 = .ok (.iload 5, 2) := by decide +kernel
theorem dX8_root_113 : decode cX8_root 113 = .ok (.iload_n 3, 1) := by decide +kernel
theorem dX8_root_114 : decode cX8_root 114 = .ok (.if_icmp .ge 33, 3) := by decide +kernel
theorem dX8_root_117 : decode cX8_root 117 = .ok (.aload_n 0, 1) := by decide +kernel
theorem dX8_root_118 : decode cX8_root 118 = .ok (.iload 5, 2) := by decide +kernel
theorem dX8_root_120 : decode cX8_root 120 = .ok (.iload 4, 2) := by decide +kernel
theorem dX8_root_122 : decode cX8_root 122 = .ok (.iload 5, 2) := by decide +kernel
theorem dX8_root_124 : decode cX8_root 124 = .ok (.iconst 1, 1) := by decide +kernel
theorem dX8_root_125 : decode cX8_root 125 = .ok (.iadd, 1) := by decide +kernel
theorem dX8_root_126 : decode cX8_root 126 = .ok (.iload_n 3, 1) := by decide +kernel
theorem dX8_root_127 : decode cX8_root 127 = .ok (.if_icmp .ge 7, 3) := by decide +kernel
theorem dX8_root_130 : decode cX8_root 130 = .ok (.iconst 1, 1) := by decide +kernel
theorem dX8_root_131 : decode cX8_root 131 = .ok (.goto 4, 3) := by decide +kernel
theorem dX8_root_134 : decode cX8_root 134 = .ok (.iconst 0, 1) := by decide +kernel
theorem dX8_root_135 : decode cX8_root 135 = .ok (.invokevirtual 194, 3) := by decide +kernel
theorem dX8_root_138 : decode cX8_root 138 = .ok (.iinc 4 1, 3) := by decide +kernel
theorem dX8_root_141 : decode cX8_root 141 = .ok (.iinc 5 2, 3) := by decide +kernel
theorem dX8_root_144 : decode cX8_root 144 = .ok (.goto (-33), 3) := by decide +kernel
theorem dX8_root_147 : decode cX8_root 147 = .ok (.iload 4, 2) := by decide +kernel
theorem dX8_root_149 : decode cX8_root 149 = .ok (.istore_n 3, 1) := by decide +kernel
theorem dX8_root_150 : decode cX8_root 150 = .ok (.goto (-50), 3) := by decide +kernel
theorem dX8_root_153 : decode cX8_root 153 = .ok (.aload_n 0, 1) := by decide +kernel
theorem dX8_root_154 : decode cX8_root 154 = .ok (.getfield 57, 3) := by decide +kernel
theorem dX8_root_157 : decode cX8_root 157 = .ok (.iload_n 2, 1) := by decide +kernel
theorem dX8_root_158 : decode cX8_root 158 = .ok (.baload, 1) := by decide +kernel
theorem dX8_root_159 : decode cX8_root 159 = .ok (.sipush 255, 3) := by decide +kernel
theorem dX8_root_162 : decode cX8_root 162 = .ok (.iand, 1) := by decide +kernel
theorem dX8_root_163 : decode cX8_root 163 = .ok (.ireturn, 1) := by decide +kernel
theorem dX8_pair_0 : decode cX8_pair 0 = .ok (.iload_n 3, 1) := by decide +kernel
theorem dX8_pair_1 : decode cX8_pair 1 = .ok (.ifCond .ne 44, 3) := by decide +kernel
theorem dX8_pair_4 : decode cX8_pair 4 = .ok (.iconst 0, 1) := by decide +kernel
theorem dX8_pair_5 : decode cX8_pair 5 = .ok (.istore 4, 2) := by decide +kernel
theorem dX8_pair_7 : decode cX8_pair 7 = .ok (.iload 4, 2) := by decide +kernel
theorem dX8_pair_9 : decode cX8_pair 9 = .ok (.bipush 32, 2) := by decide +kernel
theorem dX8_pair_11 : decode cX8_pair 11 = .ok (.if_icmp .ge 33, 3) := by decide +kernel
theorem dX8_pair_14 : decode cX8_pair 14 = .ok (.aload_n 0, 1) := by decide +kernel
theorem dX8_pair_15 : decode cX8_pair 15 = .ok (.getfield 57, 3) := by decide +kernel
theorem dX8_pair_18 : decode cX8_pair 18 = .ok (.bipush 32, 2) := by decide +kernel
theorem dX8_pair_20 : decode cX8_pair 20 = .ok (.iload_n 2, 1) := by decide +kernel
theorem dX8_pair_21 : decode cX8_pair 21 = .ok (.imul, 1) := by decide +kernel
theorem dX8_pair_22 : decode cX8_pair 22 = .ok (.iload 4, 2) := by decide +kernel
theorem dX8_pair_24 : decode cX8_pair 24 = .ok (.iadd, 1) := by decide +kernel
theorem dX8_pair_25 : decode cX8_pair 25 = .ok (.aload_n 0, 1) := by decide +kernel
theorem dX8_pair_26 : decode cX8_pair 26 = .ok (.getfield 57, 3) := by decide +kernel
theorem dX8_pair_29 : decode cX8_pair 29 = .ok (.bipush 32, 2) := by decide +kernel
theorem dX8_pair_31 : decode cX8_pair 31 = .ok (.iload_n 1, 1) := by decide +kernel
theorem dX8_pair_32 : decode cX8_pair 32 = .ok (.imul, 1) := by decide +kernel
theorem dX8_pair_33 : decode cX8_pair 33 = .ok (.iload 4, 2) := by decide +kernel
theorem dX8_pair_35 : decode cX8_pair 35 = .ok (.iadd, 1) := by decide +kernel
theorem dX8_pair_36 : decode cX8_pair 36 = .ok (.baload, 1) := by decide +kernel
theorem dX8_pair_37 : decode cX8_pair 37 = .ok (.bastore, 1) := by decide +kernel
theorem dX8_pair_38 : decode cX8_pair 38 = .ok (.iinc 4 1, 3) := by decide +kernel
theorem dX8_pair_41 : decode cX8_pair 41 = .ok (.goto (-34), 3) := by decide +kernel
theorem dX8_pair_44 : decode cX8_pair 44 = .ok (.return_, 1) := by decide +kernel
theorem dX8_pair_45 : decode cX8_pair 45 = .ok (.aload_n 0, 1) := by decide +kernel
theorem dX8_pair_46 : decode cX8_pair 46 = .ok (.iconst 0, 1) := by decide +kernel
theorem dX8_pair_47 : decode cX8_pair 47 = .ok (.putfield 81, 3) := by decide +kernel
theorem dX8_pair_50 : decode cX8_pair 50 = .ok (.iconst 0, 1) := by decide +kernel
theorem dX8_pair_51 : decode cX8_pair 51 = .ok (.istore 4, 2) := by decide +kernel
theorem dX8_pair_53 : decode cX8_pair 53 = .ok (.iload 4, 2) := by decide +kernel
theorem dX8_pair_55 : decode cX8_pair 55 = .ok (.bipush 64, 2) := by decide +kernel
theorem dX8_pair_57 : decode cX8_pair 57 = .ok (.if_icmp .ge 25, 3) := by decide +kernel
theorem dX8_pair_60 : decode cX8_pair 60 = .ok (.aload_n 0, 1) := by decide +kernel
theorem dX8_pair_61 : decode cX8_pair 61 = .ok (.aload_n 0, 1) := by decide +kernel
theorem dX8_pair_62 : decode cX8_pair 62 = .ok (.getfield 57, 3) := by decide +kernel
theorem dX8_pair_65 : decode cX8_pair 65 = .ok (.bipush 32, 2) := by decide +kernel
theorem dX8_pair_67 : decode cX8_pair 67 = .ok (.iload_n 1, 1) := by decide +kernel
theorem dX8_pair_68 : decode cX8_pair 68 = .ok (.imul, 1) := by decide +kernel
theorem dX8_pair_69 : decode cX8_pair 69 = .ok (.iload 4, 2) := by decide +kernel
theorem dX8_pair_71 : decode cX8_pair 71 = .ok (.iadd, 1) := by decide +kernel
theorem dX8_pair_72 : decode cX8_pair 72 = .ok (.baload, 1) := by decide +kernel
theorem dX8_pair_73 : decode cX8_pair 73 = .ok (.invokevirtual 84, 3) := by decide +kernel
theorem dX8_pair_76 : decode cX8_pair 76 = .ok (.iinc 4 1, 3) := by decide +kernel
theorem dX8_pair_79 : decode cX8_pair 79 = .ok (.goto (-26), 3) := by decide +kernel
theorem dX8_pair_82 : decode cX8_pair 82 = .ok (.aload_n 0, 1) := by decide +kernel
theorem dX8_pair_83 : decode cX8_pair 83 = .ok (.invokevirtual 95, 3) := by decide +kernel
theorem dX8_pair_86 : decode cX8_pair 86 = .ok (.iconst 0, 1) := by decide +kernel
theorem dX8_pair_87 : decode cX8_pair 87 = .ok (.istore 4, 2) := by decide +kernel
theorem dX8_pair_89 : decode cX8_pair 89 = .ok (.iload 4, 2) := by decide +kernel
theorem dX8_pair_91 : decode cX8_pair 91 = .ok (.bipush 32, 2) := by decide +kernel
theorem dX8_pair_93 : decode cX8_pair 93 = .ok (.if_icmp .ge 28, 3) := by decide +kernel
theorem dX8_pair_96 : decode cX8_pair 96 = .ok (.aload_n 0, 1) := by decide +kernel
theorem dX8_pair_97 : decode cX8_pair 97 = .ok (.getfield 57, 3) := by decide +kernel
theorem dX8_pair_100 : decode cX8_pair 100 = .ok (.bipush 32, 2) := by decide +kernel
theorem dX8_pair_102 : decode cX8_pair 102 = .ok (.iload_n 2, 1) := by decide +kernel
theorem dX8_pair_103 : decode cX8_pair 103 = .ok (.imul, 1) := by decide +kernel
theorem dX8_pair_104 : decode cX8_pair 104 = .ok (.iload 4, 2) := by decide +kernel
theorem dX8_pair_106 : decode cX8_pair 106 = .ok (.iadd, 1) := by decide +kernel
theorem dX8_pair_107 : decode cX8_pair 107 = .ok (.aload_n 0, 1) := by decide +kernel
theorem dX8_pair_108 : decode cX8_pair 108 = .ok (.getfield 45, 3) := by decide +kernel
theorem dX8_pair_111 : decode cX8_pair 111 = .ok (.iload 4, 2) := by decide +kernel
theorem dX8_pair_113 : decode cX8_pair 113 = .ok (.baload, 1) := by decide +kernel
theorem dX8_pair_114 : decode cX8_pair 114 = .ok (.bastore, 1) := by decide +kernel
theorem dX8_pair_115 : decode cX8_pair 115 = .ok (.iinc 4 1, 3) := by decide +kernel
theorem dX8_pair_118 : decode cX8_pair 118 = .ok (.goto (-29), 3) := by decide +kernel
theorem dX8_pair_121 : decode cX8_pair 121 = .ok (.return_, 1) := by decide +kernel
end
section
-- decode rows
theorem dL_byteAt_0 : decode cL_byteAt 0 = .ok (.aload_n 3, 1) := by decide +kernel
theorem dL_byteAt_1 : decode cL_byteAt 1 = .ok (.iconst 0, 1) := by decide +kernel
theorem dL_byteAt_2 : decode cL_byteAt 2 = .ok (.aload_n 0, 1) := by decide +kernel
theorem dL_byteAt_3 : decode cL_byteAt 3 = .ok (.iload_n 1, 1) := by decide +kernel
theorem dL_byteAt_4 : decode cL_byteAt 4 = .ok (.iload_n 2, 1) := by decide +kernel
theorem dL_byteAt_5 : decode cL_byteAt 5 = .ok (.invokevirtual 7, 3) := by decide +kernel
theorem dL_byteAt_8 : decode cL_byteAt 8 = .ok (.i2l, 1) := by decide +kernel
theorem dL_byteAt_9 : decode cL_byteAt 9 = .ok (.lastore, 1) := by decide +kernel
theorem dL_byteAt_10 : decode cL_byteAt 10 = .ok (.goto 7, 3) := by decide +kernel
theorem dL_byteAt_13 : decode cL_byteAt 13 = .ok (.astore 4, 2) := by decide +kernel
theorem dL_byteAt_15 : decode cL_byteAt 15 = .ok (.iconst 1, 1) := by decide +kernel
theorem dL_byteAt_16 : decode cL_byteAt 16 = .ok (.ireturn, 1) := by decide +kernel
theorem dL_byteAt_17 : decode cL_byteAt 17 = .ok (.iconst 0, 1) := by decide +kernel
theorem dL_byteAt_18 : decode cL_byteAt 18 = .ok (.ireturn, 1) := by decide +kernel
theorem dL_law_0 : decode cL_law 0 = .ok (.new 8, 3) := by decide +kernel
theorem dL_law_3 : decode cL_law 3 = .ok (.dup, 1) := by decide +kernel
theorem dL_law_4 : decode cL_law 4 = .ok (.invokespecial 15, 3) := by decide +kernel
theorem dL_law_7 : decode cL_law 7 = .ok (.astore_n 1, 1) := by decide +kernel
theorem dL_law_8 : decode cL_law 8 = .ok (.new 16, 3) := by decide +kernel
theorem dL_law_11 : decode cL_law 11 = .ok (.dup, 1) := by decide +kernel
theorem dL_law_12 : decode cL_law 12 = .ok (.invokespecial 18, 3) := by decide +kernel
theorem dL_law_15 : decode cL_law 15 = .ok (.astore_n 2, 1) := by decide +kernel
theorem dL_law_16 : decode cL_law 16 = .ok (.iconst 1, 1) := by decide +kernel
theorem dL_law_17 : decode cL_law 17 = .ok (.newarray .long, 2) := by decide +kernel
theorem dL_law_19 : decode cL_law 19 = .ok (.astore_n 3, 1) := by decide +kernel
theorem dL_law_20 : decode cL_law 20 = .ok (.iconst 0, 1) := by decide +kernel
theorem dL_law_21 : decode cL_law 21 = .ok (.istore 4, 2) := by decide +kernel
theorem dL_law_23 : decode cL_law 23 = .ok (.iload 4, 2) := by decide +kernel
theorem dL_law_25 : decode cL_law 25 = .ok (.aload_n 0, 1) := by decide +kernel
theorem dL_law_26 : decode cL_law 26 = .ok (.arraylength, 1) := by decide +kernel
theorem dL_law_27 : decode cL_law 27 = .ok (.bipush 10, 2) := by decide +kernel
theorem dL_law_29 : decode cL_law 29 = .ok (.isub, 1) := by decide +kernel
theorem dL_law_30 : decode cL_law 30 = .ok (.if_icmp .gt 986, 3) := by decide +kernel
theorem dL_law_33 : decode cL_law 33 = .ok (.aload_n 0, 1) := by decide +kernel
theorem dL_law_34 : decode cL_law 34 = .ok (.iload 4, 2) := by decide +kernel
theorem dL_law_36 : decode cL_law 36 = .ok (.iaload, 1) := by decide +kernel
theorem dL_law_37 : decode cL_law 37 = .ok (.bipush 31, 2) := by decide +kernel
theorem dL_law_39 : decode cL_law 39 = .ok (.iand, 1) := by decide +kernel
theorem dL_law_40 : decode cL_law 40 = .ok (.tableswitch 970 0 16 #[84, 165, 354, 447, 484, 522, 547, 572, 585, 598, 679, 717, 754, 803, 871, 908, 933], 84) := by decide +kernel
theorem dL_law_124 : decode cL_law 124 = .ok (.aload_n 1, 1) := by decide +kernel
theorem dL_law_125 : decode cL_law 125 = .ok (.aload_n 0, 1) := by decide +kernel
theorem dL_law_126 : decode cL_law 126 = .ok (.iload 4, 2) := by decide +kernel
theorem dL_law_128 : decode cL_law 128 = .ok (.iconst 1, 1) := by decide +kernel
theorem dL_law_129 : decode cL_law 129 = .ok (.iadd, 1) := by decide +kernel
theorem dL_law_130 : decode cL_law 130 = .ok (.iaload, 1) := by decide +kernel
theorem dL_law_131 : decode cL_law 131 = .ok (.aload_n 0, 1) := by decide +kernel
theorem dL_law_132 : decode cL_law 132 = .ok (.iload 4, 2) := by decide +kernel
theorem dL_law_134 : decode cL_law 134 = .ok (.iconst 2, 1) := by decide +kernel
theorem dL_law_135 : decode cL_law 135 = .ok (.iadd, 1) := by decide +kernel
theorem dL_law_136 : decode cL_law 136 = .ok (.iaload, 1) := by decide +kernel
theorem dL_law_137 : decode cL_law 137 = .ok (.aload_n 0, 1) := by decide +kernel
theorem dL_law_138 : decode cL_law 138 = .ok (.iload 4, 2) := by decide +kernel
theorem dL_law_140 : decode cL_law 140 = .ok (.iconst 3, 1) := by decide +kernel
theorem dL_law_141 : decode cL_law 141 = .ok (.iadd, 1) := by decide +kernel
theorem dL_law_142 : decode cL_law 142 = .ok (.iaload, 1) := by decide +kernel
theorem dL_law_143 : decode cL_law 143 = .ok (.i2l, 1) := by decide +kernel
theorem dL_law_144 : decode cL_law 144 = .ok (.bipush 32, 2) := by decide +kernel
theorem dL_law_146 : decode cL_law 146 = .ok (.lshl, 1) := by decide +kernel
theorem dL_law_147 : decode cL_law 147 = .ok (.aload_n 0, 1) := by decide +kernel
theorem dL_law_148 : decode cL_law 148 = .ok (.iload 4, 2) := by decide +kernel
theorem dL_law_150 : decode cL_law 150 = .ok (.iconst 4, 1) := by decide +kernel
theorem dL_law_151 : decode cL_law 151 = .ok (.iadd, 1) := by decide +kernel
theorem dL_law_152 : decode cL_law 152 = .ok (.iaload, 1) := by decide +kernel
theorem dL_law_153 : decode cL_law 153 = .ok (.i2l, 1) := by decide +kernel
theorem dL_law_154 : decode cL_law 154 = .ok (.ldc2_w 19, 3) := by decide +kernel
theorem dL_law_157 : decode cL_law 157 = .ok (.land, 1) := by decide +kernel
theorem dL_law_158 : decode cL_law 158 = .ok (.lor, 1) := by decide +kernel
theorem dL_law_159 : decode cL_law 159 = .ok (.invokevirtual 21, 3) := by decide +kernel
theorem dL_law_162 : decode cL_law 162 = .ok (.aload_n 2, 1) := by decide +kernel
theorem dL_law_163 : decode cL_law 163 = .ok (.aload_n 0, 1) := by decide +kernel
theorem dL_law_164 : decode cL_law 164 = .ok (.iload 4, 2) := by decide +kernel
theorem dL_law_166 : decode cL_law 166 = .ok (.iconst 1, 1) := by decide +kernel
theorem dL_law_167 : decode cL_law 167 = .ok (.iadd, 1) := by decide +kernel
theorem dL_law_168 : decode cL_law 168 = .ok (.iaload, 1) := by decide +kernel
theorem dL_law_169 : decode cL_law 169 = .ok (.aload_n 0, 1) := by decide +kernel
theorem dL_law_170 : decode cL_law 170 = .ok (.iload 4, 2) := by decide +kernel
theorem dL_law_172 : decode cL_law 172 = .ok (.iconst 2, 1) := by decide +kernel
theorem dL_law_173 : decode cL_law 173 = .ok (.iadd, 1) := by decide +kernel
theorem dL_law_174 : decode cL_law 174 = .ok (.iaload, 1) := by decide +kernel
theorem dL_law_175 : decode cL_law 175 = .ok (.aload_n 0, 1) := by decide +kernel
theorem dL_law_176 : decode cL_law 176 = .ok (.iload 4, 2) := by decide +kernel
theorem dL_law_178 : decode cL_law 178 = .ok (.iconst 3, 1) := by decide +kernel
theorem dL_law_179 : decode cL_law 179 = .ok (.iadd, 1) := by decide +kernel
theorem dL_law_180 : decode cL_law 180 = .ok (.iaload, 1) := by decide +kernel
theorem dL_law_181 : decode cL_law 181 = .ok (.i2l, 1) := by decide +kernel
theorem dL_law_182 : decode cL_law 182 = .ok (.bipush 32, 2) := by decide +kernel
theorem dL_law_184 : decode cL_law 184 = .ok (.lshl, 1) := by decide +kernel
theorem dL_law_185 : decode cL_law 185 = .ok (.aload_n 0, 1) := by decide +kernel
theorem dL_law_186 : decode cL_law 186 = .ok (.iload 4, 2) := by decide +kernel
theorem dL_law_188 : decode cL_law 188 = .ok (.iconst 4, 1) := by decide +kernel
theorem dL_law_189 : decode cL_law 189 = .ok (.iadd, 1) := by decide +kernel
theorem dL_law_190 : decode cL_law 190 = .ok (.iaload, 1) := by decide +kernel
theorem dL_law_191 : decode cL_law 191 = .ok (.i2l, 1) := by decide +kernel
theorem dL_law_192 : decode cL_law 192 = .ok (.ldc2_w 19, 3) := by decide +kernel
theorem dL_law_195 : decode cL_law 195 = .ok (.land, 1) := by decide +kernel
theorem dL_law_196 : decode cL_law 196 = .ok (.lor, 1) := by decide +kernel
theorem dL_law_197 : decode cL_law 197 = .ok (.invokevirtual 25, 3) := by decide +kernel
theorem dL_law_200 : decode cL_law 200 = .ok (.if_icmp .eq 810, 3) := by decide +kernel
theorem dL_law_203 : decode cL_law 203 = .ok (.iconst 0, 1) := by decide +kernel
theorem dL_law_204 : decode cL_law 204 = .ok (.ireturn, 1) := by decide +kernel
theorem dL_law_205 : decode cL_law 205 = .ok (.aload_n 1, 1) := by decide +kernel
theorem dL_law_206 : decode cL_law 206 = .ok (.aload_n 0, 1) := by decide +kernel
theorem dL_law_207 : decode cL_law 207 = .ok (.iload 4, 2) := by decide +kernel
theorem dL_law_209 : decode cL_law 209 = .ok (.iconst 1, 1) := by decide +kernel
theorem dL_law_210 : decode cL_law 210 = .ok (.iadd, 1) := by decide +kernel
theorem dL_law_211 : decode cL_law 211 = .ok (.iaload, 1) := by decide +kernel
theorem dL_law_212 : decode cL_law 212 = .ok (.aload_n 0, 1) := by decide +kernel
theorem dL_law_213 : decode cL_law 213 = .ok (.iload 4, 2) := by decide +kernel
theorem dL_law_215 : decode cL_law 215 = .ok (.iconst 2, 1) := by decide +kernel
theorem dL_law_216 : decode cL_law 216 = .ok (.iadd, 1) := by decide +kernel
theorem dL_law_217 : decode cL_law 217 = .ok (.iaload, 1) := by decide +kernel
theorem dL_law_218 : decode cL_law 218 = .ok (.aload_n 0, 1) := by decide +kernel
theorem dL_law_219 : decode cL_law 219 = .ok (.iload 4, 2) := by decide +kernel
theorem dL_law_221 : decode cL_law 221 = .ok (.iconst 3, 1) := by decide +kernel
theorem dL_law_222 : decode cL_law 222 = .ok (.iadd, 1) := by decide +kernel
theorem dL_law_223 : decode cL_law 223 = .ok (.iaload, 1) := by decide +kernel
theorem dL_law_224 : decode cL_law 224 = .ok (.i2l, 1) := by decide +kernel
theorem dL_law_225 : decode cL_law 225 = .ok (.bipush 32, 2) := by decide +kernel
theorem dL_law_227 : decode cL_law 227 = .ok (.lshl, 1) := by decide +kernel
theorem dL_law_228 : decode cL_law 228 = .ok (.aload_n 0, 1) := by decide +kernel
theorem dL_law_229 : decode cL_law 229 = .ok (.iload 4, 2) := by decide +kernel
theorem dL_law_231 : decode cL_law 231 = .ok (.iconst 4, 1) := by decide +kernel
theorem dL_law_232 : decode cL_law 232 = .ok (.iadd, 1) := by decide +kernel
theorem dL_law_233 : decode cL_law 233 = .ok (.iaload, 1) := by decide +kernel
theorem dL_law_234 : decode cL_law 234 = .ok (.i2l, 1) := by decide +kernel
theorem dL_law_235 : decode cL_law 235 = .ok (.ldc2_w 19, 3) := by decide +kernel
theorem dL_law_238 : decode cL_law 238 = .ok (.land, 1) := by decide +kernel
theorem dL_law_239 : decode cL_law 239 = .ok (.lor, 1) := by decide +kernel
theorem dL_law_240 : decode cL_law 240 = .ok (.aload_n 0, 1) := by decide +kernel
theorem dL_law_241 : decode cL_law 241 = .ok (.iload 4, 2) := by decide +kernel
theorem dL_law_243 : decode cL_law 243 = .ok (.iconst 5, 1) := by decide +kernel
theorem dL_law_244 : decode cL_law 244 = .ok (.iadd, 1) := by decide +kernel
theorem dL_law_245 : decode cL_law 245 = .ok (.iaload, 1) := by decide +kernel
theorem dL_law_246 : decode cL_law 246 = .ok (.i2l, 1) := by decide +kernel
theorem dL_law_247 : decode cL_law 247 = .ok (.bipush 32, 2) := by decide +kernel
theorem dL_law_249 : decode cL_law 249 = .ok (.lshl, 1) := by decide +kernel
theorem dL_law_250 : decode cL_law 250 = .ok (.aload_n 0, 1) := by decide +kernel
theorem dL_law_251 : decode cL_law 251 = .ok (.iload 4, 2) := by decide +kernel
theorem dL_law_253 : decode cL_law 253 = .ok (.bipush 6, 2) := by decide +kernel
theorem dL_law_255 : decode cL_law 255 = .ok (.iadd, 1) := by decide +kernel
theorem dL_law_256 : decode cL_law 256 = .ok (.iaload, 1) := by decide +kernel
theorem dL_law_257 : decode cL_law 257 = .ok (.i2l, 1) := by decide +kernel
theorem dL_law_258 : decode cL_law 258 = .ok (.ldc2_w 19, 3) := by decide +kernel
theorem dL_law_261 : decode cL_law 261 = .ok (.land, 1) := by decide +kernel
theorem dL_law_262 : decode cL_law 262 = .ok (.lor, 1) := by decide +kernel
theorem dL_law_263 : decode cL_law 263 = .ok (.aload_n 0, 1) := by decide +kernel
theorem dL_law_264 : decode cL_law 264 = .ok (.iload 4, 2) := by decide +kernel
theorem dL_law_266 : decode cL_law 266 = .ok (.bipush 7, 2) := by decide +kernel
theorem dL_law_268 : decode cL_law 268 = .ok (.iadd, 1) := by decide +kernel
theorem dL_law_269 : decode cL_law 269 = .ok (.iaload, 1) := by decide +kernel
theorem dL_law_270 : decode cL_law 270 = .ok (.i2l, 1) := by decide +kernel
theorem dL_law_271 : decode cL_law 271 = .ok (.bipush 32, 2) := by decide +kernel
theorem dL_law_273 : decode cL_law 273 = .ok (.lshl, 1) := by decide +kernel
theorem dL_law_274 : decode cL_law 274 = .ok (.aload_n 0, 1) := by decide +kernel
theorem dL_law_275 : decode cL_law 275 = .ok (.iload 4, 2) := by decide +kernel
theorem dL_law_277 : decode cL_law 277 = .ok (.bipush 8, 2) := by decide +kernel
theorem dL_law_279 : decode cL_law 279 = .ok (.iadd, 1) := by decide +kernel
theorem dL_law_280 : decode cL_law 280 = .ok (.iaload, 1) := by decide +kernel
theorem dL_law_281 : decode cL_law 281 = .ok (.i2l, 1) := by decide +kernel
theorem dL_law_282 : decode cL_law 282 = .ok (.ldc2_w 19, 3) := by decide +kernel
theorem dL_law_285 : decode cL_law 285 = .ok (.land, 1) := by decide +kernel
theorem dL_law_286 : decode cL_law 286 = .ok (.lor, 1) := by decide +kernel
theorem dL_law_287 : decode cL_law 287 = .ok (.aload_n 0, 1) := by decide +kernel
theorem dL_law_288 : decode cL_law 288 = .ok (.iload 4, 2) := by decide +kernel
theorem dL_law_290 : decode cL_law 290 = .ok (.bipush 9, 2) := by decide +kernel
theorem dL_law_292 : decode cL_law 292 = .ok (.iadd, 1) := by decide +kernel
theorem dL_law_293 : decode cL_law 293 = .ok (.iaload, 1) := by decide +kernel
theorem dL_law_294 : decode cL_law 294 = .ok (.invokevirtual 26, 3) := by decide +kernel
theorem dL_law_297 : decode cL_law 297 = .ok (.aload_n 2, 1) := by decide +kernel
theorem dL_law_298 : decode cL_law 298 = .ok (.aload_n 0, 1) := by decide +kernel
theorem dL_law_299 : decode cL_law 299 = .ok (.iload 4, 2) := by decide +kernel
theorem dL_law_301 : decode cL_law 301 = .ok (.iconst 1, 1) := by decide +kernel
theorem dL_law_302 : decode cL_law 302 = .ok (.iadd, 1) := by decide +kernel
theorem dL_law_303 : decode cL_law 303 = .ok (.iaload, 1) := by decide +kernel
theorem dL_law_304 : decode cL_law 304 = .ok (.aload_n 0, 1) := by decide +kernel
theorem dL_law_305 : decode cL_law 305 = .ok (.iload 4, 2) := by decide +kernel
theorem dL_law_307 : decode cL_law 307 = .ok (.iconst 2, 1) := by decide +kernel
theorem dL_law_308 : decode cL_law 308 = .ok (.iadd, 1) := by decide +kernel
theorem dL_law_309 : decode cL_law 309 = .ok (.iaload, 1) := by decide +kernel
theorem dL_law_310 : decode cL_law 310 = .ok (.aload_n 0, 1) := by decide +kernel
theorem dL_law_311 : decode cL_law 311 = .ok (.iload 4, 2) := by decide +kernel
theorem dL_law_313 : decode cL_law 313 = .ok (.iconst 3, 1) := by decide +kernel
theorem dL_law_314 : decode cL_law 314 = .ok (.iadd, 1) := by decide +kernel
theorem dL_law_315 : decode cL_law 315 = .ok (.iaload, 1) := by decide +kernel
theorem dL_law_316 : decode cL_law 316 = .ok (.i2l, 1) := by decide +kernel
theorem dL_law_317 : decode cL_law 317 = .ok (.bipush 32, 2) := by decide +kernel
theorem dL_law_319 : decode cL_law 319 = .ok (.lshl, 1) := by decide +kernel
theorem dL_law_320 : decode cL_law 320 = .ok (.aload_n 0, 1) := by decide +kernel
theorem dL_law_321 : decode cL_law 321 = .ok (.iload 4, 2) := by decide +kernel
theorem dL_law_323 : decode cL_law 323 = .ok (.iconst 4, 1) := by decide +kernel
theorem dL_law_324 : decode cL_law 324 = .ok (.iadd, 1) := by decide +kernel
theorem dL_law_325 : decode cL_law 325 = .ok (.iaload, 1) := by decide +kernel
theorem dL_law_326 : decode cL_law 326 = .ok (.i2l, 1) := by decide +kernel
theorem dL_law_327 : decode cL_law 327 = .ok (.ldc2_w 19, 3) := by decide +kernel
theorem dL_law_330 : decode cL_law 330 = .ok (.land, 1) := by decide +kernel
theorem dL_law_331 : decode cL_law 331 = .ok (.lor, 1) := by decide +kernel
theorem dL_law_332 : decode cL_law 332 = .ok (.aload_n 0, 1) := by decide +kernel
theorem dL_law_333 : decode cL_law 333 = .ok (.iload 4, 2) := by decide +kernel
theorem dL_law_335 : decode cL_law 335 = .ok (.iconst 5, 1) := by decide +kernel
theorem dL_law_336 : decode cL_law 336 = .ok (.iadd, 1) := by decide +kernel
theorem dL_law_337 : decode cL_law 337 = .ok (.iaload, 1) := by decide +kernel
theorem dL_law_338 : decode cL_law 338 = .ok (.i2l, 1) := by decide +kernel
theorem dL_law_339 : decode cL_law 339 = .ok (.bipush 32, 2) := by decide +kernel
theorem dL_law_341 : decode cL_law 341 = .ok (.lshl, 1) := by decide +kernel
theorem dL_law_342 : decode cL_law 342 = .ok (.aload_n 0, 1) := by decide +kernel
theorem dL_law_343 : decode cL_law 343 = .ok (.iload 4, 2) := by decide +kernel
theorem dL_law_345 : decode cL_law 345 = .ok (.bipush 6, 2) := by decide +kernel
theorem dL_law_347 : decode cL_law 347 = .ok (.iadd, 1) := by decide +kernel
theorem dL_law_348 : decode cL_law 348 = .ok (.iaload, 1) := by decide +kernel
theorem dL_law_349 : decode cL_law 349 = .ok (.i2l, 1) := by decide +kernel
theorem dL_law_350 : decode cL_law 350 = .ok (.ldc2_w 19, 3) := by decide +kernel
theorem dL_law_353 : decode cL_law 353 = .ok (.land, 1) := by decide +kernel
theorem dL_law_354 : decode cL_law 354 = .ok (.lor, 1) := by decide +kernel
theorem dL_law_355 : decode cL_law 355 = .ok (.aload_n 0, 1) := by decide +kernel
theorem dL_law_356 : decode cL_law 356 = .ok (.iload 4, 2) := by decide +kernel
theorem dL_law_358 : decode cL_law 358 = .ok (.bipush 7, 2) := by decide +kernel
theorem dL_law_360 : decode cL_law 360 = .ok (.iadd, 1) := by decide +kernel
theorem dL_law_361 : decode cL_law 361 = .ok (.iaload, 1) := by decide +kernel
theorem dL_law_362 : decode cL_law 362 = .ok (.i2l, 1) := by decide +kernel
theorem dL_law_363 : decode cL_law 363 = .ok (.bipush 32, 2) := by decide +kernel
theorem dL_law_365 : decode cL_law 365 = .ok (.lshl, 1) := by decide +kernel
theorem dL_law_366 : decode cL_law 366 = .ok (.aload_n 0, 1) := by decide +kernel
theorem dL_law_367 : decode cL_law 367 = .ok (.iload 4, 2) := by decide +kernel
theorem dL_law_369 : decode cL_law 369 = .ok (.bipush 8, 2) := by decide +kernel
theorem dL_law_371 : decode cL_law 371 = .ok (.iadd, 1) := by decide +kernel
theorem dL_law_372 : decode cL_law 372 = .ok (.iaload, 1) := by decide +kernel
theorem dL_law_373 : decode cL_law 373 = .ok (.i2l, 1) := by decide +kernel
theorem dL_law_374 : decode cL_law 374 = .ok (.ldc2_w 19, 3) := by decide +kernel
theorem dL_law_377 : decode cL_law 377 = .ok (.land, 1) := by decide +kernel
theorem dL_law_378 : decode cL_law 378 = .ok (.lor, 1) := by decide +kernel
theorem dL_law_379 : decode cL_law 379 = .ok (.aload_n 0, 1) := by decide +kernel
theorem dL_law_380 : decode cL_law 380 = .ok (.iload 4, 2) := by decide +kernel
theorem dL_law_382 : decode cL_law 382 = .ok (.bipush 9, 2) := by decide +kernel
theorem dL_law_384 : decode cL_law 384 = .ok (.iadd, 1) := by decide +kernel
theorem dL_law_385 : decode cL_law 385 = .ok (.iaload, 1) := by decide +kernel
theorem dL_law_386 : decode cL_law 386 = .ok (.invokevirtual 30, 3) := by decide +kernel
theorem dL_law_389 : decode cL_law 389 = .ok (.if_icmp .eq 621, 3) := by decide +kernel
theorem dL_law_392 : decode cL_law 392 = .ok (.iconst 0, 1) := by decide +kernel
theorem dL_law_393 : decode cL_law 393 = .ok (.ireturn, 1) := by decide +kernel
theorem dL_law_394 : decode cL_law 394 = .ok (.aload_n 1, 1) := by decide +kernel
theorem dL_law_395 : decode cL_law 395 = .ok (.aload_n 0, 1) := by decide +kernel
theorem dL_law_396 : decode cL_law 396 = .ok (.iload 4, 2) := by decide +kernel
theorem dL_law_398 : decode cL_law 398 = .ok (.iconst 1, 1) := by decide +kernel
theorem dL_law_399 : decode cL_law 399 = .ok (.iadd, 1) := by decide +kernel
theorem dL_law_400 : decode cL_law 400 = .ok (.iaload, 1) := by decide +kernel
theorem dL_law_401 : decode cL_law 401 = .ok (.aload_n 0, 1) := by decide +kernel
theorem dL_law_402 : decode cL_law 402 = .ok (.iload 4, 2) := by decide +kernel
theorem dL_law_404 : decode cL_law 404 = .ok (.iconst 2, 1) := by decide +kernel
theorem dL_law_405 : decode cL_law 405 = .ok (.iadd, 1) := by decide +kernel
theorem dL_law_406 : decode cL_law 406 = .ok (.iaload, 1) := by decide +kernel
theorem dL_law_407 : decode cL_law 407 = .ok (.aload_n 0, 1) := by decide +kernel
theorem dL_law_408 : decode cL_law 408 = .ok (.iload 4, 2) := by decide +kernel
theorem dL_law_410 : decode cL_law 410 = .ok (.iconst 3, 1) := by decide +kernel
theorem dL_law_411 : decode cL_law 411 = .ok (.iadd, 1) := by decide +kernel
theorem dL_law_412 : decode cL_law 412 = .ok (.iaload, 1) := by decide +kernel
theorem dL_law_413 : decode cL_law 413 = .ok (.i2l, 1) := by decide +kernel
theorem dL_law_414 : decode cL_law 414 = .ok (.bipush 32, 2) := by decide +kernel
theorem dL_law_416 : decode cL_law 416 = .ok (.lshl, 1) := by decide +kernel
theorem dL_law_417 : decode cL_law 417 = .ok (.aload_n 0, 1) := by decide +kernel
theorem dL_law_418 : decode cL_law 418 = .ok (.iload 4, 2) := by decide +kernel
theorem dL_law_420 : decode cL_law 420 = .ok (.iconst 4, 1) := by decide +kernel
theorem dL_law_421 : decode cL_law 421 = .ok (.iadd, 1) := by decide +kernel
theorem dL_law_422 : decode cL_law 422 = .ok (.iaload, 1) := by decide +kernel
theorem dL_law_423 : decode cL_law 423 = .ok (.i2l, 1) := by decide +kernel
theorem dL_law_424 : decode cL_law 424 = .ok (.ldc2_w 19, 3) := by decide +kernel
theorem dL_law_427 : decode cL_law 427 = .ok (.land, 1) := by decide +kernel
theorem dL_law_428 : decode cL_law 428 = .ok (.lor, 1) := by decide +kernel
theorem dL_law_429 : decode cL_law 429 = .ok (.aload_n 0, 1) := by decide +kernel
theorem dL_law_430 : decode cL_law 430 = .ok (.iload 4, 2) := by decide +kernel
theorem dL_law_432 : decode cL_law 432 = .ok (.iconst 5, 1) := by decide +kernel
theorem dL_law_433 : decode cL_law 433 = .ok (.iadd, 1) := by decide +kernel
theorem dL_law_434 : decode cL_law 434 = .ok (.iaload, 1) := by decide +kernel
theorem dL_law_435 : decode cL_law 435 = .ok (.invokevirtual 31, 3) := by decide +kernel
theorem dL_law_438 : decode cL_law 438 = .ok (.aload_n 2, 1) := by decide +kernel
theorem dL_law_439 : decode cL_law 439 = .ok (.aload_n 0, 1) := by decide +kernel
theorem dL_law_440 : decode cL_law 440 = .ok (.iload 4, 2) := by decide +kernel
theorem dL_law_442 : decode cL_law 442 = .ok (.iconst 1, 1) := by decide +kernel
theorem dL_law_443 : decode cL_law 443 = .ok (.iadd, 1) := by decide +kernel
theorem dL_law_444 : decode cL_law 444 = .ok (.iaload, 1) := by decide +kernel
theorem dL_law_445 : decode cL_law 445 = .ok (.aload_n 0, 1) := by decide +kernel
theorem dL_law_446 : decode cL_law 446 = .ok (.iload 4, 2) := by decide +kernel
theorem dL_law_448 : decode cL_law 448 = .ok (.iconst 2, 1) := by decide +kernel
theorem dL_law_449 : decode cL_law 449 = .ok (.iadd, 1) := by decide +kernel
theorem dL_law_450 : decode cL_law 450 = .ok (.iaload, 1) := by decide +kernel
theorem dL_law_451 : decode cL_law 451 = .ok (.aload_n 0, 1) := by decide +kernel
theorem dL_law_452 : decode cL_law 452 = .ok (.iload 4, 2) := by decide +kernel
theorem dL_law_454 : decode cL_law 454 = .ok (.iconst 3, 1) := by decide +kernel
theorem dL_law_455 : decode cL_law 455 = .ok (.iadd, 1) := by decide +kernel
theorem dL_law_456 : decode cL_law 456 = .ok (.iaload, 1) := by decide +kernel
theorem dL_law_457 : decode cL_law 457 = .ok (.i2l, 1) := by decide +kernel
theorem dL_law_458 : decode cL_law 458 = .ok (.bipush 32, 2) := by decide +kernel
theorem dL_law_460 : decode cL_law 460 = .ok (.lshl, 1) := by decide +kernel
theorem dL_law_461 : decode cL_law 461 = .ok (.aload_n 0, 1) := by decide +kernel
theorem dL_law_462 : decode cL_law 462 = .ok (.iload 4, 2) := by decide +kernel
theorem dL_law_464 : decode cL_law 464 = .ok (.iconst 4, 1) := by decide +kernel
theorem dL_law_465 : decode cL_law 465 = .ok (.iadd, 1) := by decide +kernel
theorem dL_law_466 : decode cL_law 466 = .ok (.iaload, 1) := by decide +kernel
theorem dL_law_467 : decode cL_law 467 = .ok (.i2l, 1) := by decide +kernel
theorem dL_law_468 : decode cL_law 468 = .ok (.ldc2_w 19, 3) := by decide +kernel
theorem dL_law_471 : decode cL_law 471 = .ok (.land, 1) := by decide +kernel
theorem dL_law_472 : decode cL_law 472 = .ok (.lor, 1) := by decide +kernel
theorem dL_law_473 : decode cL_law 473 = .ok (.aload_n 0, 1) := by decide +kernel
theorem dL_law_474 : decode cL_law 474 = .ok (.iload 4, 2) := by decide +kernel
theorem dL_law_476 : decode cL_law 476 = .ok (.iconst 5, 1) := by decide +kernel
theorem dL_law_477 : decode cL_law 477 = .ok (.iadd, 1) := by decide +kernel
theorem dL_law_478 : decode cL_law 478 = .ok (.iaload, 1) := by decide +kernel
theorem dL_law_479 : decode cL_law 479 = .ok (.invokevirtual 35, 3) := by decide +kernel
theorem dL_law_482 : decode cL_law 482 = .ok (.if_icmp .eq 528, 3) := by decide +kernel
theorem dL_law_485 : decode cL_law 485 = .ok (.iconst 0, 1) := by decide +kernel
theorem dL_law_486 : decode cL_law 486 = .ok (.ireturn, 1) := by decide +kernel
theorem dL_law_487 : decode cL_law 487 = .ok (.aload_n 1, 1) := by decide +kernel
theorem dL_law_488 : decode cL_law 488 = .ok (.aload_n 0, 1) := by decide +kernel
theorem dL_law_489 : decode cL_law 489 = .ok (.iload 4, 2) := by decide +kernel
theorem dL_law_491 : decode cL_law 491 = .ok (.iconst 1, 1) := by decide +kernel
theorem dL_law_492 : decode cL_law 492 = .ok (.iadd, 1) := by decide +kernel
theorem dL_law_493 : decode cL_law 493 = .ok (.iaload, 1) := by decide +kernel
theorem dL_law_494 : decode cL_law 494 = .ok (.aload_n 0, 1) := by decide +kernel
theorem dL_law_495 : decode cL_law 495 = .ok (.iload 4, 2) := by decide +kernel
theorem dL_law_497 : decode cL_law 497 = .ok (.iconst 2, 1) := by decide +kernel
theorem dL_law_498 : decode cL_law 498 = .ok (.iadd, 1) := by decide +kernel
theorem dL_law_499 : decode cL_law 499 = .ok (.iaload, 1) := by decide +kernel
theorem dL_law_500 : decode cL_law 500 = .ok (.invokevirtual 36, 3) := by decide +kernel
theorem dL_law_503 : decode cL_law 503 = .ok (.aload_n 2, 1) := by decide +kernel
theorem dL_law_504 : decode cL_law 504 = .ok (.aload_n 0, 1) := by decide +kernel
theorem dL_law_505 : decode cL_law 505 = .ok (.iload 4, 2) := by decide +kernel
theorem dL_law_507 : decode cL_law 507 = .ok (.iconst 1, 1) := by decide +kernel
theorem dL_law_508 : decode cL_law 508 = .ok (.iadd, 1) := by decide +kernel
theorem dL_law_509 : decode cL_law 509 = .ok (.iaload, 1) := by decide +kernel
theorem dL_law_510 : decode cL_law 510 = .ok (.aload_n 0, 1) := by decide +kernel
theorem dL_law_511 : decode cL_law 511 = .ok (.iload 4, 2) := by decide +kernel
theorem dL_law_513 : decode cL_law 513 = .ok (.iconst 2, 1) := by decide +kernel
theorem dL_law_514 : decode cL_law 514 = .ok (.iadd, 1) := by decide +kernel
theorem dL_law_515 : decode cL_law 515 = .ok (.iaload, 1) := by decide +kernel
theorem dL_law_516 : decode cL_law 516 = .ok (.invokevirtual 39, 3) := by decide +kernel
theorem dL_law_519 : decode cL_law 519 = .ok (.if_icmp .eq 491, 3) := by decide +kernel
theorem dL_law_522 : decode cL_law 522 = .ok (.iconst 0, 1) := by decide +kernel
theorem dL_law_523 : decode cL_law 523 = .ok (.ireturn, 1) := by decide +kernel
theorem dL_law_524 : decode cL_law 524 = .ok (.aload_n 1, 1) := by decide +kernel
theorem dL_law_525 : decode cL_law 525 = .ok (.aload_n 0, 1) := by decide +kernel
theorem dL_law_526 : decode cL_law 526 = .ok (.iload 4, 2) := by decide +kernel
theorem dL_law_528 : decode cL_law 528 = .ok (.iconst 1, 1) := by decide +kernel
theorem dL_law_529 : decode cL_law 529 = .ok (.iadd, 1) := by decide +kernel
theorem dL_law_530 : decode cL_law 530 = .ok (.iaload, 1) := by decide +kernel
theorem dL_law_531 : decode cL_law 531 = .ok (.aload_n 0, 1) := by decide +kernel
theorem dL_law_532 : decode cL_law 532 = .ok (.iload 4, 2) := by decide +kernel
theorem dL_law_534 : decode cL_law 534 = .ok (.iconst 2, 1) := by decide +kernel
theorem dL_law_535 : decode cL_law 535 = .ok (.iadd, 1) := by decide +kernel
theorem dL_law_536 : decode cL_law 536 = .ok (.iaload, 1) := by decide +kernel
theorem dL_law_537 : decode cL_law 537 = .ok (.invokevirtual 40, 3) := by decide +kernel
theorem dL_law_540 : decode cL_law 540 = .ok (.aload_n 2, 1) := by decide +kernel
theorem dL_law_541 : decode cL_law 541 = .ok (.aload_n 0, 1) := by decide +kernel
theorem dL_law_542 : decode cL_law 542 = .ok (.iload 4, 2) := by decide +kernel
theorem dL_law_544 : decode cL_law 544 = .ok (.iconst 1, 1) := by decide +kernel
theorem dL_law_545 : decode cL_law 545 = .ok (.iadd, 1) := by decide +kernel
theorem dL_law_546 : decode cL_law 546 = .ok (.iaload, 1) := by decide +kernel
theorem dL_law_547 : decode cL_law 547 = .ok (.aload_n 0, 1) := by decide +kernel
theorem dL_law_548 : decode cL_law 548 = .ok (.iload 4, 2) := by decide +kernel
theorem dL_law_550 : decode cL_law 550 = .ok (.iconst 2, 1) := by decide +kernel
theorem dL_law_551 : decode cL_law 551 = .ok (.iadd, 1) := by decide +kernel
theorem dL_law_552 : decode cL_law 552 = .ok (.iaload, 1) := by decide +kernel
theorem dL_law_553 : decode cL_law 553 = .ok (.invokevirtual 44, 3) := by decide +kernel
theorem dL_law_556 : decode cL_law 556 = .ok (.lcmp, 1) := by decide +kernel
theorem dL_law_557 : decode cL_law 557 = .ok (.ifCond .eq 453, 3) := by decide +kernel
theorem dL_law_560 : decode cL_law 560 = .ok (.iconst 0, 1) := by decide +kernel
theorem dL_law_561 : decode cL_law 561 = .ok (.ireturn, 1) := by decide +kernel
theorem dL_law_562 : decode cL_law 562 = .ok (.aload_n 1, 1) := by decide +kernel
theorem dL_law_563 : decode cL_law 563 = .ok (.aload_n 0, 1) := by decide +kernel
theorem dL_law_564 : decode cL_law 564 = .ok (.iload 4, 2) := by decide +kernel
theorem dL_law_566 : decode cL_law 566 = .ok (.iconst 1, 1) := by decide +kernel
theorem dL_law_567 : decode cL_law 567 = .ok (.iadd, 1) := by decide +kernel
theorem dL_law_568 : decode cL_law 568 = .ok (.iaload, 1) := by decide +kernel
theorem dL_law_569 : decode cL_law 569 = .ok (.invokevirtual 45, 3) := by decide +kernel
theorem dL_law_572 : decode cL_law 572 = .ok (.aload_n 2, 1) := by decide +kernel
theorem dL_law_573 : decode cL_law 573 = .ok (.aload_n 0, 1) := by decide +kernel
theorem dL_law_574 : decode cL_law 574 = .ok (.iload 4, 2) := by decide +kernel
theorem dL_law_576 : decode cL_law 576 = .ok (.iconst 1, 1) := by decide +kernel
theorem dL_law_577 : decode cL_law 577 = .ok (.iadd, 1) := by decide +kernel
theorem dL_law_578 : decode cL_law 578 = .ok (.iaload, 1) := by decide +kernel
theorem dL_law_579 : decode cL_law 579 = .ok (.invokevirtual 49, 3) := by decide +kernel
theorem dL_law_582 : decode cL_law 582 = .ok (.if_icmp .eq 428, 3) := by decide +kernel
theorem dL_law_585 : decode cL_law 585 = .ok (.iconst 0, 1) := by decide +kernel
theorem dL_law_586 : decode cL_law 586 = .ok (.ireturn, 1) := by decide +kernel
theorem dL_law_587 : decode cL_law 587 = .ok (.aload_n 1, 1) := by decide +kernel
theorem dL_law_588 : decode cL_law 588 = .ok (.aload_n 0, 1) := by decide +kernel
theorem dL_law_589 : decode cL_law 589 = .ok (.iload 4, 2) := by decide +kernel
theorem dL_law_591 : decode cL_law 591 = .ok (.iconst 1, 1) := by decide +kernel
theorem dL_law_592 : decode cL_law 592 = .ok (.iadd, 1) := by decide +kernel
theorem dL_law_593 : decode cL_law 593 = .ok (.iaload, 1) := by decide +kernel
theorem dL_law_594 : decode cL_law 594 = .ok (.invokevirtual 50, 3) := by decide +kernel
theorem dL_law_597 : decode cL_law 597 = .ok (.aload_n 2, 1) := by decide +kernel
theorem dL_law_598 : decode cL_law 598 = .ok (.aload_n 0, 1) := by decide +kernel
theorem dL_law_599 : decode cL_law 599 = .ok (.iload 4, 2) := by decide +kernel
theorem dL_law_601 : decode cL_law 601 = .ok (.iconst 1, 1) := by decide +kernel
theorem dL_law_602 : decode cL_law 602 = .ok (.iadd, 1) := by decide +kernel
theorem dL_law_603 : decode cL_law 603 = .ok (.iaload, 1) := by decide +kernel
theorem dL_law_604 : decode cL_law 604 = .ok (.invokevirtual 53, 3) := by decide +kernel
theorem dL_law_607 : decode cL_law 607 = .ok (.if_icmp .eq 403, 3) := by decide +kernel
theorem dL_law_610 : decode cL_law 610 = .ok (.iconst 0, 1) := by decide +kernel
theorem dL_law_611 : decode cL_law 611 = .ok (.ireturn, 1) := by decide +kernel
theorem dL_law_612 : decode cL_law 612 = .ok (.aload_n 1, 1) := by decide +kernel
theorem dL_law_613 : decode cL_law 613 = .ok (.invokevirtual 54, 3) := by decide +kernel
theorem dL_law_616 : decode cL_law 616 = .ok (.aload_n 2, 1) := by decide +kernel
theorem dL_law_617 : decode cL_law 617 = .ok (.invokevirtual 58, 3) := by decide +kernel
theorem dL_law_620 : decode cL_law 620 = .ok (.if_icmp .eq 390, 3) := by decide +kernel
theorem dL_law_623 : decode cL_law 623 = .ok (.iconst 0, 1) := by decide +kernel
theorem dL_law_624 : decode cL_law 624 = .ok (.ireturn, 1) := by decide +kernel
theorem dL_law_625 : decode cL_law 625 = .ok (.aload_n 1, 1) := by decide +kernel
theorem dL_law_626 : decode cL_law 626 = .ok (.invokevirtual 59, 3) := by decide +kernel
theorem dL_law_629 : decode cL_law 629 = .ok (.aload_n 2, 1) := by decide +kernel
theorem dL_law_630 : decode cL_law 630 = .ok (.invokevirtual 62, 3) := by decide +kernel
theorem dL_law_633 : decode cL_law 633 = .ok (.if_icmp .eq 377, 3) := by decide +kernel
theorem dL_law_636 : decode cL_law 636 = .ok (.iconst 0, 1) := by decide +kernel
theorem dL_law_637 : decode cL_law 637 = .ok (.ireturn, 1) := by decide +kernel
theorem dL_law_638 : decode cL_law 638 = .ok (.aload_n 1, 1) := by decide +kernel
theorem dL_law_639 : decode cL_law 639 = .ok (.aload_n 0, 1) := by decide +kernel
theorem dL_law_640 : decode cL_law 640 = .ok (.iload 4, 2) := by decide +kernel
theorem dL_law_642 : decode cL_law 642 = .ok (.iconst 1, 1) := by decide +kernel
theorem dL_law_643 : decode cL_law 643 = .ok (.iadd, 1) := by decide +kernel
theorem dL_law_644 : decode cL_law 644 = .ok (.iaload, 1) := by decide +kernel
theorem dL_law_645 : decode cL_law 645 = .ok (.aload_n 0, 1) := by decide +kernel
theorem dL_law_646 : decode cL_law 646 = .ok (.iload 4, 2) := by decide +kernel
theorem dL_law_648 : decode cL_law 648 = .ok (.iconst 2, 1) := by decide +kernel
theorem dL_law_649 : decode cL_law 649 = .ok (.iadd, 1) := by decide +kernel
theorem dL_law_650 : decode cL_law 650 = .ok (.iaload, 1) := by decide +kernel
theorem dL_law_651 : decode cL_law 651 = .ok (.aload_n 0, 1) := by decide +kernel
theorem dL_law_652 : decode cL_law 652 = .ok (.iload 4, 2) := by decide +kernel
theorem dL_law_654 : decode cL_law 654 = .ok (.iconst 3, 1) := by decide +kernel
theorem dL_law_655 : decode cL_law 655 = .ok (.iadd, 1) := by decide +kernel
theorem dL_law_656 : decode cL_law 656 = .ok (.iaload, 1) := by decide +kernel
theorem dL_law_657 : decode cL_law 657 = .ok (.i2l, 1) := by decide +kernel
theorem dL_law_658 : decode cL_law 658 = .ok (.bipush 32, 2) := by decide +kernel
theorem dL_law_660 : decode cL_law 660 = .ok (.lshl, 1) := by decide +kernel
theorem dL_law_661 : decode cL_law 661 = .ok (.aload_n 0, 1) := by decide +kernel
theorem dL_law_662 : decode cL_law 662 = .ok (.iload 4, 2) := by decide +kernel
theorem dL_law_664 : decode cL_law 664 = .ok (.iconst 4, 1) := by decide +kernel
theorem dL_law_665 : decode cL_law 665 = .ok (.iadd, 1) := by decide +kernel
theorem dL_law_666 : decode cL_law 666 = .ok (.iaload, 1) := by decide +kernel
theorem dL_law_667 : decode cL_law 667 = .ok (.i2l, 1) := by decide +kernel
theorem dL_law_668 : decode cL_law 668 = .ok (.ldc2_w 19, 3) := by decide +kernel
theorem dL_law_671 : decode cL_law 671 = .ok (.land, 1) := by decide +kernel
theorem dL_law_672 : decode cL_law 672 = .ok (.lor, 1) := by decide +kernel
theorem dL_law_673 : decode cL_law 673 = .ok (.invokevirtual 63, 3) := by decide +kernel
theorem dL_law_676 : decode cL_law 676 = .ok (.aload_n 2, 1) := by decide +kernel
theorem dL_law_677 : decode cL_law 677 = .ok (.aload_n 0, 1) := by decide +kernel
theorem dL_law_678 : decode cL_law 678 = .ok (.iload 4, 2) := by decide +kernel
theorem dL_law_680 : decode cL_law 680 = .ok (.iconst 1, 1) := by decide +kernel
theorem dL_law_681 : decode cL_law 681 = .ok (.iadd, 1) := by decide +kernel
theorem dL_law_682 : decode cL_law 682 = .ok (.iaload, 1) := by decide +kernel
theorem dL_law_683 : decode cL_law 683 = .ok (.aload_n 0, 1) := by decide +kernel
theorem dL_law_684 : decode cL_law 684 = .ok (.iload 4, 2) := by decide +kernel
theorem dL_law_686 : decode cL_law 686 = .ok (.iconst 2, 1) := by decide +kernel
theorem dL_law_687 : decode cL_law 687 = .ok (.iadd, 1) := by decide +kernel
theorem dL_law_688 : decode cL_law 688 = .ok (.iaload, 1) := by decide +kernel
theorem dL_law_689 : decode cL_law 689 = .ok (.aload_n 0, 1) := by decide +kernel
theorem dL_law_690 : decode cL_law 690 = .ok (.iload 4, 2) := by decide +kernel
theorem dL_law_692 : decode cL_law 692 = .ok (.iconst 3, 1) := by decide +kernel
theorem dL_law_693 : decode cL_law 693 = .ok (.iadd, 1) := by decide +kernel
theorem dL_law_694 : decode cL_law 694 = .ok (.iaload, 1) := by decide +kernel
theorem dL_law_695 : decode cL_law 695 = .ok (.i2l, 1) := by decide +kernel
theorem dL_law_696 : decode cL_law 696 = .ok (.bipush 32, 2) := by decide +kernel
theorem dL_law_698 : decode cL_law 698 = .ok (.lshl, 1) := by decide +kernel
theorem dL_law_699 : decode cL_law 699 = .ok (.aload_n 0, 1) := by decide +kernel
theorem dL_law_700 : decode cL_law 700 = .ok (.iload 4, 2) := by decide +kernel
theorem dL_law_702 : decode cL_law 702 = .ok (.iconst 4, 1) := by decide +kernel
theorem dL_law_703 : decode cL_law 703 = .ok (.iadd, 1) := by decide +kernel
theorem dL_law_704 : decode cL_law 704 = .ok (.iaload, 1) := by decide +kernel
theorem dL_law_705 : decode cL_law 705 = .ok (.i2l, 1) := by decide +kernel
theorem dL_law_706 : decode cL_law 706 = .ok (.ldc2_w 19, 3) := by decide +kernel
theorem dL_law_709 : decode cL_law 709 = .ok (.land, 1) := by decide +kernel
theorem dL_law_710 : decode cL_law 710 = .ok (.lor, 1) := by decide +kernel
theorem dL_law_711 : decode cL_law 711 = .ok (.invokevirtual 66, 3) := by decide +kernel
theorem dL_law_714 : decode cL_law 714 = .ok (.if_icmp .eq 296, 3) := by decide +kernel
theorem dL_law_717 : decode cL_law 717 = .ok (.iconst 0, 1) := by decide +kernel
theorem dL_law_718 : decode cL_law 718 = .ok (.ireturn, 1) := by decide +kernel
theorem dL_law_719 : decode cL_law 719 = .ok (.aload_n 1, 1) := by decide +kernel
theorem dL_law_720 : decode cL_law 720 = .ok (.aload_n 0, 1) := by decide +kernel
theorem dL_law_721 : decode cL_law 721 = .ok (.iload 4, 2) := by decide +kernel
theorem dL_law_723 : decode cL_law 723 = .ok (.iconst 1, 1) := by decide +kernel
theorem dL_law_724 : decode cL_law 724 = .ok (.iadd, 1) := by decide +kernel
theorem dL_law_725 : decode cL_law 725 = .ok (.iaload, 1) := by decide +kernel
theorem dL_law_726 : decode cL_law 726 = .ok (.aload_n 0, 1) := by decide +kernel
theorem dL_law_727 : decode cL_law 727 = .ok (.iload 4, 2) := by decide +kernel
theorem dL_law_729 : decode cL_law 729 = .ok (.iconst 2, 1) := by decide +kernel
theorem dL_law_730 : decode cL_law 730 = .ok (.iadd, 1) := by decide +kernel
theorem dL_law_731 : decode cL_law 731 = .ok (.iaload, 1) := by decide +kernel
theorem dL_law_732 : decode cL_law 732 = .ok (.invokevirtual 67, 3) := by decide +kernel
theorem dL_law_735 : decode cL_law 735 = .ok (.aload_n 2, 1) := by decide +kernel
theorem dL_law_736 : decode cL_law 736 = .ok (.aload_n 0, 1) := by decide +kernel
theorem dL_law_737 : decode cL_law 737 = .ok (.iload 4, 2) := by decide +kernel
theorem dL_law_739 : decode cL_law 739 = .ok (.iconst 1, 1) := by decide +kernel
theorem dL_law_740 : decode cL_law 740 = .ok (.iadd, 1) := by decide +kernel
theorem dL_law_741 : decode cL_law 741 = .ok (.iaload, 1) := by decide +kernel
theorem dL_law_742 : decode cL_law 742 = .ok (.aload_n 0, 1) := by decide +kernel
theorem dL_law_743 : decode cL_law 743 = .ok (.iload 4, 2) := by decide +kernel
theorem dL_law_745 : decode cL_law 745 = .ok (.iconst 2, 1) := by decide +kernel
theorem dL_law_746 : decode cL_law 746 = .ok (.iadd, 1) := by decide +kernel
theorem dL_law_747 : decode cL_law 747 = .ok (.iaload, 1) := by decide +kernel
theorem dL_law_748 : decode cL_law 748 = .ok (.invokevirtual 70, 3) := by decide +kernel
theorem dL_law_751 : decode cL_law 751 = .ok (.lcmp, 1) := by decide +kernel
theorem dL_law_752 : decode cL_law 752 = .ok (.ifCond .eq 258, 3) := by decide +kernel
theorem dL_law_755 : decode cL_law 755 = .ok (.iconst 0, 1) := by decide +kernel
theorem dL_law_756 : decode cL_law 756 = .ok (.ireturn, 1) := by decide +kernel
theorem dL_law_757 : decode cL_law 757 = .ok (.aload_n 1, 1) := by decide +kernel
theorem dL_law_758 : decode cL_law 758 = .ok (.aload_n 0, 1) := by decide +kernel
theorem dL_law_759 : decode cL_law 759 = .ok (.iload 4, 2) := by decide +kernel
theorem dL_law_761 : decode cL_law 761 = .ok (.iconst 1, 1) := by decide +kernel
theorem dL_law_762 : decode cL_law 762 = .ok (.iadd, 1) := by decide +kernel
theorem dL_law_763 : decode cL_law 763 = .ok (.iaload, 1) := by decide +kernel
theorem dL_law_764 : decode cL_law 764 = .ok (.aload_n 0, 1) := by decide +kernel
theorem dL_law_765 : decode cL_law 765 = .ok (.iload 4, 2) := by decide +kernel
theorem dL_law_767 : decode cL_law 767 = .ok (.iconst 2, 1) := by decide +kernel
theorem dL_law_768 : decode cL_law 768 = .ok (.iadd, 1) := by decide +kernel
theorem dL_law_769 : decode cL_law 769 = .ok (.iaload, 1) := by decide +kernel
theorem dL_law_770 : decode cL_law 770 = .ok (.invokevirtual 71, 3) := by decide +kernel
theorem dL_law_773 : decode cL_law 773 = .ok (.aload_n 2, 1) := by decide +kernel
theorem dL_law_774 : decode cL_law 774 = .ok (.aload_n 0, 1) := by decide +kernel
theorem dL_law_775 : decode cL_law 775 = .ok (.iload 4, 2) := by decide +kernel
theorem dL_law_777 : decode cL_law 777 = .ok (.iconst 1, 1) := by decide +kernel
theorem dL_law_778 : decode cL_law 778 = .ok (.iadd, 1) := by decide +kernel
theorem dL_law_779 : decode cL_law 779 = .ok (.iaload, 1) := by decide +kernel
theorem dL_law_780 : decode cL_law 780 = .ok (.aload_n 0, 1) := by decide +kernel
theorem dL_law_781 : decode cL_law 781 = .ok (.iload 4, 2) := by decide +kernel
theorem dL_law_783 : decode cL_law 783 = .ok (.iconst 2, 1) := by decide +kernel
theorem dL_law_784 : decode cL_law 784 = .ok (.iadd, 1) := by decide +kernel
theorem dL_law_785 : decode cL_law 785 = .ok (.iaload, 1) := by decide +kernel
theorem dL_law_786 : decode cL_law 786 = .ok (.invokevirtual 74, 3) := by decide +kernel
theorem dL_law_789 : decode cL_law 789 = .ok (.if_icmp .eq 221, 3) := by decide +kernel
theorem dL_law_792 : decode cL_law 792 = .ok (.iconst 0, 1) := by decide +kernel
theorem dL_law_793 : decode cL_law 793 = .ok (.ireturn, 1) := by decide +kernel
theorem dL_law_794 : decode cL_law 794 = .ok (.aload_n 1, 1) := by decide +kernel
theorem dL_law_795 : decode cL_law 795 = .ok (.aload_n 0, 1) := by decide +kernel
theorem dL_law_796 : decode cL_law 796 = .ok (.iload 4, 2) := by decide +kernel
theorem dL_law_798 : decode cL_law 798 = .ok (.iconst 1, 1) := by decide +kernel
theorem dL_law_799 : decode cL_law 799 = .ok (.iadd, 1) := by decide +kernel
theorem dL_law_800 : decode cL_law 800 = .ok (.iaload, 1) := by decide +kernel
theorem dL_law_801 : decode cL_law 801 = .ok (.aload_n 0, 1) := by decide +kernel
theorem dL_law_802 : decode cL_law 802 = .ok (.iload 4, 2) := by decide +kernel
theorem dL_law_804 : decode cL_law 804 = .ok (.iconst 2, 1) := by decide +kernel
theorem dL_law_805 : decode cL_law 805 = .ok (.iadd, 1) := by decide +kernel
theorem dL_law_806 : decode cL_law 806 = .ok (.iaload, 1) := by decide +kernel
theorem dL_law_807 : decode cL_law 807 = .ok (.aload_n 0, 1) := by decide +kernel
theorem dL_law_808 : decode cL_law 808 = .ok (.iload 4, 2) := by decide +kernel
theorem dL_law_810 : decode cL_law 810 = .ok (.iconst 3, 1) := by decide +kernel
theorem dL_law_811 : decode cL_law 811 = .ok (.iadd, 1) := by decide +kernel
theorem dL_law_812 : decode cL_law 812 = .ok (.iaload, 1) := by decide +kernel
theorem dL_law_813 : decode cL_law 813 = .ok (.invokevirtual 75, 3) := by decide +kernel
theorem dL_law_816 : decode cL_law 816 = .ok (.aload_n 2, 1) := by decide +kernel
theorem dL_law_817 : decode cL_law 817 = .ok (.aload_n 0, 1) := by decide +kernel
theorem dL_law_818 : decode cL_law 818 = .ok (.iload 4, 2) := by decide +kernel
theorem dL_law_820 : decode cL_law 820 = .ok (.iconst 1, 1) := by decide +kernel
theorem dL_law_821 : decode cL_law 821 = .ok (.iadd, 1) := by decide +kernel
theorem dL_law_822 : decode cL_law 822 = .ok (.iaload, 1) := by decide +kernel
theorem dL_law_823 : decode cL_law 823 = .ok (.aload_n 0, 1) := by decide +kernel
theorem dL_law_824 : decode cL_law 824 = .ok (.iload 4, 2) := by decide +kernel
theorem dL_law_826 : decode cL_law 826 = .ok (.iconst 2, 1) := by decide +kernel
theorem dL_law_827 : decode cL_law 827 = .ok (.iadd, 1) := by decide +kernel
theorem dL_law_828 : decode cL_law 828 = .ok (.iaload, 1) := by decide +kernel
theorem dL_law_829 : decode cL_law 829 = .ok (.aload_n 0, 1) := by decide +kernel
theorem dL_law_830 : decode cL_law 830 = .ok (.iload 4, 2) := by decide +kernel
theorem dL_law_832 : decode cL_law 832 = .ok (.iconst 3, 1) := by decide +kernel
theorem dL_law_833 : decode cL_law 833 = .ok (.iadd, 1) := by decide +kernel
theorem dL_law_834 : decode cL_law 834 = .ok (.iaload, 1) := by decide +kernel
theorem dL_law_835 : decode cL_law 835 = .ok (.invokevirtual 79, 3) := by decide +kernel
theorem dL_law_838 : decode cL_law 838 = .ok (.if_icmp .eq 172, 3) := by decide +kernel
theorem dL_law_841 : decode cL_law 841 = .ok (.iconst 0, 1) := by decide +kernel
theorem dL_law_842 : decode cL_law 842 = .ok (.ireturn, 1) := by decide +kernel
theorem dL_law_843 : decode cL_law 843 = .ok (.aload_n 1, 1) := by decide +kernel
theorem dL_law_844 : decode cL_law 844 = .ok (.aload_n 0, 1) := by decide +kernel
theorem dL_law_845 : decode cL_law 845 = .ok (.iload 4, 2) := by decide +kernel
theorem dL_law_847 : decode cL_law 847 = .ok (.iconst 1, 1) := by decide +kernel
theorem dL_law_848 : decode cL_law 848 = .ok (.iadd, 1) := by decide +kernel
theorem dL_law_849 : decode cL_law 849 = .ok (.iaload, 1) := by decide +kernel
theorem dL_law_850 : decode cL_law 850 = .ok (.aload_n 0, 1) := by decide +kernel
theorem dL_law_851 : decode cL_law 851 = .ok (.iload 4, 2) := by decide +kernel
theorem dL_law_853 : decode cL_law 853 = .ok (.iconst 2, 1) := by decide +kernel
theorem dL_law_854 : decode cL_law 854 = .ok (.iadd, 1) := by decide +kernel
theorem dL_law_855 : decode cL_law 855 = .ok (.iaload, 1) := by decide +kernel
theorem dL_law_856 : decode cL_law 856 = .ok (.aload_n 3, 1) := by decide +kernel
theorem dL_law_857 : decode cL_law 857 = .ok (.invokestatic 80, 3) := by decide +kernel
theorem dL_law_860 : decode cL_law 860 = .ok (.istore 5, 2) := by decide +kernel
theorem dL_law_862 : decode cL_law 862 = .ok (.aload_n 2, 1) := by decide +kernel
theorem dL_law_863 : decode cL_law 863 = .ok (.aload_n 0, 1) := by decide +kernel
theorem dL_law_864 : decode cL_law 864 = .ok (.iload 4, 2) := by decide +kernel
theorem dL_law_866 : decode cL_law 866 = .ok (.iconst 1, 1) := by decide +kernel
theorem dL_law_867 : decode cL_law 867 = .ok (.iadd, 1) := by decide +kernel
theorem dL_law_868 : decode cL_law 868 = .ok (.iaload, 1) := by decide +kernel
theorem dL_law_869 : decode cL_law 869 = .ok (.aload_n 0, 1) := by decide +kernel
theorem dL_law_870 : decode cL_law 870 = .ok (.iload 4, 2) := by decide +kernel
theorem dL_law_872 : decode cL_law 872 = .ok (.iconst 2, 1) := by decide +kernel
theorem dL_law_873 : decode cL_law 873 = .ok (.iadd, 1) := by decide +kernel
theorem dL_law_874 : decode cL_law 874 = .ok (.iaload, 1) := by decide +kernel
theorem dL_law_875 : decode cL_law 875 = .ok (.invokevirtual 85, 3) := by decide +kernel
theorem dL_law_878 : decode cL_law 878 = .ok (.istore 6, 2) := by decide +kernel
theorem dL_law_880 : decode cL_law 880 = .ok (.aload_n 2, 1) := by decide +kernel
theorem dL_law_881 : decode cL_law 881 = .ok (.invokevirtual 86, 3) := by decide +kernel
theorem dL_law_884 : decode cL_law 884 = .ok (.iload 5, 2) := by decide +kernel
theorem dL_law_886 : decode cL_law 886 = .ok (.if_icmp .eq 5, 3) := by decide +kernel
theorem dL_law_889 : decode cL_law 889 = .ok (.iconst 0, 1) := by decide +kernel
theorem dL_law_890 : decode cL_law 890 = .ok (.ireturn, 1) := by decide +kernel
theorem dL_law_891 : decode cL_law 891 = .ok (.iload 5, 2) := by decide +kernel
theorem dL_law_893 : decode cL_law 893 = .ok (.ifCond .ne 15, 3) := by decide +kernel
theorem dL_law_896 : decode cL_law 896 = .ok (.aload_n 3, 1) := by decide +kernel
theorem dL_law_897 : decode cL_law 897 = .ok (.iconst 0, 1) := by decide +kernel
theorem dL_law_898 : decode cL_law 898 = .ok (.laload, 1) := by decide +kernel
theorem dL_law_899 : decode cL_law 899 = .ok (.iload 6, 2) := by decide +kernel
theorem dL_law_901 : decode cL_law 901 = .ok (.i2l, 1) := by decide +kernel
theorem dL_law_902 : decode cL_law 902 = .ok (.lcmp, 1) := by decide +kernel
theorem dL_law_903 : decode cL_law 903 = .ok (.ifCond .eq 5, 3) := by decide +kernel
theorem dL_law_906 : decode cL_law 906 = .ok (.iconst 0, 1) := by decide +kernel
theorem dL_law_907 : decode cL_law 907 = .ok (.ireturn, 1) := by decide +kernel
theorem dL_law_908 : decode cL_law 908 = .ok (.goto 102, 3) := by decide +kernel
theorem dL_law_911 : decode cL_law 911 = .ok (.aload_n 1, 1) := by decide +kernel
theorem dL_law_912 : decode cL_law 912 = .ok (.aload_n 0, 1) := by decide +kernel
theorem dL_law_913 : decode cL_law 913 = .ok (.iload 4, 2) := by decide +kernel
theorem dL_law_915 : decode cL_law 915 = .ok (.iconst 1, 1) := by decide +kernel
theorem dL_law_916 : decode cL_law 916 = .ok (.iadd, 1) := by decide +kernel
theorem dL_law_917 : decode cL_law 917 = .ok (.iaload, 1) := by decide +kernel
theorem dL_law_918 : decode cL_law 918 = .ok (.aload_n 0, 1) := by decide +kernel
theorem dL_law_919 : decode cL_law 919 = .ok (.iload 4, 2) := by decide +kernel
theorem dL_law_921 : decode cL_law 921 = .ok (.iconst 2, 1) := by decide +kernel
theorem dL_law_922 : decode cL_law 922 = .ok (.iadd, 1) := by decide +kernel
theorem dL_law_923 : decode cL_law 923 = .ok (.iaload, 1) := by decide +kernel
theorem dL_law_924 : decode cL_law 924 = .ok (.invokevirtual 89, 3) := by decide +kernel
theorem dL_law_927 : decode cL_law 927 = .ok (.aload_n 2, 1) := by decide +kernel
theorem dL_law_928 : decode cL_law 928 = .ok (.aload_n 0, 1) := by decide +kernel
theorem dL_law_929 : decode cL_law 929 = .ok (.iload 4, 2) := by decide +kernel
theorem dL_law_931 : decode cL_law 931 = .ok (.iconst 1, 1) := by decide +kernel
theorem dL_law_932 : decode cL_law 932 = .ok (.iadd, 1) := by decide +kernel
theorem dL_law_933 : decode cL_law 933 = .ok (.iaload, 1) := by decide +kernel
theorem dL_law_934 : decode cL_law 934 = .ok (.aload_n 0, 1) := by decide +kernel
theorem dL_law_935 : decode cL_law 935 = .ok (.iload 4, 2) := by decide +kernel
theorem dL_law_937 : decode cL_law 937 = .ok (.iconst 2, 1) := by decide +kernel
theorem dL_law_938 : decode cL_law 938 = .ok (.iadd, 1) := by decide +kernel
theorem dL_law_939 : decode cL_law 939 = .ok (.iaload, 1) := by decide +kernel
theorem dL_law_940 : decode cL_law 940 = .ok (.invokevirtual 92, 3) := by decide +kernel
theorem dL_law_943 : decode cL_law 943 = .ok (.if_icmp .eq 67, 3) := by decide +kernel
theorem dL_law_946 : decode cL_law 946 = .ok (.iconst 0, 1) := by decide +kernel
theorem dL_law_947 : decode cL_law 947 = .ok (.ireturn, 1) := by decide +kernel
theorem dL_law_948 : decode cL_law 948 = .ok (.aload_n 1, 1) := by decide +kernel
theorem dL_law_949 : decode cL_law 949 = .ok (.aload_n 0, 1) := by decide +kernel
theorem dL_law_950 : decode cL_law 950 = .ok (.iload 4, 2) := by decide +kernel
theorem dL_law_952 : decode cL_law 952 = .ok (.iconst 1, 1) := by decide +kernel
theorem dL_law_953 : decode cL_law 953 = .ok (.iadd, 1) := by decide +kernel
theorem dL_law_954 : decode cL_law 954 = .ok (.iaload, 1) := by decide +kernel
theorem dL_law_955 : decode cL_law 955 = .ok (.invokevirtual 93, 3) := by decide +kernel
theorem dL_law_958 : decode cL_law 958 = .ok (.aload_n 2, 1) := by decide +kernel
theorem dL_law_959 : decode cL_law 959 = .ok (.aload_n 0, 1) := by decide +kernel
theorem dL_law_960 : decode cL_law 960 = .ok (.iload 4, 2) := by decide +kernel
theorem dL_law_962 : decode cL_law 962 = .ok (.iconst 1, 1) := by decide +kernel
theorem dL_law_963 : decode cL_law 963 = .ok (.iadd, 1) := by decide +kernel
theorem dL_law_964 : decode cL_law 964 = .ok (.iaload, 1) := by decide +kernel
theorem dL_law_965 : decode cL_law 965 = .ok (.invokevirtual 96, 3) := by decide +kernel
theorem dL_law_968 : decode cL_law 968 = .ok (.if_icmp .eq 42, 3) := by decide +kernel
theorem dL_law_971 : decode cL_law 971 = .ok (.iconst 0, 1) := by decide +kernel
theorem dL_law_972 : decode cL_law 972 = .ok (.ireturn, 1) := by decide +kernel
theorem dL_law_973 : decode cL_law 973 = .ok (.aload_n 1, 1) := by decide +kernel
theorem dL_law_974 : decode cL_law 974 = .ok (.aload_n 0, 1) := by decide +kernel
theorem dL_law_975 : decode cL_law 975 = .ok (.iload 4, 2) := by decide +kernel
theorem dL_law_977 : decode cL_law 977 = .ok (.iconst 1, 1) := by decide +kernel
theorem dL_law_978 : decode cL_law 978 = .ok (.iadd, 1) := by decide +kernel
theorem dL_law_979 : decode cL_law 979 = .ok (.iaload, 1) := by decide +kernel
theorem dL_law_980 : decode cL_law 980 = .ok (.aload_n 0, 1) := by decide +kernel
theorem dL_law_981 : decode cL_law 981 = .ok (.iload 4, 2) := by decide +kernel
theorem dL_law_983 : decode cL_law 983 = .ok (.iconst 2, 1) := by decide +kernel
theorem dL_law_984 : decode cL_law 984 = .ok (.iadd, 1) := by decide +kernel
theorem dL_law_985 : decode cL_law 985 = .ok (.iaload, 1) := by decide +kernel
theorem dL_law_986 : decode cL_law 986 = .ok (.invokevirtual 97, 3) := by decide +kernel
theorem dL_law_989 : decode cL_law 989 = .ok (.aload_n 2, 1) := by decide +kernel
theorem dL_law_990 : decode cL_law 990 = .ok (.aload_n 0, 1) := by decide +kernel
theorem dL_law_991 : decode cL_law 991 = .ok (.iload 4, 2) := by decide +kernel
theorem dL_law_993 : decode cL_law 993 = .ok (.iconst 1, 1) := by decide +kernel
theorem dL_law_994 : decode cL_law 994 = .ok (.iadd, 1) := by decide +kernel
theorem dL_law_995 : decode cL_law 995 = .ok (.iaload, 1) := by decide +kernel
theorem dL_law_996 : decode cL_law 996 = .ok (.aload_n 0, 1) := by decide +kernel
theorem dL_law_997 : decode cL_law 997 = .ok (.iload 4, 2) := by decide +kernel
theorem dL_law_999 : decode cL_law 999 = .ok (.iconst 2, 1) := by decide +kernel
theorem dL_law_1000 : decode cL_law 1000 = .ok (.iadd, 1) := by decide +kernel
theorem dL_law_1001 : decode cL_law 1001 = .ok (.iaload, 1) := by decide +kernel
theorem dL_law_1002 : decode cL_law 1002 = .ok (.invokevirtual 100, 3) := by decide +kernel
theorem dL_law_1005 : decode cL_law 1005 = .ok (.if_icmp .eq 5, 3) := by decide +kernel
theorem dL_law_1008 : decode cL_law 1008 = .ok (.iconst 0, 1) := by decide +kernel
theorem dL_law_1009 : decode cL_law 1009 = .ok (.ireturn, 1) := by decide +kernel
theorem dL_law_1010 : decode cL_law 1010 = .ok (.iinc 4 10, 3) := by decide +kernel
theorem dL_law_1013 : decode cL_law 1013 = .ok (.goto (-990), 3) := by decide +kernel
theorem dL_law_1016 : decode cL_law 1016 = .ok (.iconst 1, 1) := by decide +kernel
theorem dL_law_1017 : decode cL_law 1017 = .ok (.ireturn, 1) := by decide +kernel
end
section
-- decode rows
theorem dJx00060_init_a7421_0 : decode cJx00060_init_a7421 0 = .ok (.aload_n 0, 1) := by decide +kernel
theorem dJx00060_init_a7421_1 : decode cJx00060_init_a7421 1 = .ok (.aload_n 1, 1) := by decide +kernel
theorem dJx00060_init_a7421_2 : decode cJx00060_init_a7421 2 = .ok (.invokespecial 7, 3) := by decide +kernel
theorem dJx00060_init_a7421_5 : decode cJx00060_init_a7421 5 = .ok (.return_, 1) := by decide +kernel
theorem dJ9_max_7cf53_0 : decode cJ9_max_7cf53 0 = .ok (.iload_n 0, 1) := by decide +kernel
theorem dJ9_max_7cf53_1 : decode cJ9_max_7cf53 1 = .ok (.iload_n 1, 1) := by decide +kernel
theorem dJ9_max_7cf53_2 : decode cJ9_max_7cf53 2 = .ok (.if_icmp .lt 7, 3) := by decide +kernel
theorem dJ9_max_7cf53_5 : decode cJ9_max_7cf53 5 = .ok (.iload_n 0, 1) := by decide +kernel
theorem dJ9_max_7cf53_6 : decode cJ9_max_7cf53 6 = .ok (.goto 4, 3) := by decide +kernel
theorem dJ9_max_7cf53_9 : decode cJ9_max_7cf53 9 = .ok (.iload_n 1, 1) := by decide +kernel
theorem dJ9_max_7cf53_10 : decode cJ9_max_7cf53 10 = .ok (.ireturn, 1) := by decide +kernel
theorem dJ9_min_7cf53_0 : decode cJ9_min_7cf53 0 = .ok (.iload_n 0, 1) := by decide +kernel
theorem dJ9_min_7cf53_1 : decode cJ9_min_7cf53 1 = .ok (.iload_n 1, 1) := by decide +kernel
theorem dJ9_min_7cf53_2 : decode cJ9_min_7cf53 2 = .ok (.if_icmp .gt 7, 3) := by decide +kernel
theorem dJ9_min_7cf53_5 : decode cJ9_min_7cf53 5 = .ok (.iload_n 0, 1) := by decide +kernel
theorem dJ9_min_7cf53_6 : decode cJ9_min_7cf53 6 = .ok (.goto 4, 3) := by decide +kernel
theorem dJ9_min_7cf53_9 : decode cJ9_min_7cf53 9 = .ok (.iload_n 1, 1) := by decide +kernel
theorem dJ9_min_7cf53_10 : decode cJ9_min_7cf53 10 = .ok (.ireturn, 1) := by decide +kernel
theorem dJ0_length_8abf5_0 : decode cJ0_length_8abf5 0 = .ok (.aload_n 0, 1) := by decide +kernel
theorem dJ0_length_8abf5_1 : decode cJ0_length_8abf5 1 = .ok (.getfield 9, 3) := by decide +kernel
theorem dJ0_length_8abf5_4 : decode cJ0_length_8abf5 4 = .ok (.arraylength, 1) := by decide +kernel
theorem dJ0_length_8abf5_5 : decode cJ0_length_8abf5 5 = .ok (.aload_n 0, 1) := by decide +kernel
theorem dJ0_length_8abf5_6 : decode cJ0_length_8abf5 6 = .ok (.invokevirtual 335, 3) := by decide +kernel
theorem dJ0_length_8abf5_9 : decode cJ0_length_8abf5 9 = .ok (.ishr, 1) := by decide +kernel
theorem dJ0_length_8abf5_10 : decode cJ0_length_8abf5 10 = .ok (.ireturn, 1) := by decide +kernel
theorem dJ0_charAt_5068e_0 : decode cJ0_charAt_5068e 0 = .ok (.aload_n 0, 1) := by decide +kernel
theorem dJ0_charAt_5068e_1 : decode cJ0_charAt_5068e 1 = .ok (.invokevirtual 492, 3) := by decide +kernel
theorem dJ0_charAt_5068e_4 : decode cJ0_charAt_5068e 4 = .ok (.ifCond .eq 12, 3) := by decide +kernel
theorem dJ0_charAt_5068e_7 : decode cJ0_charAt_5068e 7 = .ok (.aload_n 0, 1) := by decide +kernel
theorem dJ0_charAt_5068e_8 : decode cJ0_charAt_5068e 8 = .ok (.getfield 9, 3) := by decide +kernel
theorem dJ0_charAt_5068e_11 : decode cJ0_charAt_5068e 11 = .ok (.iload_n 1, 1) := by decide +kernel
theorem dJ0_charAt_5068e_12 : decode cJ0_charAt_5068e 12 = .ok (.invokestatic 495, 3) := by decide +kernel
theorem dJ0_charAt_5068e_15 : decode cJ0_charAt_5068e 15 = .ok (.ireturn, 1) := by decide +kernel
theorem dJ0_charAt_5068e_16 : decode cJ0_charAt_5068e 16 = .ok (.aload_n 0, 1) := by decide +kernel
theorem dJ0_charAt_5068e_17 : decode cJ0_charAt_5068e 17 = .ok (.getfield 9, 3) := by decide +kernel
theorem dJ0_charAt_5068e_20 : decode cJ0_charAt_5068e 20 = .ok (.iload_n 1, 1) := by decide +kernel
theorem dJ0_charAt_5068e_21 : decode cJ0_charAt_5068e 21 = .ok (.invokestatic 498, 3) := by decide +kernel
theorem dJ0_charAt_5068e_24 : decode cJ0_charAt_5068e 24 = .ok (.ireturn, 1) := by decide +kernel
theorem dJ0_coder_7d493_0 : decode cJ0_coder_7d493 0 = .ok (.getstatic 38, 3) := by decide +kernel
theorem dJ0_coder_7d493_3 : decode cJ0_coder_7d493 3 = .ok (.ifCond .eq 10, 3) := by decide +kernel
theorem dJ0_coder_7d493_6 : decode cJ0_coder_7d493 6 = .ok (.aload_n 0, 1) := by decide +kernel
theorem dJ0_coder_7d493_7 : decode cJ0_coder_7d493 7 = .ok (.getfield 15, 3) := by decide +kernel
theorem dJ0_coder_7d493_10 : decode cJ0_coder_7d493 10 = .ok (.goto 4, 3) := by decide +kernel
theorem dJ0_coder_7d493_13 : decode cJ0_coder_7d493 13 = .ok (.iconst 1, 1) := by decide +kernel
theorem dJ0_coder_7d493_14 : decode cJ0_coder_7d493 14 = .ok (.ireturn, 1) := by decide +kernel
theorem dJ0_isLatin1_aae02_0 : decode cJ0_isLatin1_aae02 0 = .ok (.getstatic 38, 3) := by decide +kernel
theorem dJ0_isLatin1_aae02_3 : decode cJ0_isLatin1_aae02 3 = .ok (.ifCond .eq 14, 3) := by decide +kernel
theorem dJ0_isLatin1_aae02_6 : decode cJ0_isLatin1_aae02 6 = .ok (.aload_n 0, 1) := by decide +kernel
theorem dJ0_isLatin1_aae02_7 : decode cJ0_isLatin1_aae02 7 = .ok (.getfield 15, 3) := by decide +kernel
theorem dJ0_isLatin1_aae02_10 : decode cJ0_isLatin1_aae02 10 = .ok (.ifCond .ne 7, 3) := by decide +kernel
theorem dJ0_isLatin1_aae02_13 : decode cJ0_isLatin1_aae02 13 = .ok (.iconst 1, 1) := by decide +kernel
theorem dJ0_isLatin1_aae02_14 : decode cJ0_isLatin1_aae02 14 = .ok (.goto 4, 3) := by decide +kernel
theorem dJ0_isLatin1_aae02_17 : decode cJ0_isLatin1_aae02 17 = .ok (.iconst 0, 1) := by decide +kernel
theorem dJ0_isLatin1_aae02_18 : decode cJ0_isLatin1_aae02 18 = .ok (.ireturn, 1) := by decide +kernel
theorem dJ0_checkIndex_df160_0 : decode cJ0_checkIndex_df160 0 = .ok (.iload_n 0, 1) := by decide +kernel
theorem dJ0_checkIndex_df160_1 : decode cJ0_checkIndex_df160 1 = .ok (.iload_n 1, 1) := by decide +kernel
theorem dJ0_checkIndex_df160_2 : decode cJ0_checkIndex_df160 2 = .ok (.getstatic 1053, 3) := by decide +kernel
theorem dJ0_checkIndex_df160_5 : decode cJ0_checkIndex_df160 5 = .ok (.invokestatic 1059, 3) := by decide +kernel
theorem dJ0_checkIndex_df160_8 : decode cJ0_checkIndex_df160 8 = .ok (.pop, 1) := by decide +kernel
theorem dJ0_checkIndex_df160_9 : decode cJ0_checkIndex_df160 9 = .ok (.return_, 1) := by decide +kernel
theorem dJ1_charAt_3b067_0 : decode cJ1_charAt_3b067 0 = .ok (.iload_n 1, 1) := by decide +kernel
theorem dJ1_charAt_3b067_1 : decode cJ1_charAt_3b067 1 = .ok (.aload_n 0, 1) := by decide +kernel
theorem dJ1_charAt_3b067_2 : decode cJ1_charAt_3b067 2 = .ok (.arraylength, 1) := by decide +kernel
theorem dJ1_charAt_3b067_3 : decode cJ1_charAt_3b067 3 = .ok (.invokestatic 9, 3) := by decide +kernel
theorem dJ1_charAt_3b067_6 : decode cJ1_charAt_3b067 6 = .ok (.aload_n 0, 1) := by decide +kernel
theorem dJ1_charAt_3b067_7 : decode cJ1_charAt_3b067 7 = .ok (.iload_n 1, 1) := by decide +kernel
theorem dJ1_charAt_3b067_8 : decode cJ1_charAt_3b067 8 = .ok (.baload, 1) := by decide +kernel
theorem dJ1_charAt_3b067_9 : decode cJ1_charAt_3b067 9 = .ok (.sipush 255, 3) := by decide +kernel
theorem dJ1_charAt_3b067_12 : decode cJ1_charAt_3b067 12 = .ok (.iand, 1) := by decide +kernel
theorem dJ1_charAt_3b067_13 : decode cJ1_charAt_3b067 13 = .ok (.i2c, 1) := by decide +kernel
theorem dJ1_charAt_3b067_14 : decode cJ1_charAt_3b067 14 = .ok (.ireturn, 1) := by decide +kernel
theorem dJ2_getChar_3b067_0 : decode cJ2_getChar_3b067 0 = .ok (.getstatic 44, 3) := by decide +kernel
theorem dJ2_getChar_3b067_3 : decode cJ2_getChar_3b067 3 = .ok (.ifCond .ne 25, 3) := by decide +kernel
theorem dJ2_getChar_3b067_6 : decode cJ2_getChar_3b067 6 = .ok (.iload_n 1, 1) := by decide +kernel
theorem dJ2_getChar_3b067_7 : decode cJ2_getChar_3b067 7 = .ok (.ifCond .lt 11, 3) := by decide +kernel
theorem dJ2_getChar_3b067_10 : decode cJ2_getChar_3b067 10 = .ok (.iload_n 1, 1) := by decide +kernel
theorem dJ2_getChar_3b067_11 : decode cJ2_getChar_3b067 11 = .ok (.aload_n 0, 1) := by decide +kernel
theorem dJ2_getChar_3b067_12 : decode cJ2_getChar_3b067 12 = .ok (.invokestatic 48, 3) := by decide +kernel
theorem dJ2_getChar_3b067_15 : decode cJ2_getChar_3b067 15 = .ok (.if_icmp .lt 13, 3) := by decide +kernel
theorem dJ2_getChar_3b067_18 : decode cJ2_getChar_3b067 18 = .ok (.new 52, 3) := by decide +kernel
theorem dJ2_getChar_3b067_21 : decode cJ2_getChar_3b067 21 = .ok (.dup, 1) := by decide +kernel
theorem dJ2_getChar_3b067_22 : decode cJ2_getChar_3b067 22 = .ok (.ldc 54, 2) := by decide +kernel
theorem dJ2_getChar_3b067_24 : decode cJ2_getChar_3b067 24 = .ok (.invokespecial 56, 3) := by decide +kernel
theorem dJ2_getChar_3b067_27 : decode cJ2_getChar_3b067 27 = .ok (.athrow, 1) := by decide +kernel
theorem dJ2_getChar_3b067_28 : decode cJ2_getChar_3b067 28 = .ok (.iload_n 1, 1) := by decide +kernel
theorem dJ2_getChar_3b067_29 : decode cJ2_getChar_3b067 29 = .ok (.iconst 1, 1) := by decide +kernel
theorem dJ2_getChar_3b067_30 : decode cJ2_getChar_3b067 30 = .ok (.ishl, 1) := by decide +kernel
theorem dJ2_getChar_3b067_31 : decode cJ2_getChar_3b067 31 = .ok (.istore_n 1, 1) := by decide +kernel
theorem dJ2_getChar_3b067_32 : decode cJ2_getChar_3b067 32 = .ok (.aload_n 0, 1) := by decide +kernel
theorem dJ2_getChar_3b067_33 : decode cJ2_getChar_3b067 33 = .ok (.iload_n 1, 1) := by decide +kernel
theorem dJ2_getChar_3b067_34 : decode cJ2_getChar_3b067 34 = .ok (.iinc 1 1, 3) := by decide +kernel
theorem dJ2_getChar_3b067_37 : decode cJ2_getChar_3b067 37 = .ok (.baload, 1) := by decide +kernel
theorem dJ2_getChar_3b067_38 : decode cJ2_getChar_3b067 38 = .ok (.sipush 255, 3) := by decide +kernel
theorem dJ2_getChar_3b067_41 : decode cJ2_getChar_3b067 41 = .ok (.iand, 1) := by decide +kernel
theorem dJ2_getChar_3b067_42 : decode cJ2_getChar_3b067 42 = .ok (.getstatic 59, 3) := by decide +kernel
theorem dJ2_getChar_3b067_45 : decode cJ2_getChar_3b067 45 = .ok (.ishl, 1) := by decide +kernel
theorem dJ2_getChar_3b067_46 : decode cJ2_getChar_3b067 46 = .ok (.aload_n 0, 1) := by decide +kernel
theorem dJ2_getChar_3b067_47 : decode cJ2_getChar_3b067 47 = .ok (.iload_n 1, 1) := by decide +kernel
theorem dJ2_getChar_3b067_48 : decode cJ2_getChar_3b067 48 = .ok (.baload, 1) := by decide +kernel
theorem dJ2_getChar_3b067_49 : decode cJ2_getChar_3b067 49 = .ok (.sipush 255, 3) := by decide +kernel
theorem dJ2_getChar_3b067_52 : decode cJ2_getChar_3b067 52 = .ok (.iand, 1) := by decide +kernel
theorem dJ2_getChar_3b067_53 : decode cJ2_getChar_3b067 53 = .ok (.getstatic 63, 3) := by decide +kernel
theorem dJ2_getChar_3b067_56 : decode cJ2_getChar_3b067 56 = .ok (.ishl, 1) := by decide +kernel
theorem dJ2_getChar_3b067_57 : decode cJ2_getChar_3b067 57 = .ok (.ior, 1) := by decide +kernel
theorem dJ2_getChar_3b067_58 : decode cJ2_getChar_3b067 58 = .ok (.i2c, 1) := by decide +kernel
theorem dJ2_getChar_3b067_59 : decode cJ2_getChar_3b067 59 = .ok (.ireturn, 1) := by decide +kernel
theorem dJ2_length_9d52b_0 : decode cJ2_length_9d52b 0 = .ok (.aload_n 0, 1) := by decide +kernel
theorem dJ2_length_9d52b_1 : decode cJ2_length_9d52b 1 = .ok (.arraylength, 1) := by decide +kernel
theorem dJ2_length_9d52b_2 : decode cJ2_length_9d52b 2 = .ok (.iconst 1, 1) := by decide +kernel
theorem dJ2_length_9d52b_3 : decode cJ2_length_9d52b 3 = .ok (.ishr, 1) := by decide +kernel
theorem dJ2_length_9d52b_4 : decode cJ2_length_9d52b 4 = .ok (.ireturn, 1) := by decide +kernel
theorem dJ2_charAt_3b067_0 : decode cJ2_charAt_3b067 0 = .ok (.iload_n 1, 1) := by decide +kernel
theorem dJ2_charAt_3b067_1 : decode cJ2_charAt_3b067 1 = .ok (.aload_n 0, 1) := by decide +kernel
theorem dJ2_charAt_3b067_2 : decode cJ2_charAt_3b067 2 = .ok (.invokestatic 67, 3) := by decide +kernel
theorem dJ2_charAt_3b067_5 : decode cJ2_charAt_3b067 5 = .ok (.aload_n 0, 1) := by decide +kernel
theorem dJ2_charAt_3b067_6 : decode cJ2_charAt_3b067 6 = .ok (.iload_n 1, 1) := by decide +kernel
theorem dJ2_charAt_3b067_7 : decode cJ2_charAt_3b067 7 = .ok (.invokestatic 71, 3) := by decide +kernel
theorem dJ2_charAt_3b067_10 : decode cJ2_charAt_3b067 10 = .ok (.ireturn, 1) := by decide +kernel
theorem dJ2_checkIndex_2214a_0 : decode cJ2_checkIndex_2214a 0 = .ok (.iload_n 0, 1) := by decide +kernel
theorem dJ2_checkIndex_2214a_1 : decode cJ2_checkIndex_2214a 1 = .ok (.aload_n 1, 1) := by decide +kernel
theorem dJ2_checkIndex_2214a_2 : decode cJ2_checkIndex_2214a 2 = .ok (.invokestatic 48, 3) := by decide +kernel
theorem dJ2_checkIndex_2214a_5 : decode cJ2_checkIndex_2214a 5 = .ok (.invokestatic 414, 3) := by decide +kernel
theorem dJ2_checkIndex_2214a_8 : decode cJ2_checkIndex_2214a 8 = .ok (.return_, 1) := by decide +kernel
theorem dJxa1e45_init_da8c8_0 : decode cJxa1e45_init_da8c8 0 = .ok (.aload_n 0, 1) := by decide +kernel
theorem dJxa1e45_init_da8c8_1 : decode cJxa1e45_init_da8c8 1 = .ok (.invokespecial 1, 3) := by decide +kernel
theorem dJxa1e45_init_da8c8_4 : decode cJxa1e45_init_da8c8 4 = .ok (.return_, 1) := by decide +kernel
theorem dJxc12de_init_da8c8_0 : decode cJxc12de_init_da8c8 0 = .ok (.aload_n 0, 1) := by decide +kernel
theorem dJxc12de_init_da8c8_1 : decode cJxc12de_init_da8c8 1 = .ok (.invokespecial 1, 3) := by decide +kernel
theorem dJxc12de_init_da8c8_4 : decode cJxc12de_init_da8c8 4 = .ok (.aload_n 0, 1) := by decide +kernel
theorem dJxc12de_init_da8c8_5 : decode cJxc12de_init_da8c8 5 = .ok (.iconst 0, 1) := by decide +kernel
theorem dJxc12de_init_da8c8_6 : decode cJxc12de_init_da8c8 6 = .ok (.putfield 7, 3) := by decide +kernel
theorem dJxc12de_init_da8c8_9 : decode cJxc12de_init_da8c8 9 = .ok (.return_, 1) := by decide +kernel
theorem dJx4a65c_init_da8c8_0 : decode cJx4a65c_init_da8c8 0 = .ok (.aload_n 0, 1) := by decide +kernel
theorem dJx4a65c_init_da8c8_1 : decode cJx4a65c_init_da8c8 1 = .ok (.invokespecial 1, 3) := by decide +kernel
theorem dJx4a65c_init_da8c8_4 : decode cJx4a65c_init_da8c8 4 = .ok (.aload_n 0, 1) := by decide +kernel
theorem dJx4a65c_init_da8c8_5 : decode cJx4a65c_init_da8c8 5 = .ok (.getstatic 39, 3) := by decide +kernel
theorem dJx4a65c_init_da8c8_8 : decode cJx4a65c_init_da8c8 8 = .ok (.putfield 9, 3) := by decide +kernel
theorem dJx4a65c_init_da8c8_11 : decode cJx4a65c_init_da8c8 11 = .ok (.return_, 1) := by decide +kernel
theorem dJx4a65c_grow_92f84_0 : decode cJx4a65c_grow_92f84 0 = .ok (.aload_n 0, 1) := by decide +kernel
theorem dJx4a65c_grow_92f84_1 : decode cJx4a65c_grow_92f84 1 = .ok (.getfield 9, 3) := by decide +kernel
theorem dJx4a65c_grow_92f84_4 : decode cJx4a65c_grow_92f84 4 = .ok (.arraylength, 1) := by decide +kernel
theorem dJx4a65c_grow_92f84_5 : decode cJx4a65c_grow_92f84 5 = .ok (.istore_n 2, 1) := by decide +kernel
theorem dJx4a65c_grow_92f84_6 : decode cJx4a65c_grow_92f84 6 = .ok (.iload_n 2, 1) := by decide +kernel
theorem dJx4a65c_grow_92f84_7 : decode cJx4a65c_grow_92f84 7 = .ok (.ifCond .gt 13, 3) := by decide +kernel
theorem dJx4a65c_grow_92f84_10 : decode cJx4a65c_grow_92f84 10 = .ok (.aload_n 0, 1) := by decide +kernel
theorem dJx4a65c_grow_92f84_11 : decode cJx4a65c_grow_92f84 11 = .ok (.getfield 9, 3) := by decide +kernel
theorem dJx4a65c_grow_92f84_14 : decode cJx4a65c_grow_92f84 14 = .ok (.getstatic 39, 3) := by decide +kernel
theorem dJx4a65c_grow_92f84_17 : decode cJx4a65c_grow_92f84 17 = .ok (.if_acmp .eq 28, 3) := by decide +kernel
theorem dJx4a65c_grow_92f84_20 : decode cJx4a65c_grow_92f84 20 = .ok (.iload_n 2, 1) := by decide +kernel
theorem dJx4a65c_grow_92f84_21 : decode cJx4a65c_grow_92f84 21 = .ok (.iload_n 1, 1) := by decide +kernel
theorem dJx4a65c_grow_92f84_22 : decode cJx4a65c_grow_92f84 22 = .ok (.iload_n 2, 1) := by decide +kernel
theorem dJx4a65c_grow_92f84_23 : decode cJx4a65c_grow_92f84 23 = .ok (.isub, 1) := by decide +kernel
theorem dJx4a65c_grow_92f84_24 : decode cJx4a65c_grow_92f84 24 = .ok (.iload_n 2, 1) := by decide +kernel
theorem dJx4a65c_grow_92f84_25 : decode cJx4a65c_grow_92f84 25 = .ok (.iconst 1, 1) := by decide +kernel
theorem dJx4a65c_grow_92f84_26 : decode cJx4a65c_grow_92f84 26 = .ok (.ishr, 1) := by decide +kernel
theorem dJx4a65c_grow_92f84_27 : decode cJx4a65c_grow_92f84 27 = .ok (.invokestatic 73, 3) := by decide +kernel
theorem dJx4a65c_grow_92f84_30 : decode cJx4a65c_grow_92f84 30 = .ok (.istore_n 3, 1) := by decide +kernel
theorem dJx4a65c_grow_92f84_31 : decode cJx4a65c_grow_92f84 31 = .ok (.aload_n 0, 1) := by decide +kernel
theorem dJx4a65c_grow_92f84_32 : decode cJx4a65c_grow_92f84 32 = .ok (.aload_n 0, 1) := by decide +kernel
theorem dJx4a65c_grow_92f84_33 : decode cJx4a65c_grow_92f84 33 = .ok (.getfield 9, 3) := by decide +kernel
theorem dJx4a65c_grow_92f84_36 : decode cJx4a65c_grow_92f84 36 = .ok (.iload_n 3, 1) := by decide +kernel
theorem dJx4a65c_grow_92f84_37 : decode cJx4a65c_grow_92f84 37 = .ok (.invokestatic 66, 3) := by decide +kernel
theorem dJx4a65c_grow_92f84_40 : decode cJx4a65c_grow_92f84 40 = .ok (.dup_x1, 1) := by decide +kernel
theorem dJx4a65c_grow_92f84_41 : decode cJx4a65c_grow_92f84 41 = .ok (.putfield 9, 3) := by decide +kernel
theorem dJx4a65c_grow_92f84_44 : decode cJx4a65c_grow_92f84 44 = .ok (.areturn, 1) := by decide +kernel
theorem dJx4a65c_grow_92f84_45 : decode cJx4a65c_grow_92f84 45 = .ok (.aload_n 0, 1) := by decide +kernel
theorem dJx4a65c_grow_92f84_46 : decode cJx4a65c_grow_92f84 46 = .ok (.bipush 10, 2) := by decide +kernel
theorem dJx4a65c_grow_92f84_48 : decode cJx4a65c_grow_92f84 48 = .ok (.iload_n 1, 1) := by decide +kernel
theorem dJx4a65c_grow_92f84_49 : decode cJx4a65c_grow_92f84 49 = .ok (.invokestatic 79, 3) := by decide +kernel
theorem dJx4a65c_grow_92f84_52 : decode cJx4a65c_grow_92f84 52 = .ok (.anewarray 7, 3) := by decide +kernel
theorem dJx4a65c_grow_92f84_55 : decode cJx4a65c_grow_92f84 55 = .ok (.dup_x1, 1) := by decide +kernel
theorem dJx4a65c_grow_92f84_56 : decode cJx4a65c_grow_92f84 56 = .ok (.putfield 9, 3) := by decide +kernel
theorem dJx4a65c_grow_92f84_59 : decode cJx4a65c_grow_92f84 59 = .ok (.areturn, 1) := by decide +kernel
theorem dJx4a65c_grow_d5877_0 : decode cJx4a65c_grow_d5877 0 = .ok (.aload_n 0, 1) := by decide +kernel
theorem dJx4a65c_grow_d5877_1 : decode cJx4a65c_grow_d5877 1 = .ok (.aload_n 0, 1) := by decide +kernel
theorem dJx4a65c_grow_d5877_2 : decode cJx4a65c_grow_d5877 2 = .ok (.getfield 48, 3) := by decide +kernel
theorem dJx4a65c_grow_d5877_5 : decode cJx4a65c_grow_d5877 5 = .ok (.iconst 1, 1) := by decide +kernel
theorem dJx4a65c_grow_d5877_6 : decode cJx4a65c_grow_d5877 6 = .ok (.iadd, 1) := by decide +kernel
theorem dJx4a65c_grow_d5877_7 : decode cJx4a65c_grow_d5877 7 = .ok (.invokevirtual 69, 3) := by decide +kernel
theorem dJx4a65c_grow_d5877_10 : decode cJx4a65c_grow_d5877 10 = .ok (.areturn, 1) := by decide +kernel
theorem dJx4a65c_size_8abf5_0 : decode cJx4a65c_size_8abf5 0 = .ok (.aload_n 0, 1) := by decide +kernel
theorem dJx4a65c_size_8abf5_1 : decode cJx4a65c_size_8abf5 1 = .ok (.getfield 48, 3) := by decide +kernel
theorem dJx4a65c_size_8abf5_4 : decode cJx4a65c_size_8abf5 4 = .ok (.ireturn, 1) := by decide +kernel
theorem dJx4a65c_elementData_915e3_0 : decode cJx4a65c_elementData_915e3 0 = .ok (.aload_n 0, 1) := by decide +kernel
theorem dJx4a65c_elementData_915e3_1 : decode cJx4a65c_elementData_915e3 1 = .ok (.getfield 9, 3) := by decide +kernel
theorem dJx4a65c_elementData_915e3_4 : decode cJx4a65c_elementData_915e3 4 = .ok (.iload_n 1, 1) := by decide +kernel
theorem dJx4a65c_elementData_915e3_5 : decode cJx4a65c_elementData_915e3 5 = .ok (.aaload, 1) := by decide +kernel
theorem dJx4a65c_elementData_915e3_6 : decode cJx4a65c_elementData_915e3 6 = .ok (.areturn, 1) := by decide +kernel
theorem dJx4a65c_get_915e3_0 : decode cJx4a65c_get_915e3 0 = .ok (.iload_n 1, 1) := by decide +kernel
theorem dJx4a65c_get_915e3_1 : decode cJx4a65c_get_915e3 1 = .ok (.aload_n 0, 1) := by decide +kernel
theorem dJx4a65c_get_915e3_2 : decode cJx4a65c_get_915e3 2 = .ok (.getfield 48, 3) := by decide +kernel
theorem dJx4a65c_get_915e3_5 : decode cJx4a65c_get_915e3 5 = .ok (.invokestatic 118, 3) := by decide +kernel
theorem dJx4a65c_get_915e3_8 : decode cJx4a65c_get_915e3 8 = .ok (.pop, 1) := by decide +kernel
theorem dJx4a65c_get_915e3_9 : decode cJx4a65c_get_915e3 9 = .ok (.aload_n 0, 1) := by decide +kernel
theorem dJx4a65c_get_915e3_10 : decode cJx4a65c_get_915e3 10 = .ok (.iload_n 1, 1) := by decide +kernel
theorem dJx4a65c_get_915e3_11 : decode cJx4a65c_get_915e3 11 = .ok (.invokevirtual 123, 3) := by decide +kernel
theorem dJx4a65c_get_915e3_14 : decode cJx4a65c_get_915e3 14 = .ok (.areturn, 1) := by decide +kernel
theorem dJx4a65c_add_72be8_0 : decode cJx4a65c_add_72be8 0 = .ok (.iload_n 3, 1) := by decide +kernel
theorem dJx4a65c_add_72be8_1 : decode cJx4a65c_add_72be8 1 = .ok (.aload_n 2, 1) := by decide +kernel
theorem dJx4a65c_add_72be8_2 : decode cJx4a65c_add_72be8 2 = .ok (.arraylength, 1) := by decide +kernel
theorem dJx4a65c_add_72be8_3 : decode cJx4a65c_add_72be8 3 = .ok (.if_icmp .ne 8, 3) := by decide +kernel
theorem dJx4a65c_add_72be8_6 : decode cJx4a65c_add_72be8 6 = .ok (.aload_n 0, 1) := by decide +kernel
theorem dJx4a65c_add_72be8_7 : decode cJx4a65c_add_72be8 7 = .ok (.invokevirtual 129, 3) := by decide +kernel
theorem dJx4a65c_add_72be8_10 : decode cJx4a65c_add_72be8 10 = .ok (.astore_n 2, 1) := by decide +kernel
theorem dJx4a65c_add_72be8_11 : decode cJx4a65c_add_72be8 11 = .ok (.aload_n 2, 1) := by decide +kernel
theorem dJx4a65c_add_72be8_12 : decode cJx4a65c_add_72be8 12 = .ok (.iload_n 3, 1) := by decide +kernel
theorem dJx4a65c_add_72be8_13 : decode cJx4a65c_add_72be8 13 = .ok (.aload_n 1, 1) := by decide +kernel
theorem dJx4a65c_add_72be8_14 : decode cJx4a65c_add_72be8 14 = .ok (.aastore, 1) := by decide +kernel
theorem dJx4a65c_add_72be8_15 : decode cJx4a65c_add_72be8 15 = .ok (.aload_n 0, 1) := by decide +kernel
theorem dJx4a65c_add_72be8_16 : decode cJx4a65c_add_72be8 16 = .ok (.iload_n 3, 1) := by decide +kernel
theorem dJx4a65c_add_72be8_17 : decode cJx4a65c_add_72be8 17 = .ok (.iconst 1, 1) := by decide +kernel
theorem dJx4a65c_add_72be8_18 : decode cJx4a65c_add_72be8 18 = .ok (.iadd, 1) := by decide +kernel
theorem dJx4a65c_add_72be8_19 : decode cJx4a65c_add_72be8 19 = .ok (.putfield 48, 3) := by decide +kernel
theorem dJx4a65c_add_72be8_22 : decode cJx4a65c_add_72be8 22 = .ok (.return_, 1) := by decide +kernel
theorem dJx4a65c_add_9ea2d_0 : decode cJx4a65c_add_9ea2d 0 = .ok (.aload_n 0, 1) := by decide +kernel
theorem dJx4a65c_add_9ea2d_1 : decode cJx4a65c_add_9ea2d 1 = .ok (.dup, 1) := by decide +kernel
theorem dJx4a65c_add_9ea2d_2 : decode cJx4a65c_add_9ea2d 2 = .ok (.getfield 63, 3) := by decide +kernel
theorem dJx4a65c_add_9ea2d_5 : decode cJx4a65c_add_9ea2d 5 = .ok (.iconst 1, 1) := by decide +kernel
theorem dJx4a65c_add_9ea2d_6 : decode cJx4a65c_add_9ea2d 6 = .ok (.iadd, 1) := by decide +kernel
theorem dJx4a65c_add_9ea2d_7 : decode cJx4a65c_add_9ea2d 7 = .ok (.putfield 63, 3) := by decide +kernel
theorem dJx4a65c_add_9ea2d_10 : decode cJx4a65c_add_9ea2d 10 = .ok (.aload_n 0, 1) := by decide +kernel
theorem dJx4a65c_add_9ea2d_11 : decode cJx4a65c_add_9ea2d 11 = .ok (.aload_n 1, 1) := by decide +kernel
theorem dJx4a65c_add_9ea2d_12 : decode cJx4a65c_add_9ea2d 12 = .ok (.aload_n 0, 1) := by decide +kernel
theorem dJx4a65c_add_9ea2d_13 : decode cJx4a65c_add_9ea2d 13 = .ok (.getfield 9, 3) := by decide +kernel
theorem dJx4a65c_add_9ea2d_16 : decode cJx4a65c_add_9ea2d 16 = .ok (.aload_n 0, 1) := by decide +kernel
theorem dJx4a65c_add_9ea2d_17 : decode cJx4a65c_add_9ea2d 17 = .ok (.getfield 48, 3) := by decide +kernel
theorem dJx4a65c_add_9ea2d_20 : decode cJx4a65c_add_9ea2d 20 = .ok (.invokevirtual 131, 3) := by decide +kernel
theorem dJx4a65c_add_9ea2d_23 : decode cJx4a65c_add_9ea2d 23 = .ok (.iconst 1, 1) := by decide +kernel
theorem dJx4a65c_add_9ea2d_24 : decode cJx4a65c_add_9ea2d 24 = .ok (.ireturn, 1) := by decide +kernel
theorem dJ7_copyOf_1904c_0 : decode cJ7_copyOf_1904c 0 = .ok (.aload_n 0, 1) := by decide +kernel
theorem dJ7_copyOf_1904c_1 : decode cJ7_copyOf_1904c 1 = .ok (.iload_n 1, 1) := by decide +kernel
theorem dJ7_copyOf_1904c_2 : decode cJ7_copyOf_1904c 2 = .ok (.aload_n 0, 1) := by decide +kernel
theorem dJ7_copyOf_1904c_3 : decode cJ7_copyOf_1904c 3 = .ok (.invokevirtual 86, 3) := by decide +kernel
theorem dJ7_copyOf_1904c_6 : decode cJ7_copyOf_1904c 6 = .ok (.invokestatic 300, 3) := by decide +kernel
theorem dJ7_copyOf_1904c_9 : decode cJ7_copyOf_1904c 9 = .ok (.areturn, 1) := by decide +kernel
theorem dJ7_copyOf_6403c_0 : decode cJ7_copyOf_6403c 0 = .ok (.aload_n 2, 1) := by decide +kernel
theorem dJ7_copyOf_6403c_1 : decode cJ7_copyOf_6403c 1 = .ok (.ldc 110, 2) := by decide +kernel
theorem dJ7_copyOf_6403c_3 : decode cJ7_copyOf_6403c 3 = .ok (.if_acmp .ne 10, 3) := by decide +kernel
theorem dJ7_copyOf_6403c_6 : decode cJ7_copyOf_6403c 6 = .ok (.iload_n 1, 1) := by decide +kernel
theorem dJ7_copyOf_6403c_7 : decode cJ7_copyOf_6403c 7 = .ok (.anewarray 2, 3) := by decide +kernel
theorem dJ7_copyOf_6403c_10 : decode cJ7_copyOf_6403c 10 = .ok (.goto 14, 3) := by decide +kernel
theorem dJ7_copyOf_6403c_13 : decode cJ7_copyOf_6403c 13 = .ok (.aload_n 2, 1) := by decide +kernel
theorem dJ7_copyOf_6403c_14 : decode cJ7_copyOf_6403c 14 = .ok (.invokevirtual 90, 3) := by decide +kernel
theorem dJ7_copyOf_6403c_17 : decode cJ7_copyOf_6403c 17 = .ok (.iload_n 1, 1) := by decide +kernel
theorem dJ7_copyOf_6403c_18 : decode cJ7_copyOf_6403c 18 = .ok (.invokestatic 95, 3) := by decide +kernel
theorem dJ7_copyOf_6403c_21 : decode cJ7_copyOf_6403c 21 = .ok (.checkcast 110, 3) := by decide +kernel
theorem dJ7_copyOf_6403c_24 : decode cJ7_copyOf_6403c 24 = .ok (.astore_n 3, 1) := by decide +kernel
theorem dJ7_copyOf_6403c_25 : decode cJ7_copyOf_6403c 25 = .ok (.aload_n 0, 1) := by decide +kernel
theorem dJ7_copyOf_6403c_26 : decode cJ7_copyOf_6403c 26 = .ok (.iconst 0, 1) := by decide +kernel
theorem dJ7_copyOf_6403c_27 : decode cJ7_copyOf_6403c 27 = .ok (.aload_n 3, 1) := by decide +kernel
theorem dJ7_copyOf_6403c_28 : decode cJ7_copyOf_6403c 28 = .ok (.iconst 0, 1) := by decide +kernel
theorem dJ7_copyOf_6403c_29 : decode cJ7_copyOf_6403c 29 = .ok (.aload_n 0, 1) := by decide +kernel
theorem dJ7_copyOf_6403c_30 : decode cJ7_copyOf_6403c 30 = .ok (.arraylength, 1) := by decide +kernel
theorem dJ7_copyOf_6403c_31 : decode cJ7_copyOf_6403c 31 = .ok (.iload_n 1, 1) := by decide +kernel
theorem dJ7_copyOf_6403c_32 : decode cJ7_copyOf_6403c 32 = .ok (.invokestatic 304, 3) := by decide +kernel
theorem dJ7_copyOf_6403c_35 : decode cJ7_copyOf_6403c 35 = .ok (.invokestatic 150, 3) := by decide +kernel
theorem dJ7_copyOf_6403c_38 : decode cJ7_copyOf_6403c 38 = .ok (.aload_n 3, 1) := by decide +kernel
theorem dJ7_copyOf_6403c_39 : decode cJ7_copyOf_6403c 39 = .ok (.areturn, 1) := by decide +kernel
theorem dJ15_checkIndex_7cf53_0 : decode cJ15_checkIndex_7cf53 0 = .ok (.iload_n 0, 1) := by decide +kernel
theorem dJ15_checkIndex_7cf53_1 : decode cJ15_checkIndex_7cf53 1 = .ok (.iload_n 1, 1) := by decide +kernel
theorem dJ15_checkIndex_7cf53_2 : decode cJ15_checkIndex_7cf53 2 = .ok (.aconst_null, 1) := by decide +kernel
theorem dJ15_checkIndex_7cf53_3 : decode cJ15_checkIndex_7cf53 3 = .ok (.invokestatic 105, 3) := by decide +kernel
theorem dJ15_checkIndex_7cf53_6 : decode cJ15_checkIndex_7cf53 6 = .ok (.ireturn, 1) := by decide +kernel
theorem dJ8_newLength_cabcc_0 : decode cJ8_newLength_cabcc 0 = .ok (.iload_n 0, 1) := by decide +kernel
theorem dJ8_newLength_cabcc_1 : decode cJ8_newLength_cabcc 1 = .ok (.iload_n 1, 1) := by decide +kernel
theorem dJ8_newLength_cabcc_2 : decode cJ8_newLength_cabcc 2 = .ok (.iload_n 2, 1) := by decide +kernel
theorem dJ8_newLength_cabcc_3 : decode cJ8_newLength_cabcc 3 = .ok (.invokestatic 194, 3) := by decide +kernel
theorem dJ8_newLength_cabcc_6 : decode cJ8_newLength_cabcc 6 = .ok (.iadd, 1) := by decide +kernel
theorem dJ8_newLength_cabcc_7 : decode cJ8_newLength_cabcc 7 = .ok (.istore_n 3, 1) := by decide +kernel
theorem dJ8_newLength_cabcc_8 : decode cJ8_newLength_cabcc 8 = .ok (.iconst 0, 1) := by decide +kernel
theorem dJ8_newLength_cabcc_9 : decode cJ8_newLength_cabcc 9 = .ok (.iload_n 3, 1) := by decide +kernel
theorem dJ8_newLength_cabcc_10 : decode cJ8_newLength_cabcc 10 = .ok (.if_icmp .ge 11, 3) := by decide +kernel
theorem dJ8_newLength_cabcc_13 : decode cJ8_newLength_cabcc 13 = .ok (.iload_n 3, 1) := by decide +kernel
theorem dJ8_newLength_cabcc_14 : decode cJ8_newLength_cabcc 14 = .ok (.ldc 200, 2) := by decide +kernel
theorem dJ8_newLength_cabcc_16 : decode cJ8_newLength_cabcc 16 = .ok (.if_icmp .gt 5, 3) := by decide +kernel
theorem dJ8_newLength_cabcc_19 : decode cJ8_newLength_cabcc 19 = .ok (.iload_n 3, 1) := by decide +kernel
theorem dJ8_newLength_cabcc_20 : decode cJ8_newLength_cabcc 20 = .ok (.ireturn, 1) := by decide +kernel
theorem dJ8_newLength_cabcc_21 : decode cJ8_newLength_cabcc 21 = .ok (.iload_n 0, 1) := by decide +kernel
theorem dJ8_newLength_cabcc_22 : decode cJ8_newLength_cabcc 22 = .ok (.iload_n 1, 1) := by decide +kernel
theorem dJ8_newLength_cabcc_23 : decode cJ8_newLength_cabcc 23 = .ok (.invokestatic 201, 3) := by decide +kernel
theorem dJ8_newLength_cabcc_26 : decode cJ8_newLength_cabcc 26 = .ok (.ireturn, 1) := by decide +kernel
theorem dJ8_hugeLength_7cf53_0 : decode cJ8_hugeLength_7cf53 0 = .ok (.iload_n 0, 1) := by decide +kernel
theorem dJ8_hugeLength_7cf53_1 : decode cJ8_hugeLength_7cf53 1 = .ok (.iload_n 1, 1) := by decide +kernel
theorem dJ8_hugeLength_7cf53_2 : decode cJ8_hugeLength_7cf53 2 = .ok (.iadd, 1) := by decide +kernel
theorem dJ8_hugeLength_7cf53_3 : decode cJ8_hugeLength_7cf53 3 = .ok (.istore_n 2, 1) := by decide +kernel
theorem dJ8_hugeLength_7cf53_4 : decode cJ8_hugeLength_7cf53 4 = .ok (.iload_n 2, 1) := by decide +kernel
theorem dJ8_hugeLength_7cf53_5 : decode cJ8_hugeLength_7cf53 5 = .ok (.ifCond .ge 44, 3) := by decide +kernel
theorem dJ8_hugeLength_7cf53_8 : decode cJ8_hugeLength_7cf53 8 = .ok (.new 204, 3) := by decide +kernel
theorem dJ8_hugeLength_7cf53_11 : decode cJ8_hugeLength_7cf53 11 = .ok (.dup, 1) := by decide +kernel
theorem dJ8_hugeLength_7cf53_12 : decode cJ8_hugeLength_7cf53 12 = .ok (.new 89, 3) := by decide +kernel
theorem dJ8_hugeLength_7cf53_15 : decode cJ8_hugeLength_7cf53 15 = .ok (.dup, 1) := by decide +kernel
theorem dJ8_hugeLength_7cf53_16 : decode cJ8_hugeLength_7cf53 16 = .ok (.invokespecial 91, 3) := by decide +kernel
theorem dJ8_hugeLength_7cf53_19 : decode cJ8_hugeLength_7cf53 19 = .ok (.ldc 206, 2) := by decide +kernel
theorem dJ8_hugeLength_7cf53_21 : decode cJ8_hugeLength_7cf53 21 = .ok (.invokevirtual 94, 3) := by decide +kernel
theorem dJ8_hugeLength_7cf53_24 : decode cJ8_hugeLength_7cf53 24 = .ok (.iload_n 0, 1) := by decide +kernel
theorem dJ8_hugeLength_7cf53_25 : decode cJ8_hugeLength_7cf53 25 = .ok (.invokevirtual 98, 3) := by decide +kernel
theorem dJ8_hugeLength_7cf53_28 : decode cJ8_hugeLength_7cf53 28 = .ok (.ldc 208, 2) := by decide +kernel
theorem dJ8_hugeLength_7cf53_30 : decode cJ8_hugeLength_7cf53 30 = .ok (.invokevirtual 94, 3) := by decide +kernel
theorem dJ8_hugeLength_7cf53_33 : decode cJ8_hugeLength_7cf53 33 = .ok (.iload_n 1, 1) := by decide +kernel
theorem dJ8_hugeLength_7cf53_34 : decode cJ8_hugeLength_7cf53 34 = .ok (.invokevirtual 98, 3) := by decide +kernel
theorem dJ8_hugeLength_7cf53_37 : decode cJ8_hugeLength_7cf53 37 = .ok (.ldc 210, 2) := by decide +kernel
theorem dJ8_hugeLength_7cf53_39 : decode cJ8_hugeLength_7cf53 39 = .ok (.invokevirtual 94, 3) := by decide +kernel
theorem dJ8_hugeLength_7cf53_42 : decode cJ8_hugeLength_7cf53 42 = .ok (.invokevirtual 101, 3) := by decide +kernel
theorem dJ8_hugeLength_7cf53_45 : decode cJ8_hugeLength_7cf53 45 = .ok (.invokespecial 212, 3) := by decide +kernel
theorem dJ8_hugeLength_7cf53_48 : decode cJ8_hugeLength_7cf53 48 = .ok (.athrow, 1) := by decide +kernel
theorem dJ8_hugeLength_7cf53_49 : decode cJ8_hugeLength_7cf53 49 = .ok (.iload_n 2, 1) := by decide +kernel
theorem dJ8_hugeLength_7cf53_50 : decode cJ8_hugeLength_7cf53 50 = .ok (.ldc 200, 2) := by decide +kernel
theorem dJ8_hugeLength_7cf53_52 : decode cJ8_hugeLength_7cf53 52 = .ok (.if_icmp .gt 6, 3) := by decide +kernel
theorem dJ8_hugeLength_7cf53_55 : decode cJ8_hugeLength_7cf53 55 = .ok (.ldc 200, 2) := by decide +kernel
theorem dJ8_hugeLength_7cf53_57 : decode cJ8_hugeLength_7cf53 57 = .ok (.ireturn, 1) := by decide +kernel
theorem dJ8_hugeLength_7cf53_58 : decode cJ8_hugeLength_7cf53 58 = .ok (.iload_n 2, 1) := by decide +kernel
theorem dJ8_hugeLength_7cf53_59 : decode cJ8_hugeLength_7cf53 59 = .ok (.ireturn, 1) := by decide +kernel
theorem dJ3_checkIndex_8e157_0 : decode cJ3_checkIndex_8e157 0 = .ok (.iload_n 0, 1) := by decide +kernel
theorem dJ3_checkIndex_8e157_1 : decode cJ3_checkIndex_8e157 1 = .ok (.ifCond .lt 8, 3) := by decide +kernel
theorem dJ3_checkIndex_8e157_4 : decode cJ3_checkIndex_8e157 4 = .ok (.iload_n 0, 1) := by decide +kernel
theorem dJ3_checkIndex_8e157_5 : decode cJ3_checkIndex_8e157 5 = .ok (.iload_n 1, 1) := by decide +kernel
theorem dJ3_checkIndex_8e157_6 : decode cJ3_checkIndex_8e157 6 = .ok (.if_icmp .lt 10, 3) := by decide +kernel
theorem dJ3_checkIndex_8e157_9 : decode cJ3_checkIndex_8e157 9 = .ok (.aload_n 2, 1) := by decide +kernel
theorem dJ3_checkIndex_8e157_10 : decode cJ3_checkIndex_8e157 10 = .ok (.iload_n 0, 1) := by decide +kernel
theorem dJ3_checkIndex_8e157_11 : decode cJ3_checkIndex_8e157 11 = .ok (.iload_n 1, 1) := by decide +kernel
theorem dJ3_checkIndex_8e157_12 : decode cJ3_checkIndex_8e157 12 = .ok (.invokestatic 95, 3) := by decide +kernel
theorem dJ3_checkIndex_8e157_15 : decode cJ3_checkIndex_8e157 15 = .ok (.athrow, 1) := by decide +kernel
theorem dJ3_checkIndex_8e157_16 : decode cJ3_checkIndex_8e157 16 = .ok (.iload_n 0, 1) := by decide +kernel
theorem dJ3_checkIndex_8e157_17 : decode cJ3_checkIndex_8e157 17 = .ok (.ireturn, 1) := by decide +kernel
end
section
/-! further rows and small facts -/
theorem wd_pp {X Y : wd_T} {t u a b : Nat} {e f : va_E} (h : wd_set X t a e = wd_set Y t a e) (hne : u ≠ t) : wd_set (wd_set X u b f) t a e = wd_set (wd_set Y u b f) t a e := by
  rw [wd_sw hne, h, ← wd_sw hne]
theorem i8_idem (x : Int32) : x.toInt8.toInt32.toInt8.toInt32 = x.toInt8.toInt32 := (vp_nar_byte x.toInt8.toInt32).symm.trans (pk_vb x)
theorem pk_dec {n : Nat} (h : 0 < n) : nI n + Int32.ofInt (-1) = nI (n - 1) := by
  obtain ⟨m, rfl⟩ : ∃ m, n = m + 1 := ⟨n - 1, by omega⟩
  exact pk_m1 m
/-- what lies outside a span of tags stays -/
def Fr (w w' : wd_T) (lo hi : Nat) : Prop := ∀ t, t < lo ∨ hi ≤ t → w' t = w t
theorem Fr.rfl' {w : wd_T} {lo hi : Nat} : Fr w w lo hi := fun _ _ => rfl
theorem Fr.trans {a b c : wd_T} {lo hi : Nat} (h : Fr a b lo hi) (h2 : Fr b c lo hi) : Fr a c lo hi := fun t ht => (h2 t ht).trans (h t ht)
theorem Fr.mono {a b : wd_T} {lo hi lo2 hi2 : Nat} (h : Fr a b lo hi) (h1 : lo2 ≤ lo) (h2 : hi ≤ hi2) : Fr a b lo2 hi2 := fun t ht => h t (by omega)
theorem Fr.set {a : wd_T} {lo hi t x : Nat} {e : va_E} (h1 : lo ≤ t) (h2 : t < hi) : Fr a (wd_set a t x e) lo hi := fun u hu => wd_ne (by omega)
section RW2
variable {g : cx_G} {k : kx_T} {own : String} {cc : ByteArray} {nL : Nat} {rt : Option FieldType} {d mc ms : Nat} {w w' : wd_T} {cells slots : Nat} {Q : State → Prop} {pc q : Nat} {lv lv' : List (Nat × Value)} {st : List Value}
theorem r_bast8 (C : Cx g k own cc nL rt d mc ms) {t a n : Nat} {i : Int32} {f : Nat → Int32} {x : Int32} (ht : w t = some (a, aB g n f)) (j : Nat) (hi : i = nI j) (hj : j < n) (hn : n < 2 ^ 31) (dg : decode cc pc = .ok (.bastore, 1)) (e : pc + 1 = q) (ew : wd_set w t a (aB g n (upd f j x.toInt8.toInt32)) = w') (kk : V g k nL w' cells slots Q q lv st) : V g k nL w cells slots Q pc lv (.int x.toInt8.toInt32 :: .int i :: .ref a :: st) :=
  r_bast C ht j hi hj hn dg e (by rw [i8_idem]; exact ew) kk
/-- System.arraycopy out of a static row of ints -/
theorem r_copySI (C : Cx g k own cc nL rt d mc ms) {t1 b0 a1 n0 n1 ix : Nat} {f f1 : Nat → Int32} {sp dp n : Int32} (Z : va_T .int b0 n0 (fun j => .int (f j)) (cx_A g) (kxs k) (gH g)) (ht1 : w t1 = some (a1, aI g n1 f1)) (hlink : Cond.methodLink own ix arraycopyName ∈ GW) (hnat : Cond.native arraycopyName ∈ GW) (hstat : Cond.static arraycopyName ∈ GW) (hini : Cond.initialized "java/lang/System" ∈ GW) (js jd jn : Nat) (e1 : sp = nI js) (e2 : dp = nI jd) (e3 : n = nI jn) (z1 : js + jn ≤ n0) (z2 : jd + jn ≤ n1) (z3 : n0 < 2 ^ 31) (z4 : n1 < 2 ^ 31) (hfr : 1 ≤ d) (hst : (st.map fun v => v.category).sum ≤ 8) (dg : decode cc pc = .ok (.invokestatic ix, 3)) (e : pc + 3 = q) (ew : wd_set w t1 a1 (aI g n1 (va_cpy f f1 js jd jn)) = w') (kk : V g k nL w' cells slots Q q lv st) : V g k nL w cells slots Q pc lv (.int n :: .int dp :: .ref a1 :: .int sp :: .ref b0 :: st) := by
  subst e ew e1 e2 e3
  intro H locs ls ⟨ws, hP, hD, hw, hS⟩ h2 h3
  obtain ⟨i1, hi1⟩ := hw.1 _ _ _ ht1
  have hts := C.2.2.2.2.1
  have c1 : (nI js).toNatClampNeg = js := nI_clamp (by omega)
  have c2 : (nI jd).toNatClampNeg = jd := nI_clamp (by omega)
  have c3 : (nI jn).toNatClampNeg = jn := nI_clamp (by omega)
  have i1' : (nI js).toInt = (js : Int) := nI_toInt (by omega)
  have i2' : (nI jd).toInt = (jd : Int) := nI_toInt (by omega)
  have i3' : (nI jn).toInt = (jn : Int) := nI_toInt (by omega)
  have hl9 : 40 * d ≤ (kxR k).locals := C.2.2.2.2.2.2.2.2.2.1
  have hwd : nativeFrameWords "java/lang/System" "arraycopy" 5 ≤ 20 := by decide
  obtain ⟨scr, g1, g2, g3, g4, -, g5, g6⟩ := Z
  have hc0 : H[b0]? = some scr := by rw [hS.2.1 b0 (Array.getElem?_eq_some_iff.mp g1).1 g6]; exact g1
  have hc1 : H[a1]? = some (vp_cell (gI g) (n1, .inl f1)) := hP i1 _ hi1
  obtain ⟨hs6, k0, hk0, cm0, hkk0⟩ := g2
  obtain ⟨-, k1, hk1, cm1, hkk1⟩ := (C.2.2.2.2.2.2.1.1.2 1 _ rfl).1 n1 (fun j => .int (f1 j))
  intro T hT X
  obtain ⟨vm', X', step⟩ := X.arraycopy C.1 C.2.2.2.1 (hts _ hlink) (hts _ hnat) (hts _ hstat) (hts _ hini) (src := b0) (dst := a1) (cs := scr) (cd := vp_cell (gI g) (n1, .inl f1)) (srcPos := nI js) (destPos := nI jd) (n := nI jn) (by rw [hT]; exact hc0) (by rw [hT]; exact hc1)
    hs6 (fun _ h => by cases h) g3 (fun h => by cases h) hk0 hk1 hkk0 hkk1 (by simp [refKind]) (nI_pos (by omega)) (nI_pos (by omega)) (nI_pos (by omega))
    (by rw [i1', i3']; omega)
    (by rw [i2', i3']; show ¬ _ > ((arrV (gI g) n1 (fun j => .int (f1 j))).slots.size : Int); rw [arrV_size]; omega)
    (fun vm₁ _ i hi => by
      rw [c1]
      rw [c3] at hi
      have e : scr.slots.getD (js + i) .null = .int (f (js + i)) := by
        rw [Array.getD_eq_getD_getElem?, g5 _ (by omega)]
        rfl
      rw [e]
      exact ⟨rfl, trivial⟩)
    (g := F0 (kxm k) pc ls (.int (nI jn) :: .int (nI jd) :: .ref a1 :: .int (nI js) :: .ref b0 :: st)) rfl (h3.1.trans C.2.2.1.symm) (rest := st) rfl (by rw [C.2.1]; exact dg) (Nat.le_trans hfr C.2.2.2.2.2.2.2.2.1) (by show 2 * 0 + _ + _ ≤ _; omega)
  have e1 : copied scr (vp_cell (gI g) (n1, .inl f1)) (nI js) (nI jd) (nI jn) = vp_cell (gI g) (n1, .inl (va_cpy f f1 (nI js).toNatClampNeg (nI jd).toNatClampNeg (nI jn).toNatClampNeg)) := va_copiedX (fun z => .int z) scr (gI g) f f1 g5 (by rw [c1, c3]; exact z1)
  rw [c1, c2, c3] at e1
  rw [e1] at X' step
  have hl : a1 < H.size := (Array.getElem?_eq_some_iff.mp hc1).1
  have hheap : ((T.setVm vm').setCell a1 (vp_cell (gI g) (n1, .inl (va_cpy f f1 js jd jn)))).heap = H.setIfInBounds a1 (vp_cell (gI g) (n1, .inl (va_cpy f f1 js jd jn))) := by rw [← hT]; rfl
  have oq : ∀ q : Nat, q ≠ a1 → (H.setIfInBounds a1 (vp_cell (gI g) (n1, .inl (va_cpy f f1 js jd jn))))[q]? = H[q]? := fun q hq => by simp [Array.getElem?_setIfInBounds, Ne.symm hq]
  obtain ⟨t, a9, b9⟩ := kk _ _ ls ⟨ws.set i1 (a1, aI g n1 (va_cpy f f1 js jd jn)), hP.set hD hi1 (show (H.setIfInBounds a1 _)[a1]? = some _ by simp [Array.getElem?_setIfInBounds, hl]) oq, hD.set hi1, wl_set hw hD ht1 hi1, ⟨by simp; exact hS.1, fun q g1 g2 => by
      rw [oq q (fun e => g2 (by rw [e]; exact hD.2 i1 _ hi1))]
      exact hS.2.1 q g1 g2, fun q hq => nomatch hq⟩⟩ (fun q hq => by
      rcases List.mem_append.mp hq with h | h
      · exact h2 q h
      · obtain ⟨z, -, hz⟩ := List.mem_map.mp h
        rw [← hz]
        exact hD.2 i1 _ hi1) h3 _ hheap X'
  exact ⟨t, step t a9, b9⟩
end RW2
/-! the compression, as both classes reckon it -/
def rot9 (x p : Int32) : Int32 := (x.toUInt32 >>> (p.toUInt32 &&& Int32.toUInt32 31)).toInt32 ||| (x <<< ((nI 32 - p) &&& 31))
def ush9 (x p : Int32) : Int32 := (x.toUInt32 >>> (p.toUInt32 &&& Int32.toUInt32 31)).toInt32
def ear9 (x : Int32) : Int32 := (rot9 x (nI 7) ^^^ rot9 x (nI 18)) ^^^ ush9 x (nI 3)
def lat9 (x : Int32) : Int32 := (rot9 x (nI 17) ^^^ rot9 x (nI 19)) ^^^ ush9 x (nI 10)
def u9 (kc wt : Int32) (S : Nat → Int32) : Int32 := (((S 7 + ((rot9 (S 4) (nI 6) ^^^ rot9 (S 4) (nI 11)) ^^^ rot9 (S 4) (nI 25))) + ((S 4 &&& S 5) ^^^ ((S 4 ^^^ (-1)) &&& S 6))) + kc) + wt
def v9 (S : Nat → Int32) : Int32 := ((rot9 (S 0) (nI 2) ^^^ rot9 (S 0) (nI 13)) ^^^ rot9 (S 0) (nI 22)) + (((S 0 &&& S 1) ^^^ (S 0 &&& S 2)) ^^^ (S 1 &&& S 2))
def rd1 (kc wt : Int32) (S : Nat → Int32) : Nat → Int32 := fun j => if j = 0 then u9 kc wt S + v9 S else if j = 4 then S 3 + u9 kc wt S else S (j - 1)
def rds (X : Nat → Int32) : Nat → (Nat → Int32) → Nat → Int32
  | 0, S => S
  | t + 1, S => rd1 (kCu t) (X t) (rds X t S)
theorem rds_congr {X Y : Nat → Int32} (S : Nat → Int32) : ∀ t, (∀ j, j < t → X j = Y j) → rds X t S = rds Y t S
  | 0, _ => rfl
  | t + 1, h => by rw [rds, rds, rds_congr S t (fun j hj => h j (by omega)), h t (by omega)]
/-- only places 0 .. 7 of a state matter -/
theorem rds_st {X S T : Nat → Int32} (h : ∀ j, j < 8 → S j = T j) : ∀ t j, j < 8 → rds X t S j = rds X t T j
  | 0, j, hj => h j hj
  | t + 1, j, hj => by
    have ih := rds_st (X := X) h t
    rw [rds, rds]
    unfold rd1 u9 v9
    rw [ih 0 (by omega), ih 1 (by omega), ih 2 (by omega), ih 3 (by omega), ih 4 (by omega), ih 5 (by omega), ih 6 (by omega), ih 7 (by omega), ih (j - 1) (by omega)]
def wb9 (x y : Int32) : Int32 := (x <<< (nI 8 &&& 31)) ||| (y &&& nI 255)
def rdW (M : Nat → Int32) (p : Nat) : Int32 := wb9 (wb9 (wb9 (wb9 (nI 0) (M p)) (M (p + 1))) (M (p + 2))) (M (p + 3))
/-- the words of 64 bytes from b on -/
def sc9 (M : Nat → Int32) (b : Nat) (t : Nat) : Int32 := if t < 16 then rdW M (b + 4 * t) else if h : 16 ≤ t then ((lat9 (sc9 M b (t - 2)) + sc9 M b (t - 7)) + ear9 (sc9 M b (t - 15))) + sc9 M b (t - 16) else 0
termination_by t
decreasing_by all_goals omega
theorem sc9_lo {M : Nat → Int32} {b t : Nat} (h : t < 16) : sc9 M b t = rdW M (b + 4 * t) := by
  rw [sc9, if_pos h]
theorem sc9_hi {M : Nat → Int32} {b t : Nat} (h : 16 ≤ t) : sc9 M b t = ((lat9 (sc9 M b (t - 2)) + sc9 M b (t - 7)) + ear9 (sc9 M b (t - 15))) + sc9 M b (t - 16) := by
  rw [sc9, if_neg (by omega), dif_pos h]
theorem sc9_congr {M N : Nat → Int32} {b : Nat} (h : ∀ j, b ≤ j → j < b + 64 → M j &&& nI 255 = N j &&& nI 255) (t : Nat) (ht : t < 64) : sc9 M b t = sc9 N b t := by
  induction t using Nat.strongRecOn with
  | ind t ih =>
    by_cases h1 : t < 16
    · rw [sc9_lo h1, sc9_lo h1]
      unfold rdW wb9
      rw [h (b + 4 * t) (by omega) (by omega), h (b + 4 * t + 1) (by omega) (by omega), h (b + 4 * t + 2) (by omega) (by omega), h (b + 4 * t + 3) (by omega) (by omega)]
    · rw [sc9_hi (M := M) (t := t) (by omega), sc9_hi (M := N) (t := t) (by omega), ih (t - 2) (by omega) (by omega), ih (t - 7) (by omega) (by omega), ih (t - 15) (by omega) (by omega), ih (t - 16) (by omega) (by omega)]
/-- the state behind 64 bytes -/
def cmp9 (M : Nat → Int32) (b : Nat) (S : Nat → Int32) : Nat → Int32 := fun j => S j + rds (sc9 M b) 64 S j
theorem cmp9_st {M S T : Nat → Int32} {b : Nat} (h : ∀ j, j < 8 → S j = T j) (j : Nat) (hj : j < 8) : cmp9 M b S j = cmp9 M b T j := by
  unfold cmp9
  rw [h j hj, rds_st h 64 j hj]
theorem cmp9_congr {M N : Nat → Int32} {b : Nat} (S : Nat → Int32) (h : ∀ j, b ≤ j → j < b + 64 → M j &&& nI 255 = N j &&& nI 255) : cmp9 M b S = cmp9 N b S := by
  unfold cmp9
  rw [rds_congr S 64 (fun j hj => sc9_congr h j hj)]
/-- n bytes, with what comes behind them, 128 in all (57 to 119 bytes) -/
def pad9 (n : Nat) (f : Nat → Int32) : Nat → Int32 := fun j => if j < n then (f j).toInt8.toInt32 else if j = n then (nI 128).toInt8.toInt32 else if j = 126 then (nI (8 * n / 256)).toInt8.toInt32 else if j = 127 then (nI (8 * n % 256)).toInt8.toInt32 else (nI 0).toInt8.toInt32
def sum9 (n : Nat) (f : Nat → Int32) : Nat → Int32 := cmp9 (pad9 n f) 64 (cmp9 (pad9 n f) 0 kSq)
theorem sum9_congr {n : Nat} {f h : Nat → Int32} (e : ∀ j, j < n → f j = h j) : sum9 n f = sum9 n h := by
  have : pad9 n f = pad9 n h := by
    funext j
    unfold pad9
    by_cases q : j < n
    · rw [if_pos q, if_pos q, e j q]
    · rw [if_neg q, if_neg q]
  unfold sum9
  rw [this]
/-- byte k of a state -/
def dig9 (S : Nat → Int32) (k : Nat) : Int32 := (ush9 (S (k / 4)) (nI (24 - 8 * (k % 4)))).toInt8.toInt32
end
section
/-! Sum: start, add, addZeros, addByte; turn and its like -/
set_option maxHeartbeats 4000000 in
set_option maxRecDepth 20000 in
theorem c_start {l : Launch} {g : cx_G} {w : wd_T} {a0 am aw as9 : Nat} {n : Int32} (h0 : w 110 = some (a0, ob 3 [.ref am, .ref aw, .ref as9, .int n])) : Mt l g yX3_start cX3_start 1 none 0 0 0 w [.ref a0] (fun v w' => v = none ∧ w' 110 = some (a0, ob 3 [.ref am, .ref aw, .ref as9, .int (nI 0)]) ∧ Fr w w' 110 111) := by
  refine mt_of RX3 "start" rfl rfl (by decide) (Nat.le_of_ble_eq_true rfl) [(0, .ref a0)] rfl ?_
  intro k hkl C hin
  subst hkl
  refine r_aload_n C 0 dX3_start_0 rfl rfl ?_
  refine r_iconst C (nI 0) dX3_start_1 (by decide) rfl ?_
  refine r_put (t := 110) (w' := wd_set w 110 a0 (ob 3 [.ref am, .ref aw, .ref as9, .int (nI 0)])) C koX3 h0 3 (by decide) q90 rfl rfl rfl rfl (Nat.le_of_ble_eq_true rfl) dX3_start_2 rfl rfl ?_
  exact r_vret C rfl (by decide) (by decide) dX3_start_5 ⟨rfl, wd_eq, Fr.set (by decide) (by decide)⟩

set_option maxHeartbeats 4000000 in
set_option maxRecDepth 20000 in
theorem c_addByte {l : Launch} {g : cx_G} {w : wd_T} {a0 am aw as9 : Nat} {n : Nat} {msg : Nat → Int32} {x : Int32} (h0 : w 110 = some (a0, ob 3 [.ref am, .ref aw, .ref as9, .int (nI n)])) (h1 : w 111 = some (am, aB g 128 msg)) (hn : n < 128) : Mt l g yX3_addByte cX3_addByte 2 none 0 0 0 w [.ref a0, .int x] (fun v w' => v = none ∧ w' 110 = some (a0, ob 3 [.ref am, .ref aw, .ref as9, .int (nI (n + 1))]) ∧ w' 111 = some (am, aB g 128 (upd msg n x.toInt8.toInt32)) ∧ Fr w w' 110 112) := by
  refine mt_of RX3 "addByte" rfl rfl (by decide) (Nat.le_of_ble_eq_true rfl) [(0, .ref a0), (1, .int x)] rfl ?_
  intro k hkl C hin
  subst hkl
  refine r_aload_n C 0 dX3_addByte_0 rfl rfl ?_
  refine r_get (t := 110) C koX3 h0 3 (by decide) q90 rfl rfl dX3_addByte_1 rfl ?_
  refine r_aload_n C 0 dX3_addByte_4 rfl rfl ?_
  refine r_get (t := 110) C koX3 h0 0 (by decide) q87 rfl rfl dX3_addByte_5 rfl ?_
  refine r_blen (t := 111) C h1 dX3_addByte_8 rfl ?_
  refine r_icmp_ge_f (tgt := 33) C dX3_addByte_9 (by decide) rfl (fun z => absurd ((nI_leI (a := 128) (b := n) (by omega) (by omega)).mp z) (by omega)) ?_
  refine r_aload_n C 0 dX3_addByte_12 rfl rfl ?_
  refine r_get (t := 110) C koX3 h0 0 (by decide) q87 rfl rfl dX3_addByte_13 rfl ?_
  refine r_aload_n C 0 dX3_addByte_16 rfl rfl ?_
  refine r_get (t := 110) C koX3 h0 3 (by decide) q90 rfl rfl dX3_addByte_17 rfl ?_
  refine r_iload_n C 1 dX3_addByte_20 rfl rfl ?_
  refine r_i2b C dX3_addByte_21 rfl ?_
  refine r_bast8 (t := 111) (w' := wd_set w 111 am (aB g 128 (upd msg n x.toInt8.toInt32))) C h1 n rfl (by omega) (by decide) dX3_addByte_22 rfl rfl ?_
  refine r_aload_n C 0 dX3_addByte_23 rfl rfl ?_
  refine r_dup C dX3_addByte_24 rfl rfl ?_
  refine r_get (t := 110) C koX3 ((wd_ne (by decide)).trans h0) 3 (by decide) q90 rfl rfl dX3_addByte_25 rfl ?_
  refine r_iconst C (nI 1) dX3_addByte_28 (by decide) rfl ?_
  refine r_iadd C dX3_addByte_29 rfl ?_
  refine r_ti (show ((nI n) + (nI 1) : Int32) = nI (n + 1) from nI_add n 1) ?_
  refine r_put (t := 110) (w' := wd_set (wd_set w 111 am (aB g 128 (upd msg n x.toInt8.toInt32))) 110 a0 (ob 3 [.ref am, .ref aw, .ref as9, .int (nI (n + 1))])) C koX3 ((wd_ne (by decide)).trans h0) 3 (by decide) q90 rfl rfl rfl rfl (Nat.le_of_ble_eq_true rfl) dX3_addByte_30 rfl rfl ?_
  exact r_vret C rfl (by decide) (by decide) dX3_addByte_33 ⟨rfl, wd_eq, (wd_ne (by decide)).trans wd_eq, (Fr.set (by decide) (by decide)).trans (Fr.set (by decide) (by decide))⟩

/-- bytes n .. n + c - 1 of a message are a row's -/
def adF (msg : Nat → Int32) (n c : Nat) (f : Nat → Int32) : Nat → Int32 := fun j => if n ≤ j ∧ j < n + c then (f (j - n)).toInt8.toInt32 else msg j
theorem adF_0 {msg f : Nat → Int32} {n : Nat} : adF msg n 0 f = msg := by
  funext j
  exact if_neg (by omega)
theorem adF_s {msg f : Nat → Int32} {n c : Nat} {x : Int32} (hx : x.toInt8.toInt32 = (f c).toInt8.toInt32) : upd (adF msg n c f) (n + c) x.toInt8.toInt32 = adF msg n (c + 1) f := by
  funext j
  unfold upd adF
  by_cases h : j = n + c
  · subst h
    rw [if_pos rfl, if_pos (by omega), hx, Nat.add_sub_cancel_left]
  · rw [if_neg h]
    by_cases h2 : n ≤ j ∧ j < n + c
    · rw [if_pos h2, if_pos (by omega)]
    · rw [if_neg h2, if_neg (by omega)]

set_option maxHeartbeats 4000000 in
set_option maxRecDepth 20000 in
theorem c_addZeros {l : Launch} {g : cx_G} {w : wd_T} {a0 am aw as9 : Nat} {n : Nat} {msg : Nat → Int32} {c : Nat} (h0 : w 110 = some (a0, ob 3 [.ref am, .ref aw, .ref as9, .int (nI n)])) (h1 : w 111 = some (am, aB g 128 msg)) (hn : n + c ≤ 128) : Mt l g yX3_addZeros cX3_addZeros 3 none 1 0 0 w [.ref a0, .int (nI c)] (fun v w' => v = none ∧ w' 110 = some (a0, ob 3 [.ref am, .ref aw, .ref as9, .int (nI (n + c))]) ∧ w' 111 = some (am, aB g 128 (adF msg n c (fun _ => 0))) ∧ Fr w w' 110 112) := by
  refine mt_of RX3 "addZeros" rfl rfl (by decide) (Nat.le_of_ble_eq_true rfl) [(0, .ref a0), (1, .int (nI c))] rfl ?_
  intro k hkl C hin
  subst hkl
  refine r_iconst C (nI 0) dX3_addZeros_0 (by decide) rfl ?_
  refine r_istore_n (lv' := [(2, .int (nI 0)), (0, .ref a0), (1, .int (nI c))]) C dX3_addZeros_1 (by decide) rfl rfl ?_
  have loop : ∀ (r i : Nat)  (w1 : wd_T), i + r = c → (w1 110 = some (a0, ob 3 [.ref am, .ref aw, .ref as9, .int (nI (n + i))])) → (w1 111 = some (am, aB g 128 (adF msg n i (fun _ => 0)))) → (Fr w w1 110 112) → V g k 3 w1 0 0 (kQ g k (fun v w' => v = none ∧ w' 110 = some (a0, ob 3 [.ref am, .ref aw, .ref as9, .int (nI (n + c))]) ∧ w' 111 = some (am, aB g 128 (adF msg n c (fun _ => 0))) ∧ Fr w w' 110 112) 0 0) 2 [(2, .int (nI i)), (0, .ref a0), (1, .int (nI c))] [] := by
    intro r
    induction r with
    | zero =>
      intro i  w1 hi g0 g1 gf
      refine r_iload_n C 0 dX3_addZeros_2 rfl rfl ?_
      refine r_iload_n C 2 dX3_addZeros_3 rfl rfl ?_
      refine r_icmp_ge_t (tgt := 18) C dX3_addZeros_4 (by decide) ((nI_leI (a := c) (b := i) (by omega) (by omega)).mpr (by omega)) ?_
      obtain rfl : i = c := by omega
      exact r_vret C rfl (by decide) (by decide) dX3_addZeros_18 ⟨rfl, g0, g1, gf⟩
    | succ r ih =>
      intro i  w1 hi g0 g1 gf
      refine r_iload_n C 0 dX3_addZeros_2 rfl rfl ?_
      refine r_iload_n C 2 dX3_addZeros_3 rfl rfl ?_
      refine r_icmp_ge_f (tgt := 18) C dX3_addZeros_4 (by decide) rfl (fun z => absurd ((nI_leI (a := c) (b := i) (by omega) (by omega)).mp z) (by omega)) ?_
      refine r_aload_n C 1 dX3_addZeros_7 rfl rfl ?_
      refine r_iconst C (nI 0) dX3_addZeros_8 (by decide) rfl ?_
      refine r_callV (t := 110) (As := [.int (nI 0)]) (st := []) C koX3 g0 (c_addByte g0 g1 (by omega)) q359 q356 q358 qp6 q7 rfl ⟨by decide, by decide⟩ (show (parseMethodDescriptor yX3_addByte.desc).map (fun d => d.parameters.length) = some 1 by decide +kernel) (by decide) (by decide) (by decide) (by decide) (Nat.le_of_ble_eq_true rfl) rfl dX3_addZeros_9 rfl ?_
      rintro v9 w3 ⟨rfl, e0, e1, ef2⟩
      show V g k 3 w3 0 0 (kQ g k (fun v w' => v = none ∧ w' 110 = some (a0, ob 3 [.ref am, .ref aw, .ref as9, .int (nI (n + c))]) ∧ w' 111 = some (am, aB g 128 (adF msg n c (fun _ => 0))) ∧ Fr w w' 110 112) 0 0) 12 [(2, .int (nI i)), (0, .ref a0), (1, .int (nI c))] []
      refine r_iinc (v := nI (i + 1)) (lv' := [(2, .int (nI (i + 1))), (0, .ref a0), (1, .int (nI c))]) C 0 dX3_addZeros_12 rfl (nI_1 i) (by decide) rfl rfl ?_
      refine r_goto (tgt := 2) C dX3_addZeros_15 (by decide) ?_
      exact ih (i + 1) _ (by omega) e0 (by rw [← adF_s (f := (fun _ => 0)) (x := nI 0) rfl]; exact e1) (gf.trans ef2)
  exact loop c 0 w (by omega) h0 (by rw [adF_0]; exact h1) Fr.rfl'

set_option maxHeartbeats 4000000 in
set_option maxRecDepth 20000 in
theorem c_add {l : Launch} {g : cx_G} {w : wd_T} {a0 am aw as9 : Nat} {n : Nat} {msg : Nat → Int32} {c tb ab nb fr : Nat} {fb : Nat → Int32} (h0 : w 110 = some (a0, ob 3 [.ref am, .ref aw, .ref as9, .int (nI n)])) (h1 : w 111 = some (am, aB g 128 msg)) (hb : w tb = some (ab, aB g nb fb)) (htb : tb < 110 ∨ 112 ≤ tb) (hn : n + c ≤ 128) (hfr : fr + c ≤ nb) (hnb : nb < 65536) : Mt l g yX3_add cX3_add 6 none 1 0 0 w [.ref a0, .ref ab, .int (nI fr), .int (nI c)] (fun v w' => v = none ∧ w' 110 = some (a0, ob 3 [.ref am, .ref aw, .ref as9, .int (nI (n + c))]) ∧ w' 111 = some (am, aB g 128 (adF msg n c (fun j => fb (fr + j)))) ∧ Fr w w' 110 112) := by
  refine mt_of RX3 "add" rfl rfl (by decide) (Nat.le_of_ble_eq_true rfl) [(0, .ref a0), (1, .ref ab), (2, .int (nI fr)), (3, .int (nI c))] rfl ?_
  intro k hkl C hin
  subst hkl
  refine r_iconst C (nI 0) dX3_add_0 (by decide) rfl ?_
  refine r_istore (lv' := [(4, .int (nI 0)), (0, .ref a0), (1, .ref ab), (2, .int (nI fr)), (3, .int (nI c))]) C dX3_add_1 (by decide) rfl rfl ?_
  have loop : ∀ (r i : Nat)  (w1 : wd_T), i + r = c → (w1 110 = some (a0, ob 3 [.ref am, .ref aw, .ref as9, .int (nI (n + i))])) → (w1 111 = some (am, aB g 128 (adF msg n i (fun j => fb (fr + j))))) → (Fr w w1 110 112) → V g k 6 w1 0 0 (kQ g k (fun v w' => v = none ∧ w' 110 = some (a0, ob 3 [.ref am, .ref aw, .ref as9, .int (nI (n + c))]) ∧ w' 111 = some (am, aB g 128 (adF msg n c (fun j => fb (fr + j)))) ∧ Fr w w' 110 112) 0 0) 3 [(4, .int (nI i)), (0, .ref a0), (1, .ref ab), (2, .int (nI fr)), (3, .int (nI c))] [] := by
    intro r
    induction r with
    | zero =>
      intro i  w1 hi g0 g1 gf
      refine r_iload C 0 dX3_add_3 rfl rfl ?_
      refine r_iload_n C 4 dX3_add_5 rfl rfl ?_
      refine r_icmp_ge_t (tgt := 41) C dX3_add_6 (by decide) ((nI_leI (a := c) (b := i) (by omega) (by omega)).mpr (by omega)) ?_
      obtain rfl : i = c := by omega
      exact r_vret C rfl (by decide) (by decide) dX3_add_41 ⟨rfl, g0, g1, gf⟩
    | succ r ih =>
      intro i  w1 hi g0 g1 gf
      have gb : w1 tb = some (ab, aB g nb fb) := (gf tb htb).trans hb
      refine r_iload C 0 dX3_add_3 rfl rfl ?_
      refine r_iload_n C 4 dX3_add_5 rfl rfl ?_
      refine r_icmp_ge_f (tgt := 41) C dX3_add_6 (by decide) rfl (fun z => absurd ((nI_leI (a := c) (b := i) (by omega) (by omega)).mp z) (by omega)) ?_
      refine r_iload_n C 3 dX3_add_9 rfl rfl ?_
      refine r_iload C 0 dX3_add_10 rfl rfl ?_
      refine r_iadd C dX3_add_12 rfl ?_
      refine r_ti (show ((nI fr) + (nI i) : Int32) = nI (fr + i) from nI_add fr i) ?_
      refine r_istore (lv' := [(5, .int (nI (fr + i))), (4, .int (nI i)), (0, .ref a0), (1, .ref ab), (2, .int (nI fr)), (3, .int (nI c))]) C dX3_add_13 (by decide) rfl rfl ?_
      refine r_iload C 0 dX3_add_15 rfl rfl ?_
      refine r_if_lt_f (tgt := 35) C dX3_add_17 (by decide) rfl (nI_pos (by omega)) ?_
      refine r_iload C 0 dX3_add_20 rfl rfl ?_
      refine r_aload_n C 3 dX3_add_22 rfl rfl ?_
      refine r_blen (t := tb) C gb dX3_add_23 rfl ?_
      refine r_icmp_ge_f (tgt := 35) C dX3_add_24 (by decide) rfl (fun z => absurd ((nI_leI (a := nb) (b := (fr + i)) (by omega) (by omega)).mp z) (by omega)) ?_
      refine r_aload_n C 2 dX3_add_27 rfl rfl ?_
      refine r_aload_n C 3 dX3_add_28 rfl rfl ?_
      refine r_iload C 0 dX3_add_29 rfl rfl ?_
      refine r_bald (t := tb) C gb (fr + i) rfl (by omega) (by omega) dX3_add_31 rfl ?_
      refine r_callV (t := 110) (As := [.int (fb (fr + i))]) (st := []) C koX3 g0 (c_addByte g0 g1 (by omega)) q359 q356 q358 qp6 q7 rfl ⟨by decide, by decide⟩ (show (parseMethodDescriptor yX3_addByte.desc).map (fun d => d.parameters.length) = some 1 by decide +kernel) (by decide) (by decide) (by decide) (by decide) (Nat.le_of_ble_eq_true rfl) rfl dX3_add_32 rfl ?_
      rintro v9 w3 ⟨rfl, e0, e1, ef2⟩
      show V g k 6 w3 0 0 (kQ g k (fun v w' => v = none ∧ w' 110 = some (a0, ob 3 [.ref am, .ref aw, .ref as9, .int (nI (n + c))]) ∧ w' 111 = some (am, aB g 128 (adF msg n c (fun j => fb (fr + j)))) ∧ Fr w w' 110 112) 0 0) 35 [(5, .int (nI (fr + i))), (4, .int (nI i)), (0, .ref a0), (1, .ref ab), (2, .int (nI fr)), (3, .int (nI c))] []
      refine r_iinc (v := nI (i + 1)) (lv' := [(4, .int (nI (i + 1))), (5, .int (nI (fr + i))), (0, .ref a0), (1, .ref ab), (2, .int (nI fr)), (3, .int (nI c))]) C 1 dX3_add_35 rfl (nI_1 i) (by decide) rfl rfl ?_
      refine r_goto (tgt := 3) C dX3_add_38 (by decide) ?_
      refine r_sub (lv' := [(4, .int (nI (i + 1))), (0, .ref a0), (1, .ref ab), (2, .int (nI fr)), (3, .int (nI c))]) [0, 2, 3, 4, 5] rfl ?_
      exact ih (i + 1) _ (by omega) e0 (by rw [← adF_s (f := (fun j => fb (fr + j))) (x := fb (fr + i)) rfl]; exact e1) (gf.trans ef2)
  exact loop c 0 w (by omega) h0 (by rw [adF_0]; exact h1) Fr.rfl'

set_option maxHeartbeats 4000000 in
set_option maxRecDepth 20000 in
theorem c_turn {l : Launch} {g : cx_G} {w : wd_T} {x p9 : Int32} : Mt l g yX3_turn cX3_turn 2 (some .int) 0 0 0 w [.int x, .int p9] (fun v w' => v = some (.int (rot9 x p9)) ∧ w = w') := by
  refine mt_of RX3 "turn" rfl rfl (by decide) (Nat.le_of_ble_eq_true rfl) [(0, .int x), (1, .int p9)] rfl ?_
  intro k hkl C hin
  subst hkl
  refine r_iload_n C 0 dX3_turn_0 rfl rfl ?_
  refine r_iload_n C 1 dX3_turn_1 rfl rfl ?_
  refine r_iushr C dX3_turn_2 rfl ?_
  refine r_iload_n C 0 dX3_turn_3 rfl rfl ?_
  refine r_bipush C (nI 32) dX3_turn_4 (by decide) rfl ?_
  refine r_iload_n C 1 dX3_turn_6 rfl rfl ?_
  refine r_isub C dX3_turn_7 rfl ?_
  refine r_ishl C dX3_turn_8 rfl ?_
  refine r_ior C dX3_turn_9 rfl ?_
  exact r_iret C rfl (by decide) (by decide) dX3_turn_10 ⟨rfl, rfl⟩

set_option maxHeartbeats 4000000 in
set_option maxRecDepth 20000 in
theorem c_earlyWord {l : Launch} {g : cx_G} {w : wd_T} {x : Int32} : Mt l g yX3_earlyWord cX3_earlyWord 1 (some .int) 1 0 0 w [.int x] (fun v w' => v = some (.int (ear9 x)) ∧ w = w') := by
  refine mt_of RX3 "earlyWord" rfl rfl (by decide) (Nat.le_of_ble_eq_true rfl) [(0, .int x)] rfl ?_
  intro k hkl C hin
  subst hkl
  refine r_iload_n C 0 dX3_earlyWord_0 rfl rfl ?_
  refine r_bipush C (nI 7) dX3_earlyWord_1 (by decide) rfl ?_
  refine r_callS (As := [.int x, .int (nI 7)]) (st := []) C (c_turn) q381 q379 q380 q7 ⟨by decide, by decide⟩ (show (parseMethodDescriptor yX3_turn.desc).map (fun d => d.parameters.length) = some 2 by decide +kernel) (by decide) (by decide) (by decide) (by decide) (Nat.le_of_ble_eq_true rfl) rfl dX3_earlyWord_3 rfl ?_
  rintro v9 w1 ⟨rfl, rfl⟩
  show V g k 1 w 0 0 (kQ g k (fun v w' => v = some (.int (ear9 x)) ∧ w = w') 0 0) 6 [(0, .int x)] [.int (rot9 x (nI 7))]
  refine r_iload_n C 0 dX3_earlyWord_6 rfl rfl ?_
  refine r_bipush C (nI 18) dX3_earlyWord_7 (by decide) rfl ?_
  refine r_callS (As := [.int x, .int (nI 18)]) (st := [.int (rot9 x (nI 7))]) C (c_turn) q381 q379 q380 q7 ⟨by decide, by decide⟩ (show (parseMethodDescriptor yX3_turn.desc).map (fun d => d.parameters.length) = some 2 by decide +kernel) (by decide) (by decide) (by decide) (by decide) (Nat.le_of_ble_eq_true rfl) rfl dX3_earlyWord_9 rfl ?_
  rintro v9 w2 ⟨rfl, rfl⟩
  show V g k 1 w 0 0 (kQ g k (fun v w' => v = some (.int (ear9 x)) ∧ w = w') 0 0) 12 [(0, .int x)] [.int (rot9 x (nI 18)), .int (rot9 x (nI 7))]
  refine r_ixor C dX3_earlyWord_12 rfl ?_
  refine r_iload_n C 0 dX3_earlyWord_13 rfl rfl ?_
  refine r_iconst C (nI 3) dX3_earlyWord_14 (by decide) rfl ?_
  refine r_iushr C dX3_earlyWord_15 rfl ?_
  refine r_ixor C dX3_earlyWord_16 rfl ?_
  exact r_iret C rfl (by decide) (by decide) dX3_earlyWord_17 ⟨rfl, rfl⟩

set_option maxHeartbeats 4000000 in
set_option maxRecDepth 20000 in
theorem c_lateWord {l : Launch} {g : cx_G} {w : wd_T} {x : Int32} : Mt l g yX3_lateWord cX3_lateWord 1 (some .int) 1 0 0 w [.int x] (fun v w' => v = some (.int (lat9 x)) ∧ w = w') := by
  refine mt_of RX3 "lateWord" rfl rfl (by decide) (Nat.le_of_ble_eq_true rfl) [(0, .int x)] rfl ?_
  intro k hkl C hin
  subst hkl
  refine r_iload_n C 0 dX3_lateWord_0 rfl rfl ?_
  refine r_bipush C (nI 17) dX3_lateWord_1 (by decide) rfl ?_
  refine r_callS (As := [.int x, .int (nI 17)]) (st := []) C (c_turn) q381 q379 q380 q7 ⟨by decide, by decide⟩ (show (parseMethodDescriptor yX3_turn.desc).map (fun d => d.parameters.length) = some 2 by decide +kernel) (by decide) (by decide) (by decide) (by decide) (Nat.le_of_ble_eq_true rfl) rfl dX3_lateWord_3 rfl ?_
  rintro v9 w1 ⟨rfl, rfl⟩
  show V g k 1 w 0 0 (kQ g k (fun v w' => v = some (.int (lat9 x)) ∧ w = w') 0 0) 6 [(0, .int x)] [.int (rot9 x (nI 17))]
  refine r_iload_n C 0 dX3_lateWord_6 rfl rfl ?_
  refine r_bipush C (nI 19) dX3_lateWord_7 (by decide) rfl ?_
  refine r_callS (As := [.int x, .int (nI 19)]) (st := [.int (rot9 x (nI 17))]) C (c_turn) q381 q379 q380 q7 ⟨by decide, by decide⟩ (show (parseMethodDescriptor yX3_turn.desc).map (fun d => d.parameters.length) = some 2 by decide +kernel) (by decide) (by decide) (by decide) (by decide) (Nat.le_of_ble_eq_true rfl) rfl dX3_lateWord_9 rfl ?_
  rintro v9 w2 ⟨rfl, rfl⟩
  show V g k 1 w 0 0 (kQ g k (fun v w' => v = some (.int (lat9 x)) ∧ w = w') 0 0) 12 [(0, .int x)] [.int (rot9 x (nI 19)), .int (rot9 x (nI 17))]
  refine r_ixor C dX3_lateWord_12 rfl ?_
  refine r_iload_n C 0 dX3_lateWord_13 rfl rfl ?_
  refine r_bipush C (nI 10) dX3_lateWord_14 (by decide) rfl ?_
  refine r_iushr C dX3_lateWord_16 rfl ?_
  refine r_ixor C dX3_lateWord_17 rfl ?_
  exact r_iret C rfl (by decide) (by decide) dX3_lateWord_18 ⟨rfl, rfl⟩

set_option maxHeartbeats 4000000 in
set_option maxRecDepth 20000 in
theorem c_sumByte {l : Launch} {g : cx_G} {w : wd_T} {a0 am aw as9 : Nat} {n : Int32} {sta : Nat → Int32} {i : Nat} (h0 : w 110 = some (a0, ob 3 [.ref am, .ref aw, .ref as9, .int n])) (h3 : w 113 = some (as9, aI g 8 sta)) (hi : i < 32) : Mt l g yX3_sumByte cX3_sumByte 2 (some .byte) 0 0 0 w [.ref a0, .int (nI i)] (fun v w' => v = some (.int (dig9 sta i)) ∧ w = w') := by
  refine mt_of RX3 "sumByte" rfl rfl (by decide) (Nat.le_of_ble_eq_true rfl) [(0, .ref a0), (1, .int (nI i))] rfl ?_
  intro k hkl C hin
  subst hkl
  refine r_aload_n C 0 dX3_sumByte_0 rfl rfl ?_
  refine r_get (t := 110) C koX3 h0 2 (by decide) q89 rfl rfl dX3_sumByte_1 rfl ?_
  refine r_iload_n C 1 dX3_sumByte_4 rfl rfl ?_
  refine r_iconst C (nI 4) dX3_sumByte_5 (by decide) rfl ?_
  refine r_idiv C dX3_sumByte_6 (by decide) rfl ?_
  refine r_ti (show ((nI i) / (nI 4) : Int32) = nI (i / 4) from pk_div (by omega) (by omega) (by omega)) ?_
  refine r_iald (t := 113) C h3 (i / 4) rfl (by omega) (by decide) dX3_sumByte_7 rfl ?_
  refine r_bipush C (nI 24) dX3_sumByte_8 (by decide) rfl ?_
  refine r_bipush C (nI 8) dX3_sumByte_10 (by decide) rfl ?_
  refine r_iload_n C 1 dX3_sumByte_12 rfl rfl ?_
  refine r_iconst C (nI 4) dX3_sumByte_13 (by decide) rfl ?_
  refine r_irem C dX3_sumByte_14 (by decide) rfl ?_
  refine r_ti (show ((nI i) - (nI i) / (nI 4) * (nI 4) : Int32) = nI (i % 4) from pk_rem (by omega) (by omega) (by omega)) ?_
  refine r_imul C dX3_sumByte_15 rfl ?_
  refine r_ti (show ((nI 8) * (nI (i % 4)) : Int32) = nI (8 * (i % 4)) from pk_mul 8 (i % 4)) ?_
  refine r_isub C dX3_sumByte_16 rfl ?_
  refine r_ti (show ((nI 24) - (nI (8 * (i % 4))) : Int32) = nI (24 - (8 * (i % 4))) from pk_sub (by omega)) ?_
  refine r_iushr C dX3_sumByte_17 rfl ?_
  refine r_i2b C dX3_sumByte_18 rfl ?_
  exact r_zret C rfl (pk_nb _) (by decide) (by decide) dX3_sumByte_19 ⟨rfl, rfl⟩
end
section
/-! ===== a byte read unsigned ===== -/
theorem bp_b (x : Int32) : x.toInt8.toInt32 &&& 255 = x &&& 255 := by
  apply Int32.toBitVec_inj.mp
  rw [Int32.toBitVec_and, Int32.toBitVec_and, Int8.toBitVec_toInt32, Int32.toBitVec_toInt8]
  apply BitVec.eq_of_getLsbD_eq
  intro i hi
  rw [BitVec.getLsbD_and, BitVec.getLsbD_and]
  have hm : ∀ i < 32, 8 ≤ i → (255 : Int32).toBitVec.getLsbD i = false := by decide
  rcases Nat.lt_or_ge i 8 with z | z
  · rw [BitVec.getLsbD_signExtend, BitVec.getLsbD_signExtend, if_pos z, if_pos hi]
    simp only [z, hi, decide_true, Bool.true_and]
  · rw [hm i hi z]; simp
/-! ===== Int32 by its bits: bt x i ===== -/
def bt (x : Int32) (i : Nat) : Bool := x.toBitVec.getLsbD i
theorem b_ext {x y : Int32} (h : ∀ i, i < 32 → bt x i = bt y i) : x = y := Int32.toBitVec_inj.mp (BitVec.eq_of_getLsbD_eq (fun i hi => h i hi))
theorem b_or (x y : Int32) (i : Nat) : bt (x ||| y) i = (bt x i || bt y i) := by unfold bt; rw [Int32.toBitVec_or, BitVec.getLsbD_or]
theorem b_and (x y : Int32) (i : Nat) : bt (x &&& y) i = (bt x i && bt y i) := by unfold bt; rw [Int32.toBitVec_and, BitVec.getLsbD_and]
theorem b_xor (x y : Int32) (i : Nat) : bt (x ^^^ y) i = (bt x i ^^ bt y i) := by unfold bt; rw [Int32.toBitVec_xor, BitVec.getLsbD_xor]
theorem b_big {x : Int32} {i : Nat} (h : 32 ≤ i) : bt x i = false := BitVec.getLsbD_of_ge _ _ h
theorem b_255 (i : Nat) : bt 255 i = decide (i < 8) := by
  rcases Nat.lt_or_ge i 32 with h | h
  · exact (by decide +kernel : ∀ i, i < 32 → bt 255 i = decide (i < 8)) i h
  · rw [b_big h, decide_eq_false (by omega)]
theorem b_65535 (i : Nat) : bt 65535 i = decide (i < 16) := by
  rcases Nat.lt_or_ge i 32 with h | h
  · exact (by decide +kernel : ∀ i, i < 32 → bt 65535 i = decide (i < 16)) i h
  · rw [b_big h, decide_eq_false (by omega)]
theorem b_m1 : ∀ i, i < 32 → bt (-1) i = true := by decide +kernel
theorem b_0 (i : Nat) : bt 0 i = false := BitVec.getLsbD_zero
theorem s_l : ∀ n, n < 32 → ((nI n &&& 31).toBitVec.smod 32).toNat = n := by decide +kernel
theorem s_u : ∀ n, n < 32 → (((nI n).toUInt32 &&& Int32.toUInt32 31).toBitVec % 32).toNat = n := by decide +kernel
theorem b_shl (n : Nat) (hn : n < 32) (x : Int32) {i : Nat} (hi : i < 32) : bt (x <<< (nI n &&& 31)) i = (decide (n ≤ i) && bt x (i - n)) := by
  unfold bt
  rw [Int32.toBitVec_shiftLeft]
  show (x.toBitVec <<< ((nI n &&& 31).toBitVec.smod 32).toNat).getLsbD i = _
  rw [s_l n hn, BitVec.getLsbD_shiftLeft]
  rcases Nat.lt_or_ge i n with h | h
  · simp [h, Nat.not_le.mpr h]
  · simp [hi, h, Nat.not_lt.mpr h]
theorem b_ushr (n : Nat) (hn : n < 32) (x : Int32) (i : Nat) : bt ((x.toUInt32 >>> ((nI n).toUInt32 &&& Int32.toUInt32 31)).toInt32) i = bt x (n + i) := by
  show (x.toUInt32 >>> ((nI n).toUInt32 &&& Int32.toUInt32 31)).toBitVec.getLsbD i = x.toUInt32.toBitVec.getLsbD (n + i)
  rw [UInt32.toBitVec_shiftRight]
  show (x.toUInt32.toBitVec >>> (((nI n).toUInt32 &&& Int32.toUInt32 31).toBitVec % 32).toNat).getLsbD i = _
  rw [s_u n hn, BitVec.getLsbD_ushiftRight]
theorem b_sshr (n : Nat) (hn : n < 32) (x : Int32) {i : Nat} (hi : i < 32) : bt (x >>> (nI n &&& 31)) i = if n + i < 32 then bt x (n + i) else bt x 31 := by
  unfold bt
  rw [Int32.toBitVec_shiftRight]
  show (x.toBitVec.sshiftRight ((nI n &&& 31).toBitVec.smod 32).toNat).getLsbD i = _
  rw [s_l n hn, BitVec.getLsbD_sshiftRight, BitVec.msb_eq_getLsbD_last]
  simp [hi]
theorem b_shl8 (x : Int32) {i : Nat} (hi : i < 32) : bt (x <<< ((8 : Int32) &&& 31)) i = (decide (8 ≤ i) && bt x (i - 8)) := b_shl 8 (by omega) x hi
theorem b_shl16 (x : Int32) {i : Nat} (hi : i < 32) : bt (x <<< ((16 : Int32) &&& 31)) i = (decide (16 ≤ i) && bt x (i - 16)) := b_shl 16 (by omega) x hi
theorem b_shl24 (x : Int32) {i : Nat} (hi : i < 32) : bt (x <<< ((24 : Int32) &&& 31)) i = (decide (24 ≤ i) && bt x (i - 24)) := b_shl 24 (by omega) x hi
theorem b_sshr8 (x : Int32) {i : Nat} (hi : i < 32) : bt (x >>> ((8 : Int32) &&& 31)) i = if 8 + i < 32 then bt x (8 + i) else bt x 31 := b_sshr 8 (by omega) x hi
/-! ===== lN n to 2^64: shifts, and, or, masks, one bit ===== -/
theorem wb_tb (n : Nat) : (lN n).toBitVec = BitVec.ofNat 64 n := rfl
theorem wb_inj {a b : Int64} (h : a.toBitVec = b.toBitVec) : a = b := Int64.toBitVec_inj.mp h
theorem wb_tn {n : Nat} (h : n < 2 ^ 64) : (lN n).toBitVec.toNat = n := by rw [wb_tb, BitVec.toNat_ofNat, Nat.mod_eq_of_lt h]
theorem wb_of (x : Int64) : ∃ n, n < 2 ^ 64 ∧ x = lN n := ⟨x.toBitVec.toNat, x.toBitVec.isLt, wb_inj (by rw [wb_tb]; simp)⟩
theorem wb_of32 (x : Int32) : ∃ n, n < 2 ^ 32 ∧ x = nI n := ⟨x.toBitVec.toNat, x.toBitVec.isLt, Int32.toBitVec_inj.mp (by show _ = BitVec.ofNat 32 _; simp)⟩
theorem wb_c : ∀ k, k < 64 → ((nI k).toInt64 &&& 63) = lN k := by decide +kernel
theorem wb_cu : ∀ k, k < 64 → ((nI k).toInt64.toUInt64 &&& Int64.toUInt64 63) = UInt64.ofNat k := by decide +kernel
theorem wb_sm : ∀ k, k < 64 → (BitVec.ofNat 64 k).smod 64 = BitVec.ofNat 64 k := by decide +kernel
theorem wb_pw {a b : Nat} (h : a ≤ b) : 2 ^ b = 2 ^ a * 2 ^ (b - a) := by rw [← Nat.pow_add]; congr 1; omega
theorem wb_lt2 {a b : Nat} (h : a < b) : 2 ^ a < 2 ^ b := Nat.pow_lt_pow_right (by decide) h
theorem wb_mod (n : Nat) : lN n = lN (n % 2 ^ 64) := wb_inj (by rw [wb_tb, wb_tb]; apply BitVec.eq_of_toNat_eq; rw [BitVec.toNat_ofNat, BitVec.toNat_ofNat, Nat.mod_mod])
theorem wb_shr {n k : Nat} (hn : n < 2 ^ 64) (hk : k < 64) : ((lN n).toUInt64 >>> ((nI k).toInt64.toUInt64 &&& Int64.toUInt64 63)).toInt64 = lN (n / 2 ^ k) := by
  rw [wb_cu k hk]
  apply wb_inj
  apply BitVec.eq_of_toNat_eq
  show ((lN n).toUInt64 >>> UInt64.ofNat k).toNat = (BitVec.ofNat 64 _).toNat
  have h1 : (UInt64.ofNat k).toNat = k := by
    show (BitVec.ofNat 64 k).toNat = k
    rw [BitVec.toNat_ofNat, Nat.mod_eq_of_lt (by omega)]
  have h2 : (lN n).toUInt64.toNat = n := wb_tn hn
  rw [UInt64.toNat_shiftRight, h1, h2, Nat.mod_eq_of_lt hk, Nat.shiftRight_eq_div_pow, BitVec.toNat_ofNat, Nat.mod_eq_of_lt (Nat.lt_of_le_of_lt (Nat.div_le_self _ _) hn)]
theorem wb_shl (n : Nat) {k : Nat} (hk : k < 64) : lN n <<< ((nI k).toInt64 &&& 63) = lN (n * 2 ^ k) := by
  rw [wb_c k hk]
  apply wb_inj
  rw [Int64.toBitVec_shiftLeft, wb_tb, wb_tb, wb_tb, wb_sm k hk]
  apply BitVec.eq_of_toNat_eq
  rw [BitVec.shiftLeft_eq', BitVec.toNat_shiftLeft, BitVec.toNat_ofNat, BitVec.toNat_ofNat, BitVec.toNat_ofNat, Nat.mod_eq_of_lt (show k < 2 ^ 64 by omega), Nat.shiftLeft_eq, Nat.mul_mod, Nat.mod_mod, ← Nat.mul_mod]
theorem wb_and {a b : Nat} (ha : a < 2 ^ 64) (hb : b < 2 ^ 64) : lN a &&& lN b = lN (a &&& b) := by
  apply wb_inj
  rw [Int64.toBitVec_and, wb_tb, wb_tb, wb_tb]
  apply BitVec.eq_of_toNat_eq
  rw [BitVec.toNat_and, BitVec.toNat_ofNat, BitVec.toNat_ofNat, BitVec.toNat_ofNat, Nat.mod_eq_of_lt ha, Nat.mod_eq_of_lt hb, Nat.mod_eq_of_lt (Nat.and_lt_two_pow _ hb)]
theorem wb_or {a b : Nat} (ha : a < 2 ^ 64) (hb : b < 2 ^ 64) : lN a ||| lN b = lN (a ||| b) := by
  apply wb_inj
  rw [Int64.toBitVec_or, wb_tb, wb_tb, wb_tb]
  apply BitVec.eq_of_toNat_eq
  rw [BitVec.toNat_or, BitVec.toNat_ofNat, BitVec.toNat_ofNat, BitVec.toNat_ofNat, Nat.mod_eq_of_lt ha, Nat.mod_eq_of_lt hb, Nat.mod_eq_of_lt (Nat.or_lt_two_pow ha hb)]
theorem wb_mask {n k : Nat} (hn : n < 2 ^ 64) (hk : k < 64) : lN n &&& lN (2 ^ k - 1) = lN (n % 2 ^ k) := by
  rw [wb_and hn (by have := wb_lt2 hk; omega), Nat.and_two_pow_sub_one_eq_mod]
theorem wb_a1 {n : Nat} (hn : n < 2 ^ 64) : lN n &&& 1 = lN (n % 2) := wb_mask (k := 1) hn (by decide)
theorem wb_bit {n k : Nat} (hn : n < 2 ^ 64) (hk : k < 64) : ((lN n).toUInt64 >>> ((nI k).toInt64.toUInt64 &&& Int64.toUInt64 63)).toInt64 &&& 1 = lN (n / 2 ^ k % 2) := by
  rw [wb_shr hn hk, wb_a1 (Nat.lt_of_le_of_lt (Nat.div_le_self _ _) hn)]
theorem wb_xor {q k : Nat} (hk : k < 63) (h : 2 ^ k ≤ q) (h2 : q < 2 ^ (k + 1)) : lN q ^^^ lN (2 ^ k) = lN (q - 2 ^ k) := by
  obtain ⟨r, rfl⟩ : ∃ r, q = 2 ^ k + r := ⟨q - 2 ^ k, by omega⟩
  have hr : r < 2 ^ k := by rw [Nat.pow_succ] at h2; omega
  have hx : (2 ^ k + r) ^^^ 2 ^ k = r := by
    apply Nat.eq_of_testBit_eq
    intro i
    rw [Nat.testBit_xor, Nat.testBit_two_pow]
    rcases Nat.lt_trichotomy i k with h | h | h
    · rw [Nat.testBit_two_pow_add_gt h]
      simp [show ¬ k = i by omega]
    · subst h
      rw [Nat.testBit_two_pow_add_eq]
      simp
    · have a1 : 2 ^ (k + 1) ≤ 2 ^ i := Nat.pow_le_pow_right (by decide) h
      rw [Nat.testBit_lt_two_pow (show 2 ^ k + r < 2 ^ i by omega), Nat.testBit_lt_two_pow (show r < 2 ^ i by omega)]
      simp [show ¬ k = i by omega]
  have b1 := wb_lt2 (show k + 1 < 64 by omega)
  have b2 := wb_lt2 (show k < 64 by omega)
  apply wb_inj
  rw [Int64.toBitVec_xor, wb_tb, wb_tb, wb_tb]
  apply BitVec.eq_of_toNat_eq
  rw [BitVec.toNat_xor, BitVec.toNat_ofNat, BitVec.toNat_ofNat, BitVec.toNat_ofNat, Nat.mod_eq_of_lt (by omega : 2 ^ k + r < 2 ^ 64), Nat.mod_eq_of_lt b2, hx, Nat.add_sub_cancel_left, Nat.mod_eq_of_lt (by omega)]
/-! plain facts on numbers and arrays, to paste: each family by itself; over the kit's rows on nI and upd -/
/-! ===== order of ints, in all its forms, and through longs ===== -/
theorem fa_lt (a b : Int32) : a < b ↔ a.toInt < b.toInt := Int32.lt_iff_toInt_lt
theorem fa_le (a b : Int32) : a ≤ b ↔ a.toInt ≤ b.toInt := Int32.le_iff_toInt_le
theorem fa_eq (a b : Int32) : a = b ↔ a.toInt = b.toInt := Int32.toInt_inj.symm
theorem fa_lt64 (a b : Int64) : a < b ↔ a.toInt < b.toInt := Int64.lt_iff_toInt_lt
theorem fa_le64 (a b : Int64) : a ≤ b ↔ a.toInt ≤ b.toInt := Int64.le_iff_toInt_le
theorem fa_eq64 (a b : Int64) : a = b ↔ a.toInt = b.toInt := Int64.toInt_inj.symm
/-- a comparison of two ints taken as longs -/
theorem fa_wide_lt (a b : Int32) : a.toInt64 < b.toInt64 ↔ a < b := by rw [fa_lt64, fa_lt, Int32.toInt_toInt64, Int32.toInt_toInt64]
theorem fa_wide_le (a b : Int32) : a.toInt64 ≤ b.toInt64 ↔ a ≤ b := by rw [fa_le64, fa_le, Int32.toInt_toInt64, Int32.toInt_toInt64]
theorem fa_wide_eq (a b : Int32) : a.toInt64 = b.toInt64 ↔ a = b := by rw [fa_eq64, fa_eq, Int32.toInt_toInt64, Int32.toInt_toInt64]
/-- one strict comparison gives all the others -/
theorem fa_of_lt {a b : Int32} (h : a < b) : a ≤ b ∧ ¬ b ≤ a ∧ ¬ b < a ∧ a ≠ b ∧ b ≠ a := by
  rw [fa_lt] at h
  refine ⟨?_, ?_, ?_, ?_, ?_⟩
  · rw [fa_le]; omega
  · rw [fa_le]; omega
  · rw [fa_lt]; omega
  · intro e; rw [fa_eq] at e; omega
  · intro e; rw [fa_eq] at e; omega
theorem fa_of_nlt {a b : Int32} (h : ¬ a < b) : b ≤ a := by
  rw [fa_lt] at h
  rw [fa_le]
  omega
theorem fa_of_nle {a b : Int32} (h : ¬ a ≤ b) : b < a := by
  rw [fa_le] at h
  rw [fa_lt]
  omega
theorem fa_le_ne {a b : Int32} (h : a ≤ b) (h2 : a ≠ b) : a < b := by
  rw [fa_le] at h
  rw [fa_lt]
  have h3 : a.toInt ≠ b.toInt := fun e => h2 ((fa_eq a b).mpr e)
  omega
theorem fa_three (a b : Int32) : a < b ∨ a = b ∨ b < a := by
  rw [fa_lt, fa_lt, fa_eq]
  omega
theorem fa_trans {a b c : Int32} (h : a < b) (h2 : b ≤ c) : a < c := by
  rw [fa_lt] at *
  rw [fa_le] at h2
  omega
/-! ===== small literals as numbers ===== -/
theorem fa_lit (n : Nat) : (OfNat.ofNat n : Int32) = nI n := rfl
theorem fa_litL (n : Nat) : (OfNat.ofNat n : Int64) = lN n := rfl
/-! ===== bits of a number: 'or', masks, one bit ===== -/
theorem fa_and (a b : Nat) : nI a &&& nI b = nI (a &&& b) := by
  apply Int32.toBitVec_inj.1
  show BitVec.ofNat 32 a &&& BitVec.ofNat 32 b = BitVec.ofNat 32 (a &&& b)
  apply BitVec.eq_of_getLsbD_eq
  intro i hi
  simp [hi]
theorem fa_or (a b : Nat) : nI a ||| nI b = nI (a ||| b) := by
  apply Int32.toBitVec_inj.1
  show BitVec.ofNat 32 a ||| BitVec.ofNat 32 b = BitVec.ofNat 32 (a ||| b)
  apply BitVec.eq_of_getLsbD_eq
  intro i hi
  simp [hi]
/-- a remainder by a power of two, as a mask -/
theorem fa_mask (n k : Nat) : nI n &&& nI (2 ^ k - 1) = nI (n % 2 ^ k) := by rw [fa_and, Nat.and_two_pow_sub_one_eq_mod]
/-- 'or' of a high part and a low one that don't meet is their sum -/
theorem fa_or_sum {a k : Nat} (b : Nat) (h : a < 2 ^ k) : nI (2 ^ k * b) ||| nI a = nI (2 ^ k * b + a) := by rw [fa_or, Nat.two_pow_add_eq_or_of_lt h]
/-- one bit, by 'and' with a power of two -/
theorem fa_bit {n j : Nat} (hj : j < 31) : nI n &&& nI (2 ^ j) = 0 ↔ n.testBit j = false := by
  have h2 : (2 : Nat) ^ j < 2 ^ 31 := Nat.pow_lt_pow_right (by decide) hj
  have hle : n &&& 2 ^ j ≤ 2 ^ j := Nat.and_le_right
  have e : n &&& 2 ^ j = 0 ↔ n.testBit j = false := by
    constructor
    · intro h
      have h1 : (n &&& 2 ^ j).testBit j = false := by rw [h]; simp
      rw [Nat.testBit_and] at h1
      first | simpa using h1 | simpa [Nat.testBit_two_pow_self] using h1 | simpa [Nat.testBit_two_pow] using h1
    · intro h
      apply Nat.eq_of_testBit_eq
      intro i
      rw [Nat.testBit_and]
      by_cases hi : j = i
      · subst hi; simp [h]
      · first | (simp [Nat.testBit_two_pow, hi]; done) | (simp [Nat.testBit_two_pow_of_ne hi]; done)
  rw [fa_and]
  constructor
  · intro h
    apply e.mp
    rcases Nat.eq_zero_or_pos (n &&& 2 ^ j) with z | z
    · exact z
    · exact absurd h (nI_ne0 z (Nat.lt_of_le_of_lt hle h2))
  · intro h
    rw [e.mpr h]; exact nI_0
/-- a remainder by a power of two of a number that isn't negative, as Java divides -/
theorem fa_rem {a k : Nat} (ha : a < 2 ^ 31) (hk : k < 31) : nI a - nI a / nI (2 ^ k) * nI (2 ^ k) = nI (a % 2 ^ k) := pk_rem ha (Nat.two_pow_pos k) (Nat.pow_lt_pow_right (by decide) hk)
/-! ===== cuts to a byte, a short ===== -/
theorem fa_byte_xor (x y : Int32) : (x ^^^ y).toInt8 = x.toInt8 ^^^ y.toInt8 := by
  apply Int8.toBitVec_inj.1
  apply BitVec.eq_of_getLsbD_eq
  intro i hi
  first | (simp [hi]; done) | (simp [hi, BitVec.getLsbD_setWidth, BitVec.getLsbD_signExtend]; done)
theorem fa_short_xor (x y : Int32) : (x ^^^ y).toInt16 = x.toInt16 ^^^ y.toInt16 := by
  apply Int16.toBitVec_inj.1
  apply BitVec.eq_of_getLsbD_eq
  intro i hi
  first | (simp [hi]; done) | (simp [hi, BitVec.getLsbD_setWidth, BitVec.getLsbD_signExtend]; done)
/-- the cut to a byte sees the low byte alone -/
theorem fa_byte_low (x : Int32) : (x &&& 255).toInt8 = x.toInt8 := by
  apply Int8.toBitVec_inj.1
  apply BitVec.eq_of_getLsbD_eq
  intro i hi
  have h2 : (255 : Int32).toBitVec.getLsbD i = true := by
    have : ∀ j : Fin 8, (255 : Int32).toBitVec.getLsbD j.val = true := by decide +kernel
    exact this ⟨i, hi⟩
  have h4 : (x &&& 255).toBitVec.getLsbD i = x.toBitVec.getLsbD i := by
    show (x.toBitVec &&& (255 : Int32).toBitVec).getLsbD i = _
    rw [BitVec.getLsbD_and, h2, Bool.and_true]
  have h3 : i < 32 := by omega
  first
    | (show (((x &&& 255).toBitVec).signExtend 8).getLsbD i = (x.toBitVec.signExtend 8).getLsbD i; rw [BitVec.getLsbD_signExtend, BitVec.getLsbD_signExtend, if_pos h3, if_pos h3, h4])
    | (show (((x &&& 255).toBitVec).setWidth 8).getLsbD i = (x.toBitVec.setWidth 8).getLsbD i; rw [BitVec.getLsbD_setWidth, BitVec.getLsbD_setWidth, h4])
    | (simp [hi, h3, h4]; done)
theorem fa_short_low (x : Int32) : (x &&& 65535).toInt16 = x.toInt16 := by
  apply Int16.toBitVec_inj.1
  apply BitVec.eq_of_getLsbD_eq
  intro i hi
  have h2 : (65535 : Int32).toBitVec.getLsbD i = true := by
    have : ∀ j : Fin 16, (65535 : Int32).toBitVec.getLsbD j.val = true := by decide +kernel
    exact this ⟨i, hi⟩
  have h4 : (x &&& 65535).toBitVec.getLsbD i = x.toBitVec.getLsbD i := by
    show (x.toBitVec &&& (65535 : Int32).toBitVec).getLsbD i = _
    rw [BitVec.getLsbD_and, h2, Bool.and_true]
  have h3 : i < 32 := by omega
  first
    | (show (((x &&& 65535).toBitVec).signExtend 16).getLsbD i = (x.toBitVec.signExtend 16).getLsbD i; rw [BitVec.getLsbD_signExtend, BitVec.getLsbD_signExtend, if_pos h3, if_pos h3, h4])
    | (show (((x &&& 65535).toBitVec).setWidth 16).getLsbD i = (x.toBitVec.setWidth 16).getLsbD i; rw [BitVec.getLsbD_setWidth, BitVec.getLsbD_setWidth, h4])
    | (simp [hi, h3, h4]; done)
/-- a small number is its own byte, its own short -/
theorem fa_byte_small {n : Nat} (h : n < 128) : (nI n).toInt8.toInt32 = nI n := by
  have : ∀ j : Fin 128, (nI j.val).toInt8.toInt32 = nI j.val := by decide +kernel
  exact this ⟨n, h⟩
/-! ===== absolute difference ===== -/
theorem fa_absdiff {a b : Nat} (ha : a < 2 ^ 31) (hb : b < 2 ^ 31) : (if nI a < nI b then nI b - nI a else nI a - nI b) = nI (if a < b then b - a else a - b) := by
  by_cases h : a < b
  · rw [if_pos (nI_lt h hb), if_pos h]
    exact pk_sub (Nat.le_of_lt h)
  · rw [if_neg (nI_nlt (Nat.le_of_not_lt h) ha), if_neg h]
    exact pk_sub (Nat.le_of_not_lt h)
/-! ===== an array behind i stores, a conditional store, a row copied ===== -/
/-- f where k < i, what stood there else -/
def fa_fill {α : Type} (f g : Nat → α) (i : Nat) : Nat → α := fun k => if k < i then f k else g k
theorem fa_fill_0 {α : Type} (f g : Nat → α) : fa_fill f g 0 = g := funext fun k => if_neg (Nat.not_lt_zero k)
theorem fa_fill_in {α : Type} {f g : Nat → α} {i k : Nat} (h : k < i) : fa_fill f g i k = f k := if_pos h
theorem fa_fill_out {α : Type} {f g : Nat → α} {i k : Nat} (h : i ≤ k) : fa_fill f g i k = g k := if_neg (Nat.not_lt.mpr h)
theorem fa_fill_succ (f g : Nat → Int32) (i : Nat) : upd (fa_fill f g i) i (f i) = fa_fill f g (i + 1) := by
  funext k
  by_cases e : k = i
  · subst e
    rw [pk_us]
    exact (if_pos (Nat.lt_succ_self k)).symm
  · rw [pk_un e]
    by_cases h : k < i
    · rw [fa_fill_in h, fa_fill_in (Nat.lt_succ_of_lt h)]
    · rw [fa_fill_out (Nat.le_of_not_lt h), fa_fill_out (by omega)]
/-- a store that changes nothing -/
theorem fa_upd_same {f : Nat → Int32} {i : Nat} {x : Int32} (h : f i = x) : upd f i x = f := by
  funext k
  by_cases e : k = i
  · subst e
    rw [pk_us, h]
  · rw [pk_un e]
/-- a store under a condition, told as one -/
theorem fa_upd_if (c : Prop) [Decidable c] (f : Nat → Int32) (i : Nat) (x : Int32) : (if c then upd f i x else f) = upd f i (if c then x else f i) := by
  by_cases h : c
  · rw [if_pos h, if_pos h]
  · rw [if_neg h, if_neg h, fa_upd_same rfl]
/-- two stores at one place, at two -/
theorem fa_upd_twice (f : Nat → Int32) (i : Nat) (x y : Int32) : upd (upd f i x) i y = upd f i y := by
  funext k
  by_cases e : k = i
  · subst e
    rw [pk_us, pk_us]
  · rw [pk_un e, pk_un e, pk_un e]
theorem fa_upd_swap (f : Nat → Int32) {i j : Nat} (h : i ≠ j) (x y : Int32) : upd (upd f i x) j y = upd (upd f j y) i x := by
  funext k
  by_cases e : k = i
  · subst e
    rw [pk_un h, pk_us, pk_us]
  · by_cases e2 : k = j
    · subst e2
      rw [pk_us, pk_un e, pk_us]
    · rw [pk_un e2, pk_un e, pk_un e, pk_un e2]
/-! ===== the first index with a property; a count ===== -/
/-- the first k < n with p k, n if there is none -/
def fa_first (p : Nat → Bool) : Nat → Nat
  | 0 => 0
  | n + 1 => if fa_first p n < n then fa_first p n else if p n then n else n + 1
theorem fa_first_le (p : Nat → Bool) : ∀ n, fa_first p n ≤ n
  | 0 => Nat.le_refl 0
  | n + 1 => by
    have ih := fa_first_le p n
    unfold fa_first
    split
    · omega
    · split
      · omega
      · omega
theorem fa_first_no (p : Nat → Bool) : ∀ n k, k < fa_first p n → p k = false
  | 0, k, h => absurd h (Nat.not_lt_zero k)
  | n + 1, k, h => by
    have ih := fa_first_no p n
    have hl := fa_first_le p n
    unfold fa_first at h
    split at h
    · exact ih k h
    · rename_i h1
      split at h
      · exact ih k (by omega)
      · rename_i h2
        by_cases e : k = n
        · subst e
          exact Bool.eq_false_iff.mpr h2
        · exact ih k (by omega)
theorem fa_first_yes (p : Nat → Bool) : ∀ n, fa_first p n < n → p (fa_first p n) = true
  | 0, h => absurd h (Nat.not_lt_zero _)
  | n + 1, h => by
    have ih := fa_first_yes p n
    have hl := fa_first_le p n
    unfold fa_first at h ⊢
    split at h
    · rename_i h1
      rw [if_pos h1]
      exact ih h1
    · rename_i h1
      rw [if_neg h1]
      split at h
      · rename_i h2
        rw [if_pos h2]
        exact h2
      · omega
/-- how many k < n have p k -/
def fa_cnt (p : Nat → Bool) : Nat → Nat
  | 0 => 0
  | n + 1 => fa_cnt p n + if p n then 1 else 0
theorem fa_cnt_le (p : Nat → Bool) : ∀ n, fa_cnt p n ≤ n
  | 0 => Nat.le_refl 0
  | n + 1 => by
    have ih := fa_cnt_le p n
    unfold fa_cnt
    split
    · omega
    · omega
theorem fa_cnt_yes {p : Nat → Bool} {n : Nat} (h : p n = true) : fa_cnt p (n + 1) = fa_cnt p n + 1 := by rw [fa_cnt, if_pos h]
theorem fa_cnt_no {p : Nat → Bool} {n : Nat} (h : p n = false) : fa_cnt p (n + 1) = fa_cnt p n := by rw [fa_cnt, if_neg (by rw [h]; decide)]; rfl
theorem fa_cnt_cong {p q : Nat → Bool} : ∀ {n : Nat}, (∀ k, k < n → p k = q k) → fa_cnt p n = fa_cnt q n
  | 0, _ => rfl
  | n + 1, h => by rw [fa_cnt, fa_cnt, fa_cnt_cong (fun k hk => h k (Nat.lt_succ_of_lt hk)), h n (Nat.lt_succ_self n)]
/-! ===== an answer carried into a post; a branch on a boolean answer ===== -/
theorem fa_post {α : Type} {P : α → Prop} {x y : α} (h : x = y) (hp : P y) : P x := h ▸ hp
theorem fa_post2 {α β : Type} {P : α → β → Prop} {x y : α} {u v : β} (h : x = y) (h2 : u = v) (hp : P y v) : P x u := h ▸ h2 ▸ hp
theorem fa_bool {r : Int32} {b : Bool} (h : r = if b then 1 else 0) : (r = 0 ↔ b = false) ∧ (¬ r = 0 ↔ b = true) := by
  subst h
  cases b
  · exact ⟨⟨fun _ => rfl, fun _ => rfl⟩, ⟨fun h => absurd rfl h, fun h => absurd h (by decide)⟩⟩
  · exact ⟨⟨fun h => absurd h (by decide), fun h => absurd h (by decide)⟩, ⟨fun _ => rfl, fun _ => by decide⟩⟩
/-- a boolean's narrowing changes nothing -/
theorem fa_bool_and {r : Int32} (h : r = 0 ∨ r = 1) : r &&& 1 = r := by
  rcases h with rfl | rfl
  · decide
  · decide
theorem fa_bool_prop {c : Prop} [Decidable c] {r : Int32} (h : r = if c then 1 else 0) : (r = 0 ↔ ¬ c) ∧ (¬ r = 0 ↔ c) := by
  subst h
  by_cases hc : c
  · rw [if_pos hc]
    exact ⟨⟨fun h => absurd h (by decide), fun h => absurd hc h⟩, ⟨fun _ => hc, fun _ => by decide⟩⟩
  · rw [if_neg hc]
    exact ⟨⟨fun _ => hc, fun _ => rfl⟩, ⟨fun h => absurd rfl h, fun h => absurd h hc⟩⟩


theorem lsh9 {m k : Nat} (hm : m < 2 ^ 62) (hk : k < 64) : ((lN m).toUInt64 >>> ((nI k).toInt64.toUInt64 &&& Int64.toUInt64 63)).toInt64.toInt32 = nI (m / 2 ^ k) := by
  rw [wb_shr (by omega) hk, lN_i]
theorem n8_mod (m : Nat) : (nI m).toInt8 = (nI (m % 256)).toInt8 := by
  apply Int8.toBitVec_inj.mp
  rw [Int32.toBitVec_toInt8, Int32.toBitVec_toInt8, BitVec.signExtend_eq_setWidth_of_le _ (by decide), BitVec.signExtend_eq_setWidth_of_le _ (by decide)]
  apply BitVec.eq_of_toNat_eq
  rw [BitVec.toNat_setWidth, BitVec.toNat_setWidth]
  show (BitVec.ofNat 32 m).toNat % 2 ^ 8 = (BitVec.ofNat 32 (m % 256)).toNat % 2 ^ 8
  rw [BitVec.toNat_ofNat, BitVec.toNat_ofNat]
  omega
-- statics, out of the surroundings of a frame
section KS
variable {g : cx_G} {k : kx_T} {own : String} {cc : ByteArray} {nL : Nat} {rt : Option FieldType} {d mc ms : Nat}
theorem ks_S (C : Cx g k own cc nL rt d mc ms) : va_Z "TicketChain" "SQUARE_ROOTS" "[I" (.ref (gsS g)) (cx_A g) (kxs k) (gH g) := C.2.2.2.2.2.2.1.2.1.1
theorem ks_St (C : Cx g k own cc nL rt d mc ms) : va_T .int (gsS g) 8 (fun j => .int (kSq j)) (cx_A g) (kxs k) (gH g) := C.2.2.2.2.2.2.1.2.1.2.1
theorem ks_C (C : Cx g k own cc nL rt d mc ms) : va_Z "TicketChain" "CUBE_ROOTS" "[I" (.ref (gsC g)) (cx_A g) (kxs k) (gH g) := C.2.2.2.2.2.2.1.2.1.2.2.1
theorem ks_Ct (C : Cx g k own cc nL rt d mc ms) : va_T .int (gsC g) 64 (fun j => .int (kCu j)) (cx_A g) (kxs k) (gH g) := C.2.2.2.2.2.2.1.2.1.2.2.2.1
theorem ks_E (C : Cx g k own cc nL rt d mc ms) : va_Z "java/util/ArrayList" "DEFAULTCAPACITY_EMPTY_ELEMENTDATA" "[Ljava/lang/Object;" (.ref (gsE g)) (cx_A g) (kxs k) (gH g) := C.2.2.2.2.2.2.1.2.1.2.2.2.2.1
theorem ks_Et (C : Cx g k own cc nL rt d mc ms) : va_T (.object "java/lang/Object") (gsE g) 0 (fun _ => .null) (cx_A g) (kxs k) (gH g) := C.2.2.2.2.2.2.1.2.1.2.2.2.2.2.1
theorem ks_V (C : Cx g k own cc nL rt d mc ms) : vk_R "TicketChain$Form" 37 " VOID " (gsV g) (kxs k) := C.2.2.2.2.2.2.1.2.1.2.2.2.2.2.2.1
theorem ks_Vo (C : Cx g k own cc nL rt d mc ms) : va_O "java/lang/String" (gsV g) (cx_A g) (kxs k) (gH g) := C.2.2.2.2.2.2.1.2.1.2.2.2.2.2.2.2.1
theorem ks_Vc (C : Cx g k own cc nL rt d mc ms) : va_OF "java/lang/String" "coder" "B" (.int 0) (gsV g) (cx_A g) (kxs k) (gH g) := C.2.2.2.2.2.2.1.2.1.2.2.2.2.2.2.2.2.1
theorem ks_Vv (C : Cx g k own cc nL rt d mc ms) : va_OF "java/lang/String" "value" "[B" (.ref (gsW g)) (gsV g) (cx_A g) (kxs k) (gH g) := C.2.2.2.2.2.2.1.2.1.2.2.2.2.2.2.2.2.2.1
theorem ks_Vt (C : Cx g k own cc nL rt d mc ms) : va_T .byte (gsW g) 6 (fun j => .int (kVo j)) (cx_A g) (kxs k) (gH g) := C.2.2.2.2.2.2.1.2.1.2.2.2.2.2.2.2.2.2.2.1
theorem ks_CS (C : Cx g k own cc nL rt d mc ms) : va_Z "java/lang/String" "COMPACT_STRINGS" "Z" (.int 1) (cx_A g) (kxs k) (gH g) := C.2.2.2.2.2.2.1.2.1.2.2.2.2.2.2.2.2.2.2.2.1
theorem r_getsN {w : wd_T} {cells slots : Nat} {Q : State → Prop} {pc q : Nat} {lv : List (Nat × Value)} {st : List Value} (C : Cx g k own cc nL rt d mc ms) {CN nm dd ref host : String} {ix : Nat} {v : Value} (Z : va_Z CN nm dd v (cx_A g) (kxs k) (gH g)) (hlink : Cond.fieldLinkNest own ix ref nm dd host ∈ NW) (href : ref = CN) (dg : decode cc pc = .ok (.getstatic ix, 3)) (e : pc + 3 = q) (kk : V g k nL w cells slots Q q lv (v :: st)) : V g k nL w cells slots Q pc lv st := by
  subst e href
  intro H locs ls ⟨ws, hP, hD, hw, hS⟩ h2 h3
  obtain ⟨cf, kf, fi, f, a, cell, g1, g2, g3, g4, g5, g6, g7, g8⟩ := Z
  exact va_WgetsN C.1 C.2.1 C.2.2.2.1 (va_Nw.use (nw_onT (nw_in hlink)) (C.2.2.2.2.2.2.1.2.2 _ hlink)) g1 g2 g3 g4 (by rw [hS.2.1 a (Array.getElem?_eq_some_iff.mp g5).1 g8]; exact g5) (fun e => by rw [e] at g6; cases g6) g7 rfl dg (kk H locs ls ⟨ws, hP, hD, hw, hS⟩ h2 h3)
end KS
end
section
/-! Sum: readWords, mixWords, finish, copyTo, isAt -/
set_option maxHeartbeats 4000000 in
set_option maxRecDepth 20000 in
theorem c_mixWords {l : Launch} {g : cx_G} {w : wd_T} {a0 am aw as9 : Nat} {n : Int32} {wds sta : Nat → Int32} (h0 : w 110 = some (a0, ob 3 [.ref am, .ref aw, .ref as9, .int n])) (h2 : w 112 = some (aw, aI g 64 wds)) (h3 : w 113 = some (as9, aI g 8 sta)) : Mt l g yX3_mixWords cX3_mixWords 12 none 1 0 0 w [.ref a0] (fun v w' => v = none ∧ (∃ sta' : Nat → Int32, w' 113 = some (as9, aI g 8 sta') ∧ ∀ j, j < 8 → sta' j = sta j + rds wds 64 sta j) ∧ Fr w w' 113 114) := by
  refine mt_of RX3 "mixWords" rfl rfl (by decide) (Nat.le_of_ble_eq_true rfl) [(0, .ref a0)] rfl ?_
  intro k hkl C hin
  subst hkl
  refine r_aload_n C 0 dX3_mixWords_0 rfl rfl ?_
  refine r_get (t := 110) C koX3 h0 2 (by decide) q89 rfl rfl dX3_mixWords_1 rfl ?_
  refine r_iconst C (nI 0) dX3_mixWords_4 (by decide) rfl ?_
  refine r_iald (t := 113) C h3 0 rfl (by decide) (by decide) dX3_mixWords_5 rfl ?_
  refine r_istore_n (lv' := [(1, .int (sta 0)), (0, .ref a0)]) C dX3_mixWords_6 (by decide) rfl rfl ?_
  refine r_aload_n C 1 dX3_mixWords_7 rfl rfl ?_
  refine r_get (t := 110) C koX3 h0 2 (by decide) q89 rfl rfl dX3_mixWords_8 rfl ?_
  refine r_iconst C (nI 1) dX3_mixWords_11 (by decide) rfl ?_
  refine r_iald (t := 113) C h3 1 rfl (by decide) (by decide) dX3_mixWords_12 rfl ?_
  refine r_istore_n (lv' := [(2, .int (sta 1)), (1, .int (sta 0)), (0, .ref a0)]) C dX3_mixWords_13 (by decide) rfl rfl ?_
  refine r_aload_n C 2 dX3_mixWords_14 rfl rfl ?_
  refine r_get (t := 110) C koX3 h0 2 (by decide) q89 rfl rfl dX3_mixWords_15 rfl ?_
  refine r_iconst C (nI 2) dX3_mixWords_18 (by decide) rfl ?_
  refine r_iald (t := 113) C h3 2 rfl (by decide) (by decide) dX3_mixWords_19 rfl ?_
  refine r_istore_n (lv' := [(3, .int (sta 2)), (2, .int (sta 1)), (1, .int (sta 0)), (0, .ref a0)]) C dX3_mixWords_20 (by decide) rfl rfl ?_
  refine r_aload_n C 3 dX3_mixWords_21 rfl rfl ?_
  refine r_get (t := 110) C koX3 h0 2 (by decide) q89 rfl rfl dX3_mixWords_22 rfl ?_
  refine r_iconst C (nI 3) dX3_mixWords_25 (by decide) rfl ?_
  refine r_iald (t := 113) C h3 3 rfl (by decide) (by decide) dX3_mixWords_26 rfl ?_
  refine r_istore (lv' := [(4, .int (sta 3)), (3, .int (sta 2)), (2, .int (sta 1)), (1, .int (sta 0)), (0, .ref a0)]) C dX3_mixWords_27 (by decide) rfl rfl ?_
  refine r_aload_n C 4 dX3_mixWords_29 rfl rfl ?_
  refine r_get (t := 110) C koX3 h0 2 (by decide) q89 rfl rfl dX3_mixWords_30 rfl ?_
  refine r_iconst C (nI 4) dX3_mixWords_33 (by decide) rfl ?_
  refine r_iald (t := 113) C h3 4 rfl (by decide) (by decide) dX3_mixWords_34 rfl ?_
  refine r_istore (lv' := [(5, .int (sta 4)), (4, .int (sta 3)), (3, .int (sta 2)), (2, .int (sta 1)), (1, .int (sta 0)), (0, .ref a0)]) C dX3_mixWords_35 (by decide) rfl rfl ?_
  refine r_aload_n C 5 dX3_mixWords_37 rfl rfl ?_
  refine r_get (t := 110) C koX3 h0 2 (by decide) q89 rfl rfl dX3_mixWords_38 rfl ?_
  refine r_iconst C (nI 5) dX3_mixWords_41 (by decide) rfl ?_
  refine r_iald (t := 113) C h3 5 rfl (by decide) (by decide) dX3_mixWords_42 rfl ?_
  refine r_istore (lv' := [(6, .int (sta 5)), (5, .int (sta 4)), (4, .int (sta 3)), (3, .int (sta 2)), (2, .int (sta 1)), (1, .int (sta 0)), (0, .ref a0)]) C dX3_mixWords_43 (by decide) rfl rfl ?_
  refine r_aload_n C 6 dX3_mixWords_45 rfl rfl ?_
  refine r_get (t := 110) C koX3 h0 2 (by decide) q89 rfl rfl dX3_mixWords_46 rfl ?_
  refine r_bipush C (nI 6) dX3_mixWords_49 (by decide) rfl ?_
  refine r_iald (t := 113) C h3 6 rfl (by decide) (by decide) dX3_mixWords_51 rfl ?_
  refine r_istore (lv' := [(7, .int (sta 6)), (6, .int (sta 5)), (5, .int (sta 4)), (4, .int (sta 3)), (3, .int (sta 2)), (2, .int (sta 1)), (1, .int (sta 0)), (0, .ref a0)]) C dX3_mixWords_52 (by decide) rfl rfl ?_
  refine r_aload_n C 7 dX3_mixWords_54 rfl rfl ?_
  refine r_get (t := 110) C koX3 h0 2 (by decide) q89 rfl rfl dX3_mixWords_55 rfl ?_
  refine r_bipush C (nI 7) dX3_mixWords_58 (by decide) rfl ?_
  refine r_iald (t := 113) C h3 7 rfl (by decide) (by decide) dX3_mixWords_60 rfl ?_
  refine r_istore (lv' := [(8, .int (sta 7)), (7, .int (sta 6)), (6, .int (sta 5)), (5, .int (sta 4)), (4, .int (sta 3)), (3, .int (sta 2)), (2, .int (sta 1)), (1, .int (sta 0)), (0, .ref a0)]) C dX3_mixWords_61 (by decide) rfl rfl ?_
  refine r_iconst C (nI 0) dX3_mixWords_63 (by decide) rfl ?_
  refine r_istore (lv' := [(9, .int (nI 0)), (8, .int (sta 7)), (7, .int (sta 6)), (6, .int (sta 5)), (5, .int (sta 4)), (4, .int (sta 3)), (3, .int (sta 2)), (2, .int (sta 1)), (1, .int (sta 0)), (0, .ref a0)]) C dX3_mixWords_64 (by decide) rfl rfl ?_
  refine r_sub (lv' := [(1, .int (sta 0)), (2, .int (sta 1)), (3, .int (sta 2)), (4, .int (sta 3)), (5, .int (sta 4)), (6, .int (sta 5)), (7, .int (sta 6)), (8, .int (sta 7)), (9, .int (nI 0)), (0, .ref a0)]) [8, 7, 6, 5, 4, 3, 2, 1, 0, 9] rfl ?_
  have loop : ∀ (r t : Nat)  , t + r = 64 → V g k 12 w 0 0 (kQ g k (fun v w' => v = none ∧ (∃ sta' : Nat → Int32, w' 113 = some (as9, aI g 8 sta') ∧ ∀ j, j < 8 → sta' j = sta j + rds wds 64 sta j) ∧ Fr w w' 113 114) 0 0) 66 [(1, .int (rds wds t sta 0)), (2, .int (rds wds t sta 1)), (3, .int (rds wds t sta 2)), (4, .int (rds wds t sta 3)), (5, .int (rds wds t sta 4)), (6, .int (rds wds t sta 5)), (7, .int (rds wds t sta 6)), (8, .int (rds wds t sta 7)), (9, .int (nI t)), (0, .ref a0)] [] := by
    intro r
    induction r with
    | zero =>
      intro t   hi 
      refine r_iload C 8 dX3_mixWords_66 rfl rfl ?_
      refine r_bipush C (nI 64) dX3_mixWords_68 (by decide) rfl ?_
      refine r_icmp_ge_t (tgt := 201) C dX3_mixWords_70 (by decide) ((nI_leI (a := 64) (b := t) (by omega) (by omega)).mpr (by omega)) ?_
      obtain rfl : t = 64 := by omega
      refine r_aload_n C 9 dX3_mixWords_201 rfl rfl ?_
      refine r_get (t := 110) C koX3 h0 2 (by decide) q89 rfl rfl dX3_mixWords_202 rfl ?_
      refine r_iconst C (nI 0) dX3_mixWords_205 (by decide) rfl ?_
      refine r_dup2 C dX3_mixWords_206 rfl rfl rfl ?_
      refine r_iald (t := 113) C h3 0 rfl (by decide) (by decide) dX3_mixWords_207 rfl ?_
      refine r_iload_n C 0 dX3_mixWords_208 rfl rfl ?_
      refine r_iadd C dX3_mixWords_209 rfl ?_
      refine r_iast (t := 113) (w' := wd_set w 113 as9 (aI g 8 (upd sta 0 ((sta 0) + (rds wds 64 sta 0))))) C h3 0 rfl (by decide) (by decide) dX3_mixWords_210 rfl rfl ?_
      refine r_aload_n C 9 dX3_mixWords_211 rfl rfl ?_
      refine r_get (t := 110) C koX3 ((wd_ne (by decide)).trans h0) 2 (by decide) q89 rfl rfl dX3_mixWords_212 rfl ?_
      refine r_iconst C (nI 1) dX3_mixWords_215 (by decide) rfl ?_
      refine r_dup2 C dX3_mixWords_216 rfl rfl rfl ?_
      refine r_iald (t := 113) C wd_eq 1 rfl (by decide) (by decide) dX3_mixWords_217 rfl ?_
      refine r_iload_n C 1 dX3_mixWords_218 rfl rfl ?_
      refine r_iadd C dX3_mixWords_219 rfl ?_
      refine r_iast (t := 113) (w' := wd_set w 113 as9 (aI g 8 (upd (upd sta 0 ((sta 0) + (rds wds 64 sta 0))) 1 (((upd sta 0 ((sta 0) + (rds wds 64 sta 0))) 1) + (rds wds 64 sta 1))))) C wd_eq 1 rfl (by decide) (by decide) dX3_mixWords_220 rfl wd_ss ?_
      refine r_aload_n C 9 dX3_mixWords_221 rfl rfl ?_
      refine r_get (t := 110) C koX3 ((wd_ne (by decide)).trans h0) 2 (by decide) q89 rfl rfl dX3_mixWords_222 rfl ?_
      refine r_iconst C (nI 2) dX3_mixWords_225 (by decide) rfl ?_
      refine r_dup2 C dX3_mixWords_226 rfl rfl rfl ?_
      refine r_iald (t := 113) C wd_eq 2 rfl (by decide) (by decide) dX3_mixWords_227 rfl ?_
      refine r_iload_n C 2 dX3_mixWords_228 rfl rfl ?_
      refine r_iadd C dX3_mixWords_229 rfl ?_
      refine r_iast (t := 113) (w' := wd_set w 113 as9 (aI g 8 (upd (upd (upd sta 0 ((sta 0) + (rds wds 64 sta 0))) 1 (((upd sta 0 ((sta 0) + (rds wds 64 sta 0))) 1) + (rds wds 64 sta 1))) 2 (((upd (upd sta 0 ((sta 0) + (rds wds 64 sta 0))) 1 (((upd sta 0 ((sta 0) + (rds wds 64 sta 0))) 1) + (rds wds 64 sta 1))) 2) + (rds wds 64 sta 2))))) C wd_eq 2 rfl (by decide) (by decide) dX3_mixWords_230 rfl wd_ss ?_
      refine r_aload_n C 9 dX3_mixWords_231 rfl rfl ?_
      refine r_get (t := 110) C koX3 ((wd_ne (by decide)).trans h0) 2 (by decide) q89 rfl rfl dX3_mixWords_232 rfl ?_
      refine r_iconst C (nI 3) dX3_mixWords_235 (by decide) rfl ?_
      refine r_dup2 C dX3_mixWords_236 rfl rfl rfl ?_
      refine r_iald (t := 113) C wd_eq 3 rfl (by decide) (by decide) dX3_mixWords_237 rfl ?_
      refine r_iload C 3 dX3_mixWords_238 rfl rfl ?_
      refine r_iadd C dX3_mixWords_240 rfl ?_
      refine r_iast (t := 113) (w' := wd_set w 113 as9 (aI g 8 (upd (upd (upd (upd sta 0 ((sta 0) + (rds wds 64 sta 0))) 1 (((upd sta 0 ((sta 0) + (rds wds 64 sta 0))) 1) + (rds wds 64 sta 1))) 2 (((upd (upd sta 0 ((sta 0) + (rds wds 64 sta 0))) 1 (((upd sta 0 ((sta 0) + (rds wds 64 sta 0))) 1) + (rds wds 64 sta 1))) 2) + (rds wds 64 sta 2))) 3 (((upd (upd (upd sta 0 ((sta 0) + (rds wds 64 sta 0))) 1 (((upd sta 0 ((sta 0) + (rds wds 64 sta 0))) 1) + (rds wds 64 sta 1))) 2 (((upd (upd sta 0 ((sta 0) + (rds wds 64 sta 0))) 1 (((upd sta 0 ((sta 0) + (rds wds 64 sta 0))) 1) + (rds wds 64 sta 1))) 2) + (rds wds 64 sta 2))) 3) + (rds wds 64 sta 3))))) C wd_eq 3 rfl (by decide) (by decide) dX3_mixWords_241 rfl wd_ss ?_
      refine r_aload_n C 9 dX3_mixWords_242 rfl rfl ?_
      refine r_get (t := 110) C koX3 ((wd_ne (by decide)).trans h0) 2 (by decide) q89 rfl rfl dX3_mixWords_243 rfl ?_
      refine r_iconst C (nI 4) dX3_mixWords_246 (by decide) rfl ?_
      refine r_dup2 C dX3_mixWords_247 rfl rfl rfl ?_
      refine r_iald (t := 113) C wd_eq 4 rfl (by decide) (by decide) dX3_mixWords_248 rfl ?_
      refine r_iload C 4 dX3_mixWords_249 rfl rfl ?_
      refine r_iadd C dX3_mixWords_251 rfl ?_
      refine r_iast (t := 113) (w' := wd_set w 113 as9 (aI g 8 (upd (upd (upd (upd (upd sta 0 ((sta 0) + (rds wds 64 sta 0))) 1 (((upd sta 0 ((sta 0) + (rds wds 64 sta 0))) 1) + (rds wds 64 sta 1))) 2 (((upd (upd sta 0 ((sta 0) + (rds wds 64 sta 0))) 1 (((upd sta 0 ((sta 0) + (rds wds 64 sta 0))) 1) + (rds wds 64 sta 1))) 2) + (rds wds 64 sta 2))) 3 (((upd (upd (upd sta 0 ((sta 0) + (rds wds 64 sta 0))) 1 (((upd sta 0 ((sta 0) + (rds wds 64 sta 0))) 1) + (rds wds 64 sta 1))) 2 (((upd (upd sta 0 ((sta 0) + (rds wds 64 sta 0))) 1 (((upd sta 0 ((sta 0) + (rds wds 64 sta 0))) 1) + (rds wds 64 sta 1))) 2) + (rds wds 64 sta 2))) 3) + (rds wds 64 sta 3))) 4 (((upd (upd (upd (upd sta 0 ((sta 0) + (rds wds 64 sta 0))) 1 (((upd sta 0 ((sta 0) + (rds wds 64 sta 0))) 1) + (rds wds 64 sta 1))) 2 (((upd (upd sta 0 ((sta 0) + (rds wds 64 sta 0))) 1 (((upd sta 0 ((sta 0) + (rds wds 64 sta 0))) 1) + (rds wds 64 sta 1))) 2) + (rds wds 64 sta 2))) 3 (((upd (upd (upd sta 0 ((sta 0) + (rds wds 64 sta 0))) 1 (((upd sta 0 ((sta 0) + (rds wds 64 sta 0))) 1) + (rds wds 64 sta 1))) 2 (((upd (upd sta 0 ((sta 0) + (rds wds 64 sta 0))) 1 (((upd sta 0 ((sta 0) + (rds wds 64 sta 0))) 1) + (rds wds 64 sta 1))) 2) + (rds wds 64 sta 2))) 3) + (rds wds 64 sta 3))) 4) + (rds wds 64 sta 4))))) C wd_eq 4 rfl (by decide) (by decide) dX3_mixWords_252 rfl wd_ss ?_
      refine r_aload_n C 9 dX3_mixWords_253 rfl rfl ?_
      refine r_get (t := 110) C koX3 ((wd_ne (by decide)).trans h0) 2 (by decide) q89 rfl rfl dX3_mixWords_254 rfl ?_
      refine r_iconst C (nI 5) dX3_mixWords_257 (by decide) rfl ?_
      refine r_dup2 C dX3_mixWords_258 rfl rfl rfl ?_
      refine r_iald (t := 113) C wd_eq 5 rfl (by decide) (by decide) dX3_mixWords_259 rfl ?_
      refine r_iload C 5 dX3_mixWords_260 rfl rfl ?_
      refine r_iadd C dX3_mixWords_262 rfl ?_
      refine r_iast (t := 113) (w' := wd_set w 113 as9 (aI g 8 (upd (upd (upd (upd (upd (upd sta 0 ((sta 0) + (rds wds 64 sta 0))) 1 (((upd sta 0 ((sta 0) + (rds wds 64 sta 0))) 1) + (rds wds 64 sta 1))) 2 (((upd (upd sta 0 ((sta 0) + (rds wds 64 sta 0))) 1 (((upd sta 0 ((sta 0) + (rds wds 64 sta 0))) 1) + (rds wds 64 sta 1))) 2) + (rds wds 64 sta 2))) 3 (((upd (upd (upd sta 0 ((sta 0) + (rds wds 64 sta 0))) 1 (((upd sta 0 ((sta 0) + (rds wds 64 sta 0))) 1) + (rds wds 64 sta 1))) 2 (((upd (upd sta 0 ((sta 0) + (rds wds 64 sta 0))) 1 (((upd sta 0 ((sta 0) + (rds wds 64 sta 0))) 1) + (rds wds 64 sta 1))) 2) + (rds wds 64 sta 2))) 3) + (rds wds 64 sta 3))) 4 (((upd (upd (upd (upd sta 0 ((sta 0) + (rds wds 64 sta 0))) 1 (((upd sta 0 ((sta 0) + (rds wds 64 sta 0))) 1) + (rds wds 64 sta 1))) 2 (((upd (upd sta 0 ((sta 0) + (rds wds 64 sta 0))) 1 (((upd sta 0 ((sta 0) + (rds wds 64 sta 0))) 1) + (rds wds 64 sta 1))) 2) + (rds wds 64 sta 2))) 3 (((upd (upd (upd sta 0 ((sta 0) + (rds wds 64 sta 0))) 1 (((upd sta 0 ((sta 0) + (rds wds 64 sta 0))) 1) + (rds wds 64 sta 1))) 2 (((upd (upd sta 0 ((sta 0) + (rds wds 64 sta 0))) 1 (((upd sta 0 ((sta 0) + (rds wds 64 sta 0))) 1) + (rds wds 64 sta 1))) 2) + (rds wds 64 sta 2))) 3) + (rds wds 64 sta 3))) 4) + (rds wds 64 sta 4))) 5 (((upd (upd (upd (upd (upd sta 0 ((sta 0) + (rds wds 64 sta 0))) 1 (((upd sta 0 ((sta 0) + (rds wds 64 sta 0))) 1) + (rds wds 64 sta 1))) 2 (((upd (upd sta 0 ((sta 0) + (rds wds 64 sta 0))) 1 (((upd sta 0 ((sta 0) + (rds wds 64 sta 0))) 1) + (rds wds 64 sta 1))) 2) + (rds wds 64 sta 2))) 3 (((upd (upd (upd sta 0 ((sta 0) + (rds wds 64 sta 0))) 1 (((upd sta 0 ((sta 0) + (rds wds 64 sta 0))) 1) + (rds wds 64 sta 1))) 2 (((upd (upd sta 0 ((sta 0) + (rds wds 64 sta 0))) 1 (((upd sta 0 ((sta 0) + (rds wds 64 sta 0))) 1) + (rds wds 64 sta 1))) 2) + (rds wds 64 sta 2))) 3) + (rds wds 64 sta 3))) 4 (((upd (upd (upd (upd sta 0 ((sta 0) + (rds wds 64 sta 0))) 1 (((upd sta 0 ((sta 0) + (rds wds 64 sta 0))) 1) + (rds wds 64 sta 1))) 2 (((upd (upd sta 0 ((sta 0) + (rds wds 64 sta 0))) 1 (((upd sta 0 ((sta 0) + (rds wds 64 sta 0))) 1) + (rds wds 64 sta 1))) 2) + (rds wds 64 sta 2))) 3 (((upd (upd (upd sta 0 ((sta 0) + (rds wds 64 sta 0))) 1 (((upd sta 0 ((sta 0) + (rds wds 64 sta 0))) 1) + (rds wds 64 sta 1))) 2 (((upd (upd sta 0 ((sta 0) + (rds wds 64 sta 0))) 1 (((upd sta 0 ((sta 0) + (rds wds 64 sta 0))) 1) + (rds wds 64 sta 1))) 2) + (rds wds 64 sta 2))) 3) + (rds wds 64 sta 3))) 4) + (rds wds 64 sta 4))) 5) + (rds wds 64 sta 5))))) C wd_eq 5 rfl (by decide) (by decide) dX3_mixWords_263 rfl wd_ss ?_
      refine r_aload_n C 9 dX3_mixWords_264 rfl rfl ?_
      refine r_get (t := 110) C koX3 ((wd_ne (by decide)).trans h0) 2 (by decide) q89 rfl rfl dX3_mixWords_265 rfl ?_
      refine r_bipush C (nI 6) dX3_mixWords_268 (by decide) rfl ?_
      refine r_dup2 C dX3_mixWords_270 rfl rfl rfl ?_
      refine r_iald (t := 113) C wd_eq 6 rfl (by decide) (by decide) dX3_mixWords_271 rfl ?_
      refine r_iload C 6 dX3_mixWords_272 rfl rfl ?_
      refine r_iadd C dX3_mixWords_274 rfl ?_
      refine r_iast (t := 113) (w' := wd_set w 113 as9 (aI g 8 (upd (upd (upd (upd (upd (upd (upd sta 0 ((sta 0) + (rds wds 64 sta 0))) 1 (((upd sta 0 ((sta 0) + (rds wds 64 sta 0))) 1) + (rds wds 64 sta 1))) 2 (((upd (upd sta 0 ((sta 0) + (rds wds 64 sta 0))) 1 (((upd sta 0 ((sta 0) + (rds wds 64 sta 0))) 1) + (rds wds 64 sta 1))) 2) + (rds wds 64 sta 2))) 3 (((upd (upd (upd sta 0 ((sta 0) + (rds wds 64 sta 0))) 1 (((upd sta 0 ((sta 0) + (rds wds 64 sta 0))) 1) + (rds wds 64 sta 1))) 2 (((upd (upd sta 0 ((sta 0) + (rds wds 64 sta 0))) 1 (((upd sta 0 ((sta 0) + (rds wds 64 sta 0))) 1) + (rds wds 64 sta 1))) 2) + (rds wds 64 sta 2))) 3) + (rds wds 64 sta 3))) 4 (((upd (upd (upd (upd sta 0 ((sta 0) + (rds wds 64 sta 0))) 1 (((upd sta 0 ((sta 0) + (rds wds 64 sta 0))) 1) + (rds wds 64 sta 1))) 2 (((upd (upd sta 0 ((sta 0) + (rds wds 64 sta 0))) 1 (((upd sta 0 ((sta 0) + (rds wds 64 sta 0))) 1) + (rds wds 64 sta 1))) 2) + (rds wds 64 sta 2))) 3 (((upd (upd (upd sta 0 ((sta 0) + (rds wds 64 sta 0))) 1 (((upd sta 0 ((sta 0) + (rds wds 64 sta 0))) 1) + (rds wds 64 sta 1))) 2 (((upd (upd sta 0 ((sta 0) + (rds wds 64 sta 0))) 1 (((upd sta 0 ((sta 0) + (rds wds 64 sta 0))) 1) + (rds wds 64 sta 1))) 2) + (rds wds 64 sta 2))) 3) + (rds wds 64 sta 3))) 4) + (rds wds 64 sta 4))) 5 (((upd (upd (upd (upd (upd sta 0 ((sta 0) + (rds wds 64 sta 0))) 1 (((upd sta 0 ((sta 0) + (rds wds 64 sta 0))) 1) + (rds wds 64 sta 1))) 2 (((upd (upd sta 0 ((sta 0) + (rds wds 64 sta 0))) 1 (((upd sta 0 ((sta 0) + (rds wds 64 sta 0))) 1) + (rds wds 64 sta 1))) 2) + (rds wds 64 sta 2))) 3 (((upd (upd (upd sta 0 ((sta 0) + (rds wds 64 sta 0))) 1 (((upd sta 0 ((sta 0) + (rds wds 64 sta 0))) 1) + (rds wds 64 sta 1))) 2 (((upd (upd sta 0 ((sta 0) + (rds wds 64 sta 0))) 1 (((upd sta 0 ((sta 0) + (rds wds 64 sta 0))) 1) + (rds wds 64 sta 1))) 2) + (rds wds 64 sta 2))) 3) + (rds wds 64 sta 3))) 4 (((upd (upd (upd (upd sta 0 ((sta 0) + (rds wds 64 sta 0))) 1 (((upd sta 0 ((sta 0) + (rds wds 64 sta 0))) 1) + (rds wds 64 sta 1))) 2 (((upd (upd sta 0 ((sta 0) + (rds wds 64 sta 0))) 1 (((upd sta 0 ((sta 0) + (rds wds 64 sta 0))) 1) + (rds wds 64 sta 1))) 2) + (rds wds 64 sta 2))) 3 (((upd (upd (upd sta 0 ((sta 0) + (rds wds 64 sta 0))) 1 (((upd sta 0 ((sta 0) + (rds wds 64 sta 0))) 1) + (rds wds 64 sta 1))) 2 (((upd (upd sta 0 ((sta 0) + (rds wds 64 sta 0))) 1 (((upd sta 0 ((sta 0) + (rds wds 64 sta 0))) 1) + (rds wds 64 sta 1))) 2) + (rds wds 64 sta 2))) 3) + (rds wds 64 sta 3))) 4) + (rds wds 64 sta 4))) 5) + (rds wds 64 sta 5))) 6 (((upd (upd (upd (upd (upd (upd sta 0 ((sta 0) + (rds wds 64 sta 0))) 1 (((upd sta 0 ((sta 0) + (rds wds 64 sta 0))) 1) + (rds wds 64 sta 1))) 2 (((upd (upd sta 0 ((sta 0) + (rds wds 64 sta 0))) 1 (((upd sta 0 ((sta 0) + (rds wds 64 sta 0))) 1) + (rds wds 64 sta 1))) 2) + (rds wds 64 sta 2))) 3 (((upd (upd (upd sta 0 ((sta 0) + (rds wds 64 sta 0))) 1 (((upd sta 0 ((sta 0) + (rds wds 64 sta 0))) 1) + (rds wds 64 sta 1))) 2 (((upd (upd sta 0 ((sta 0) + (rds wds 64 sta 0))) 1 (((upd sta 0 ((sta 0) + (rds wds 64 sta 0))) 1) + (rds wds 64 sta 1))) 2) + (rds wds 64 sta 2))) 3) + (rds wds 64 sta 3))) 4 (((upd (upd (upd (upd sta 0 ((sta 0) + (rds wds 64 sta 0))) 1 (((upd sta 0 ((sta 0) + (rds wds 64 sta 0))) 1) + (rds wds 64 sta 1))) 2 (((upd (upd sta 0 ((sta 0) + (rds wds 64 sta 0))) 1 (((upd sta 0 ((sta 0) + (rds wds 64 sta 0))) 1) + (rds wds 64 sta 1))) 2) + (rds wds 64 sta 2))) 3 (((upd (upd (upd sta 0 ((sta 0) + (rds wds 64 sta 0))) 1 (((upd sta 0 ((sta 0) + (rds wds 64 sta 0))) 1) + (rds wds 64 sta 1))) 2 (((upd (upd sta 0 ((sta 0) + (rds wds 64 sta 0))) 1 (((upd sta 0 ((sta 0) + (rds wds 64 sta 0))) 1) + (rds wds 64 sta 1))) 2) + (rds wds 64 sta 2))) 3) + (rds wds 64 sta 3))) 4) + (rds wds 64 sta 4))) 5 (((upd (upd (upd (upd (upd sta 0 ((sta 0) + (rds wds 64 sta 0))) 1 (((upd sta 0 ((sta 0) + (rds wds 64 sta 0))) 1) + (rds wds 64 sta 1))) 2 (((upd (upd sta 0 ((sta 0) + (rds wds 64 sta 0))) 1 (((upd sta 0 ((sta 0) + (rds wds 64 sta 0))) 1) + (rds wds 64 sta 1))) 2) + (rds wds 64 sta 2))) 3 (((upd (upd (upd sta 0 ((sta 0) + (rds wds 64 sta 0))) 1 (((upd sta 0 ((sta 0) + (rds wds 64 sta 0))) 1) + (rds wds 64 sta 1))) 2 (((upd (upd sta 0 ((sta 0) + (rds wds 64 sta 0))) 1 (((upd sta 0 ((sta 0) + (rds wds 64 sta 0))) 1) + (rds wds 64 sta 1))) 2) + (rds wds 64 sta 2))) 3) + (rds wds 64 sta 3))) 4 (((upd (upd (upd (upd sta 0 ((sta 0) + (rds wds 64 sta 0))) 1 (((upd sta 0 ((sta 0) + (rds wds 64 sta 0))) 1) + (rds wds 64 sta 1))) 2 (((upd (upd sta 0 ((sta 0) + (rds wds 64 sta 0))) 1 (((upd sta 0 ((sta 0) + (rds wds 64 sta 0))) 1) + (rds wds 64 sta 1))) 2) + (rds wds 64 sta 2))) 3 (((upd (upd (upd sta 0 ((sta 0) + (rds wds 64 sta 0))) 1 (((upd sta 0 ((sta 0) + (rds wds 64 sta 0))) 1) + (rds wds 64 sta 1))) 2 (((upd (upd sta 0 ((sta 0) + (rds wds 64 sta 0))) 1 (((upd sta 0 ((sta 0) + (rds wds 64 sta 0))) 1) + (rds wds 64 sta 1))) 2) + (rds wds 64 sta 2))) 3) + (rds wds 64 sta 3))) 4) + (rds wds 64 sta 4))) 5) + (rds wds 64 sta 5))) 6) + (rds wds 64 sta 6))))) C wd_eq 6 rfl (by decide) (by decide) dX3_mixWords_275 rfl wd_ss ?_
      refine r_aload_n C 9 dX3_mixWords_276 rfl rfl ?_
      refine r_get (t := 110) C koX3 ((wd_ne (by decide)).trans h0) 2 (by decide) q89 rfl rfl dX3_mixWords_277 rfl ?_
      refine r_bipush C (nI 7) dX3_mixWords_280 (by decide) rfl ?_
      refine r_dup2 C dX3_mixWords_282 rfl rfl rfl ?_
      refine r_iald (t := 113) C wd_eq 7 rfl (by decide) (by decide) dX3_mixWords_283 rfl ?_
      refine r_iload C 7 dX3_mixWords_284 rfl rfl ?_
      refine r_iadd C dX3_mixWords_286 rfl ?_
      refine r_iast (t := 113) (w' := wd_set w 113 as9 (aI g 8 (upd (upd (upd (upd (upd (upd (upd (upd sta 0 ((sta 0) + (rds wds 64 sta 0))) 1 (((upd sta 0 ((sta 0) + (rds wds 64 sta 0))) 1) + (rds wds 64 sta 1))) 2 (((upd (upd sta 0 ((sta 0) + (rds wds 64 sta 0))) 1 (((upd sta 0 ((sta 0) + (rds wds 64 sta 0))) 1) + (rds wds 64 sta 1))) 2) + (rds wds 64 sta 2))) 3 (((upd (upd (upd sta 0 ((sta 0) + (rds wds 64 sta 0))) 1 (((upd sta 0 ((sta 0) + (rds wds 64 sta 0))) 1) + (rds wds 64 sta 1))) 2 (((upd (upd sta 0 ((sta 0) + (rds wds 64 sta 0))) 1 (((upd sta 0 ((sta 0) + (rds wds 64 sta 0))) 1) + (rds wds 64 sta 1))) 2) + (rds wds 64 sta 2))) 3) + (rds wds 64 sta 3))) 4 (((upd (upd (upd (upd sta 0 ((sta 0) + (rds wds 64 sta 0))) 1 (((upd sta 0 ((sta 0) + (rds wds 64 sta 0))) 1) + (rds wds 64 sta 1))) 2 (((upd (upd sta 0 ((sta 0) + (rds wds 64 sta 0))) 1 (((upd sta 0 ((sta 0) + (rds wds 64 sta 0))) 1) + (rds wds 64 sta 1))) 2) + (rds wds 64 sta 2))) 3 (((upd (upd (upd sta 0 ((sta 0) + (rds wds 64 sta 0))) 1 (((upd sta 0 ((sta 0) + (rds wds 64 sta 0))) 1) + (rds wds 64 sta 1))) 2 (((upd (upd sta 0 ((sta 0) + (rds wds 64 sta 0))) 1 (((upd sta 0 ((sta 0) + (rds wds 64 sta 0))) 1) + (rds wds 64 sta 1))) 2) + (rds wds 64 sta 2))) 3) + (rds wds 64 sta 3))) 4) + (rds wds 64 sta 4))) 5 (((upd (upd (upd (upd (upd sta 0 ((sta 0) + (rds wds 64 sta 0))) 1 (((upd sta 0 ((sta 0) + (rds wds 64 sta 0))) 1) + (rds wds 64 sta 1))) 2 (((upd (upd sta 0 ((sta 0) + (rds wds 64 sta 0))) 1 (((upd sta 0 ((sta 0) + (rds wds 64 sta 0))) 1) + (rds wds 64 sta 1))) 2) + (rds wds 64 sta 2))) 3 (((upd (upd (upd sta 0 ((sta 0) + (rds wds 64 sta 0))) 1 (((upd sta 0 ((sta 0) + (rds wds 64 sta 0))) 1) + (rds wds 64 sta 1))) 2 (((upd (upd sta 0 ((sta 0) + (rds wds 64 sta 0))) 1 (((upd sta 0 ((sta 0) + (rds wds 64 sta 0))) 1) + (rds wds 64 sta 1))) 2) + (rds wds 64 sta 2))) 3) + (rds wds 64 sta 3))) 4 (((upd (upd (upd (upd sta 0 ((sta 0) + (rds wds 64 sta 0))) 1 (((upd sta 0 ((sta 0) + (rds wds 64 sta 0))) 1) + (rds wds 64 sta 1))) 2 (((upd (upd sta 0 ((sta 0) + (rds wds 64 sta 0))) 1 (((upd sta 0 ((sta 0) + (rds wds 64 sta 0))) 1) + (rds wds 64 sta 1))) 2) + (rds wds 64 sta 2))) 3 (((upd (upd (upd sta 0 ((sta 0) + (rds wds 64 sta 0))) 1 (((upd sta 0 ((sta 0) + (rds wds 64 sta 0))) 1) + (rds wds 64 sta 1))) 2 (((upd (upd sta 0 ((sta 0) + (rds wds 64 sta 0))) 1 (((upd sta 0 ((sta 0) + (rds wds 64 sta 0))) 1) + (rds wds 64 sta 1))) 2) + (rds wds 64 sta 2))) 3) + (rds wds 64 sta 3))) 4) + (rds wds 64 sta 4))) 5) + (rds wds 64 sta 5))) 6 (((upd (upd (upd (upd (upd (upd sta 0 ((sta 0) + (rds wds 64 sta 0))) 1 (((upd sta 0 ((sta 0) + (rds wds 64 sta 0))) 1) + (rds wds 64 sta 1))) 2 (((upd (upd sta 0 ((sta 0) + (rds wds 64 sta 0))) 1 (((upd sta 0 ((sta 0) + (rds wds 64 sta 0))) 1) + (rds wds 64 sta 1))) 2) + (rds wds 64 sta 2))) 3 (((upd (upd (upd sta 0 ((sta 0) + (rds wds 64 sta 0))) 1 (((upd sta 0 ((sta 0) + (rds wds 64 sta 0))) 1) + (rds wds 64 sta 1))) 2 (((upd (upd sta 0 ((sta 0) + (rds wds 64 sta 0))) 1 (((upd sta 0 ((sta 0) + (rds wds 64 sta 0))) 1) + (rds wds 64 sta 1))) 2) + (rds wds 64 sta 2))) 3) + (rds wds 64 sta 3))) 4 (((upd (upd (upd (upd sta 0 ((sta 0) + (rds wds 64 sta 0))) 1 (((upd sta 0 ((sta 0) + (rds wds 64 sta 0))) 1) + (rds wds 64 sta 1))) 2 (((upd (upd sta 0 ((sta 0) + (rds wds 64 sta 0))) 1 (((upd sta 0 ((sta 0) + (rds wds 64 sta 0))) 1) + (rds wds 64 sta 1))) 2) + (rds wds 64 sta 2))) 3 (((upd (upd (upd sta 0 ((sta 0) + (rds wds 64 sta 0))) 1 (((upd sta 0 ((sta 0) + (rds wds 64 sta 0))) 1) + (rds wds 64 sta 1))) 2 (((upd (upd sta 0 ((sta 0) + (rds wds 64 sta 0))) 1 (((upd sta 0 ((sta 0) + (rds wds 64 sta 0))) 1) + (rds wds 64 sta 1))) 2) + (rds wds 64 sta 2))) 3) + (rds wds 64 sta 3))) 4) + (rds wds 64 sta 4))) 5 (((upd (upd (upd (upd (upd sta 0 ((sta 0) + (rds wds 64 sta 0))) 1 (((upd sta 0 ((sta 0) + (rds wds 64 sta 0))) 1) + (rds wds 64 sta 1))) 2 (((upd (upd sta 0 ((sta 0) + (rds wds 64 sta 0))) 1 (((upd sta 0 ((sta 0) + (rds wds 64 sta 0))) 1) + (rds wds 64 sta 1))) 2) + (rds wds 64 sta 2))) 3 (((upd (upd (upd sta 0 ((sta 0) + (rds wds 64 sta 0))) 1 (((upd sta 0 ((sta 0) + (rds wds 64 sta 0))) 1) + (rds wds 64 sta 1))) 2 (((upd (upd sta 0 ((sta 0) + (rds wds 64 sta 0))) 1 (((upd sta 0 ((sta 0) + (rds wds 64 sta 0))) 1) + (rds wds 64 sta 1))) 2) + (rds wds 64 sta 2))) 3) + (rds wds 64 sta 3))) 4 (((upd (upd (upd (upd sta 0 ((sta 0) + (rds wds 64 sta 0))) 1 (((upd sta 0 ((sta 0) + (rds wds 64 sta 0))) 1) + (rds wds 64 sta 1))) 2 (((upd (upd sta 0 ((sta 0) + (rds wds 64 sta 0))) 1 (((upd sta 0 ((sta 0) + (rds wds 64 sta 0))) 1) + (rds wds 64 sta 1))) 2) + (rds wds 64 sta 2))) 3 (((upd (upd (upd sta 0 ((sta 0) + (rds wds 64 sta 0))) 1 (((upd sta 0 ((sta 0) + (rds wds 64 sta 0))) 1) + (rds wds 64 sta 1))) 2 (((upd (upd sta 0 ((sta 0) + (rds wds 64 sta 0))) 1 (((upd sta 0 ((sta 0) + (rds wds 64 sta 0))) 1) + (rds wds 64 sta 1))) 2) + (rds wds 64 sta 2))) 3) + (rds wds 64 sta 3))) 4) + (rds wds 64 sta 4))) 5) + (rds wds 64 sta 5))) 6) + (rds wds 64 sta 6))) 7 (((upd (upd (upd (upd (upd (upd (upd sta 0 ((sta 0) + (rds wds 64 sta 0))) 1 (((upd sta 0 ((sta 0) + (rds wds 64 sta 0))) 1) + (rds wds 64 sta 1))) 2 (((upd (upd sta 0 ((sta 0) + (rds wds 64 sta 0))) 1 (((upd sta 0 ((sta 0) + (rds wds 64 sta 0))) 1) + (rds wds 64 sta 1))) 2) + (rds wds 64 sta 2))) 3 (((upd (upd (upd sta 0 ((sta 0) + (rds wds 64 sta 0))) 1 (((upd sta 0 ((sta 0) + (rds wds 64 sta 0))) 1) + (rds wds 64 sta 1))) 2 (((upd (upd sta 0 ((sta 0) + (rds wds 64 sta 0))) 1 (((upd sta 0 ((sta 0) + (rds wds 64 sta 0))) 1) + (rds wds 64 sta 1))) 2) + (rds wds 64 sta 2))) 3) + (rds wds 64 sta 3))) 4 (((upd (upd (upd (upd sta 0 ((sta 0) + (rds wds 64 sta 0))) 1 (((upd sta 0 ((sta 0) + (rds wds 64 sta 0))) 1) + (rds wds 64 sta 1))) 2 (((upd (upd sta 0 ((sta 0) + (rds wds 64 sta 0))) 1 (((upd sta 0 ((sta 0) + (rds wds 64 sta 0))) 1) + (rds wds 64 sta 1))) 2) + (rds wds 64 sta 2))) 3 (((upd (upd (upd sta 0 ((sta 0) + (rds wds 64 sta 0))) 1 (((upd sta 0 ((sta 0) + (rds wds 64 sta 0))) 1) + (rds wds 64 sta 1))) 2 (((upd (upd sta 0 ((sta 0) + (rds wds 64 sta 0))) 1 (((upd sta 0 ((sta 0) + (rds wds 64 sta 0))) 1) + (rds wds 64 sta 1))) 2) + (rds wds 64 sta 2))) 3) + (rds wds 64 sta 3))) 4) + (rds wds 64 sta 4))) 5 (((upd (upd (upd (upd (upd sta 0 ((sta 0) + (rds wds 64 sta 0))) 1 (((upd sta 0 ((sta 0) + (rds wds 64 sta 0))) 1) + (rds wds 64 sta 1))) 2 (((upd (upd sta 0 ((sta 0) + (rds wds 64 sta 0))) 1 (((upd sta 0 ((sta 0) + (rds wds 64 sta 0))) 1) + (rds wds 64 sta 1))) 2) + (rds wds 64 sta 2))) 3 (((upd (upd (upd sta 0 ((sta 0) + (rds wds 64 sta 0))) 1 (((upd sta 0 ((sta 0) + (rds wds 64 sta 0))) 1) + (rds wds 64 sta 1))) 2 (((upd (upd sta 0 ((sta 0) + (rds wds 64 sta 0))) 1 (((upd sta 0 ((sta 0) + (rds wds 64 sta 0))) 1) + (rds wds 64 sta 1))) 2) + (rds wds 64 sta 2))) 3) + (rds wds 64 sta 3))) 4 (((upd (upd (upd (upd sta 0 ((sta 0) + (rds wds 64 sta 0))) 1 (((upd sta 0 ((sta 0) + (rds wds 64 sta 0))) 1) + (rds wds 64 sta 1))) 2 (((upd (upd sta 0 ((sta 0) + (rds wds 64 sta 0))) 1 (((upd sta 0 ((sta 0) + (rds wds 64 sta 0))) 1) + (rds wds 64 sta 1))) 2) + (rds wds 64 sta 2))) 3 (((upd (upd (upd sta 0 ((sta 0) + (rds wds 64 sta 0))) 1 (((upd sta 0 ((sta 0) + (rds wds 64 sta 0))) 1) + (rds wds 64 sta 1))) 2 (((upd (upd sta 0 ((sta 0) + (rds wds 64 sta 0))) 1 (((upd sta 0 ((sta 0) + (rds wds 64 sta 0))) 1) + (rds wds 64 sta 1))) 2) + (rds wds 64 sta 2))) 3) + (rds wds 64 sta 3))) 4) + (rds wds 64 sta 4))) 5) + (rds wds 64 sta 5))) 6 (((upd (upd (upd (upd (upd (upd sta 0 ((sta 0) + (rds wds 64 sta 0))) 1 (((upd sta 0 ((sta 0) + (rds wds 64 sta 0))) 1) + (rds wds 64 sta 1))) 2 (((upd (upd sta 0 ((sta 0) + (rds wds 64 sta 0))) 1 (((upd sta 0 ((sta 0) + (rds wds 64 sta 0))) 1) + (rds wds 64 sta 1))) 2) + (rds wds 64 sta 2))) 3 (((upd (upd (upd sta 0 ((sta 0) + (rds wds 64 sta 0))) 1 (((upd sta 0 ((sta 0) + (rds wds 64 sta 0))) 1) + (rds wds 64 sta 1))) 2 (((upd (upd sta 0 ((sta 0) + (rds wds 64 sta 0))) 1 (((upd sta 0 ((sta 0) + (rds wds 64 sta 0))) 1) + (rds wds 64 sta 1))) 2) + (rds wds 64 sta 2))) 3) + (rds wds 64 sta 3))) 4 (((upd (upd (upd (upd sta 0 ((sta 0) + (rds wds 64 sta 0))) 1 (((upd sta 0 ((sta 0) + (rds wds 64 sta 0))) 1) + (rds wds 64 sta 1))) 2 (((upd (upd sta 0 ((sta 0) + (rds wds 64 sta 0))) 1 (((upd sta 0 ((sta 0) + (rds wds 64 sta 0))) 1) + (rds wds 64 sta 1))) 2) + (rds wds 64 sta 2))) 3 (((upd (upd (upd sta 0 ((sta 0) + (rds wds 64 sta 0))) 1 (((upd sta 0 ((sta 0) + (rds wds 64 sta 0))) 1) + (rds wds 64 sta 1))) 2 (((upd (upd sta 0 ((sta 0) + (rds wds 64 sta 0))) 1 (((upd sta 0 ((sta 0) + (rds wds 64 sta 0))) 1) + (rds wds 64 sta 1))) 2) + (rds wds 64 sta 2))) 3) + (rds wds 64 sta 3))) 4) + (rds wds 64 sta 4))) 5 (((upd (upd (upd (upd (upd sta 0 ((sta 0) + (rds wds 64 sta 0))) 1 (((upd sta 0 ((sta 0) + (rds wds 64 sta 0))) 1) + (rds wds 64 sta 1))) 2 (((upd (upd sta 0 ((sta 0) + (rds wds 64 sta 0))) 1 (((upd sta 0 ((sta 0) + (rds wds 64 sta 0))) 1) + (rds wds 64 sta 1))) 2) + (rds wds 64 sta 2))) 3 (((upd (upd (upd sta 0 ((sta 0) + (rds wds 64 sta 0))) 1 (((upd sta 0 ((sta 0) + (rds wds 64 sta 0))) 1) + (rds wds 64 sta 1))) 2 (((upd (upd sta 0 ((sta 0) + (rds wds 64 sta 0))) 1 (((upd sta 0 ((sta 0) + (rds wds 64 sta 0))) 1) + (rds wds 64 sta 1))) 2) + (rds wds 64 sta 2))) 3) + (rds wds 64 sta 3))) 4 (((upd (upd (upd (upd sta 0 ((sta 0) + (rds wds 64 sta 0))) 1 (((upd sta 0 ((sta 0) + (rds wds 64 sta 0))) 1) + (rds wds 64 sta 1))) 2 (((upd (upd sta 0 ((sta 0) + (rds wds 64 sta 0))) 1 (((upd sta 0 ((sta 0) + (rds wds 64 sta 0))) 1) + (rds wds 64 sta 1))) 2) + (rds wds 64 sta 2))) 3 (((upd (upd (upd sta 0 ((sta 0) + (rds wds 64 sta 0))) 1 (((upd sta 0 ((sta 0) + (rds wds 64 sta 0))) 1) + (rds wds 64 sta 1))) 2 (((upd (upd sta 0 ((sta 0) + (rds wds 64 sta 0))) 1 (((upd sta 0 ((sta 0) + (rds wds 64 sta 0))) 1) + (rds wds 64 sta 1))) 2) + (rds wds 64 sta 2))) 3) + (rds wds 64 sta 3))) 4) + (rds wds 64 sta 4))) 5) + (rds wds 64 sta 5))) 6) + (rds wds 64 sta 6))) 7) + (rds wds 64 sta 7))))) C wd_eq 7 rfl (by decide) (by decide) dX3_mixWords_287 rfl wd_ss ?_
      refine (r_vret C rfl (by decide) (by decide) dX3_mixWords_288 ⟨rfl, ⟨_, wd_eq, fun j hj => ?_⟩, Fr.set (by decide) (by decide)⟩)
      have q : j = 0 ∨ j = 1 ∨ j = 2 ∨ j = 3 ∨ j = 4 ∨ j = 5 ∨ j = 6 ∨ j = 7 := by omega
      rcases q with rfl | rfl | rfl | rfl | rfl | rfl | rfl | rfl <;> rfl
    | succ r ih =>
      intro t   hi 
      refine r_iload C 8 dX3_mixWords_66 rfl rfl ?_
      refine r_bipush C (nI 64) dX3_mixWords_68 (by decide) rfl ?_
      refine r_icmp_ge_f (tgt := 201) C dX3_mixWords_70 (by decide) rfl (fun z => absurd ((nI_leI (a := 64) (b := t) (by omega) (by omega)).mp z) (by omega)) ?_
      refine r_iload C 7 dX3_mixWords_73 rfl rfl ?_
      refine r_iload C 4 dX3_mixWords_75 rfl rfl ?_
      refine r_bipush C (nI 6) dX3_mixWords_77 (by decide) rfl ?_
      refine r_callS (As := [.int (rds wds t sta 4), .int (nI 6)]) (st := [.int (rds wds t sta 7)]) C (c_turn) q381 q379 q380 q7 ⟨by decide, by decide⟩ (show (parseMethodDescriptor yX3_turn.desc).map (fun d => d.parameters.length) = some 2 by decide +kernel) (by decide) (by decide) (by decide) (by decide) (Nat.le_of_ble_eq_true rfl) rfl dX3_mixWords_79 rfl ?_
      rintro v9 w2 ⟨rfl, rfl⟩
      show V g k 12 w 0 0 (kQ g k (fun v w' => v = none ∧ (∃ sta' : Nat → Int32, w' 113 = some (as9, aI g 8 sta') ∧ ∀ j, j < 8 → sta' j = sta j + rds wds 64 sta j) ∧ Fr w w' 113 114) 0 0) 82 [(1, .int (rds wds t sta 0)), (2, .int (rds wds t sta 1)), (3, .int (rds wds t sta 2)), (4, .int (rds wds t sta 3)), (5, .int (rds wds t sta 4)), (6, .int (rds wds t sta 5)), (7, .int (rds wds t sta 6)), (8, .int (rds wds t sta 7)), (9, .int (nI t)), (0, .ref a0)] [.int (rot9 (rds wds t sta 4) (nI 6)), .int (rds wds t sta 7)]
      refine r_iload C 4 dX3_mixWords_82 rfl rfl ?_
      refine r_bipush C (nI 11) dX3_mixWords_84 (by decide) rfl ?_
      refine r_callS (As := [.int (rds wds t sta 4), .int (nI 11)]) (st := [.int (rot9 (rds wds t sta 4) (nI 6)), .int (rds wds t sta 7)]) C (c_turn) q381 q379 q380 q7 ⟨by decide, by decide⟩ (show (parseMethodDescriptor yX3_turn.desc).map (fun d => d.parameters.length) = some 2 by decide +kernel) (by decide) (by decide) (by decide) (by decide) (Nat.le_of_ble_eq_true rfl) rfl dX3_mixWords_86 rfl ?_
      rintro v9 w3 ⟨rfl, rfl⟩
      show V g k 12 w 0 0 (kQ g k (fun v w' => v = none ∧ (∃ sta' : Nat → Int32, w' 113 = some (as9, aI g 8 sta') ∧ ∀ j, j < 8 → sta' j = sta j + rds wds 64 sta j) ∧ Fr w w' 113 114) 0 0) 89 [(1, .int (rds wds t sta 0)), (2, .int (rds wds t sta 1)), (3, .int (rds wds t sta 2)), (4, .int (rds wds t sta 3)), (5, .int (rds wds t sta 4)), (6, .int (rds wds t sta 5)), (7, .int (rds wds t sta 6)), (8, .int (rds wds t sta 7)), (9, .int (nI t)), (0, .ref a0)] [.int (rot9 (rds wds t sta 4) (nI 11)), .int (rot9 (rds wds t sta 4) (nI 6)), .int (rds wds t sta 7)]
      refine r_ixor C dX3_mixWords_89 rfl ?_
      refine r_iload C 4 dX3_mixWords_90 rfl rfl ?_
      refine r_bipush C (nI 25) dX3_mixWords_92 (by decide) rfl ?_
      refine r_callS (As := [.int (rds wds t sta 4), .int (nI 25)]) (st := [.int ((rot9 (rds wds t sta 4) (nI 6)) ^^^ (rot9 (rds wds t sta 4) (nI 11))), .int (rds wds t sta 7)]) C (c_turn) q381 q379 q380 q7 ⟨by decide, by decide⟩ (show (parseMethodDescriptor yX3_turn.desc).map (fun d => d.parameters.length) = some 2 by decide +kernel) (by decide) (by decide) (by decide) (by decide) (Nat.le_of_ble_eq_true rfl) rfl dX3_mixWords_94 rfl ?_
      rintro v9 w4 ⟨rfl, rfl⟩
      show V g k 12 w 0 0 (kQ g k (fun v w' => v = none ∧ (∃ sta' : Nat → Int32, w' 113 = some (as9, aI g 8 sta') ∧ ∀ j, j < 8 → sta' j = sta j + rds wds 64 sta j) ∧ Fr w w' 113 114) 0 0) 97 [(1, .int (rds wds t sta 0)), (2, .int (rds wds t sta 1)), (3, .int (rds wds t sta 2)), (4, .int (rds wds t sta 3)), (5, .int (rds wds t sta 4)), (6, .int (rds wds t sta 5)), (7, .int (rds wds t sta 6)), (8, .int (rds wds t sta 7)), (9, .int (nI t)), (0, .ref a0)] [.int (rot9 (rds wds t sta 4) (nI 25)), .int ((rot9 (rds wds t sta 4) (nI 6)) ^^^ (rot9 (rds wds t sta 4) (nI 11))), .int (rds wds t sta 7)]
      refine r_ixor C dX3_mixWords_97 rfl ?_
      refine r_iadd C dX3_mixWords_98 rfl ?_
      refine r_iload C 4 dX3_mixWords_99 rfl rfl ?_
      refine r_iload C 5 dX3_mixWords_101 rfl rfl ?_
      refine r_iand C dX3_mixWords_103 rfl ?_
      refine r_iload C 4 dX3_mixWords_104 rfl rfl ?_
      refine r_iconst C ((-1)) dX3_mixWords_106 (by decide) rfl ?_
      refine r_ixor C dX3_mixWords_107 rfl ?_
      refine r_iload C 6 dX3_mixWords_108 rfl rfl ?_
      refine r_iand C dX3_mixWords_110 rfl ?_
      refine r_ixor C dX3_mixWords_111 rfl ?_
      refine r_iadd C dX3_mixWords_112 rfl ?_
      refine r_getsN C (ks_C C) q389 rfl dX3_mixWords_113 rfl ?_
      refine r_iload C 8 dX3_mixWords_116 rfl rfl ?_
      refine r_siald C (ks_Ct C) t rfl (by omega) (by decide) dX3_mixWords_118 rfl ?_
      refine r_iadd C dX3_mixWords_119 rfl ?_
      refine r_aload_n C 9 dX3_mixWords_120 rfl rfl ?_
      refine r_get (t := 110) C koX3 h0 1 (by decide) q88 rfl rfl dX3_mixWords_121 rfl ?_
      refine r_iload C 8 dX3_mixWords_124 rfl rfl ?_
      refine r_iald (t := 112) C h2 t rfl (by omega) (by decide) dX3_mixWords_126 rfl ?_
      refine r_iadd C dX3_mixWords_127 rfl ?_
      refine r_ti (show (((((rds wds t sta 7) + (((rot9 (rds wds t sta 4) (nI 6)) ^^^ (rot9 (rds wds t sta 4) (nI 11))) ^^^ (rot9 (rds wds t sta 4) (nI 25)))) + (((rds wds t sta 4) &&& (rds wds t sta 5)) ^^^ (((rds wds t sta 4) ^^^ (-1)) &&& (rds wds t sta 6)))) + (kCu t)) + (wds t) : Int32) = u9 (kCu t) (wds t) (rds wds t sta) from rfl) ?_
      refine r_istore (lv' := [(10, .int (u9 (kCu t) (wds t) (rds wds t sta))), (1, .int (rds wds t sta 0)), (2, .int (rds wds t sta 1)), (3, .int (rds wds t sta 2)), (4, .int (rds wds t sta 3)), (5, .int (rds wds t sta 4)), (6, .int (rds wds t sta 5)), (7, .int (rds wds t sta 6)), (8, .int (rds wds t sta 7)), (9, .int (nI t)), (0, .ref a0)]) C dX3_mixWords_128 (by decide) rfl rfl ?_
      refine r_iload_n C 1 dX3_mixWords_130 rfl rfl ?_
      refine r_iconst C (nI 2) dX3_mixWords_131 (by decide) rfl ?_
      refine r_callS (As := [.int (rds wds t sta 0), .int (nI 2)]) (st := []) C (c_turn) q381 q379 q380 q7 ⟨by decide, by decide⟩ (show (parseMethodDescriptor yX3_turn.desc).map (fun d => d.parameters.length) = some 2 by decide +kernel) (by decide) (by decide) (by decide) (by decide) (Nat.le_of_ble_eq_true rfl) rfl dX3_mixWords_132 rfl ?_
      rintro v9 w5 ⟨rfl, rfl⟩
      show V g k 12 w 0 0 (kQ g k (fun v w' => v = none ∧ (∃ sta' : Nat → Int32, w' 113 = some (as9, aI g 8 sta') ∧ ∀ j, j < 8 → sta' j = sta j + rds wds 64 sta j) ∧ Fr w w' 113 114) 0 0) 135 [(10, .int (u9 (kCu t) (wds t) (rds wds t sta))), (1, .int (rds wds t sta 0)), (2, .int (rds wds t sta 1)), (3, .int (rds wds t sta 2)), (4, .int (rds wds t sta 3)), (5, .int (rds wds t sta 4)), (6, .int (rds wds t sta 5)), (7, .int (rds wds t sta 6)), (8, .int (rds wds t sta 7)), (9, .int (nI t)), (0, .ref a0)] [.int (rot9 (rds wds t sta 0) (nI 2))]
      refine r_iload_n C 1 dX3_mixWords_135 rfl rfl ?_
      refine r_bipush C (nI 13) dX3_mixWords_136 (by decide) rfl ?_
      refine r_callS (As := [.int (rds wds t sta 0), .int (nI 13)]) (st := [.int (rot9 (rds wds t sta 0) (nI 2))]) C (c_turn) q381 q379 q380 q7 ⟨by decide, by decide⟩ (show (parseMethodDescriptor yX3_turn.desc).map (fun d => d.parameters.length) = some 2 by decide +kernel) (by decide) (by decide) (by decide) (by decide) (Nat.le_of_ble_eq_true rfl) rfl dX3_mixWords_138 rfl ?_
      rintro v9 w6 ⟨rfl, rfl⟩
      show V g k 12 w 0 0 (kQ g k (fun v w' => v = none ∧ (∃ sta' : Nat → Int32, w' 113 = some (as9, aI g 8 sta') ∧ ∀ j, j < 8 → sta' j = sta j + rds wds 64 sta j) ∧ Fr w w' 113 114) 0 0) 141 [(10, .int (u9 (kCu t) (wds t) (rds wds t sta))), (1, .int (rds wds t sta 0)), (2, .int (rds wds t sta 1)), (3, .int (rds wds t sta 2)), (4, .int (rds wds t sta 3)), (5, .int (rds wds t sta 4)), (6, .int (rds wds t sta 5)), (7, .int (rds wds t sta 6)), (8, .int (rds wds t sta 7)), (9, .int (nI t)), (0, .ref a0)] [.int (rot9 (rds wds t sta 0) (nI 13)), .int (rot9 (rds wds t sta 0) (nI 2))]
      refine r_ixor C dX3_mixWords_141 rfl ?_
      refine r_iload_n C 1 dX3_mixWords_142 rfl rfl ?_
      refine r_bipush C (nI 22) dX3_mixWords_143 (by decide) rfl ?_
      refine r_callS (As := [.int (rds wds t sta 0), .int (nI 22)]) (st := [.int ((rot9 (rds wds t sta 0) (nI 2)) ^^^ (rot9 (rds wds t sta 0) (nI 13)))]) C (c_turn) q381 q379 q380 q7 ⟨by decide, by decide⟩ (show (parseMethodDescriptor yX3_turn.desc).map (fun d => d.parameters.length) = some 2 by decide +kernel) (by decide) (by decide) (by decide) (by decide) (Nat.le_of_ble_eq_true rfl) rfl dX3_mixWords_145 rfl ?_
      rintro v9 w7 ⟨rfl, rfl⟩
      show V g k 12 w 0 0 (kQ g k (fun v w' => v = none ∧ (∃ sta' : Nat → Int32, w' 113 = some (as9, aI g 8 sta') ∧ ∀ j, j < 8 → sta' j = sta j + rds wds 64 sta j) ∧ Fr w w' 113 114) 0 0) 148 [(10, .int (u9 (kCu t) (wds t) (rds wds t sta))), (1, .int (rds wds t sta 0)), (2, .int (rds wds t sta 1)), (3, .int (rds wds t sta 2)), (4, .int (rds wds t sta 3)), (5, .int (rds wds t sta 4)), (6, .int (rds wds t sta 5)), (7, .int (rds wds t sta 6)), (8, .int (rds wds t sta 7)), (9, .int (nI t)), (0, .ref a0)] [.int (rot9 (rds wds t sta 0) (nI 22)), .int ((rot9 (rds wds t sta 0) (nI 2)) ^^^ (rot9 (rds wds t sta 0) (nI 13)))]
      refine r_ixor C dX3_mixWords_148 rfl ?_
      refine r_iload_n C 1 dX3_mixWords_149 rfl rfl ?_
      refine r_iload_n C 2 dX3_mixWords_150 rfl rfl ?_
      refine r_iand C dX3_mixWords_151 rfl ?_
      refine r_iload_n C 1 dX3_mixWords_152 rfl rfl ?_
      refine r_iload_n C 3 dX3_mixWords_153 rfl rfl ?_
      refine r_iand C dX3_mixWords_154 rfl ?_
      refine r_ixor C dX3_mixWords_155 rfl ?_
      refine r_iload_n C 2 dX3_mixWords_156 rfl rfl ?_
      refine r_iload_n C 3 dX3_mixWords_157 rfl rfl ?_
      refine r_iand C dX3_mixWords_158 rfl ?_
      refine r_ixor C dX3_mixWords_159 rfl ?_
      refine r_iadd C dX3_mixWords_160 rfl ?_
      refine r_ti (show ((((rot9 (rds wds t sta 0) (nI 2)) ^^^ (rot9 (rds wds t sta 0) (nI 13))) ^^^ (rot9 (rds wds t sta 0) (nI 22))) + ((((rds wds t sta 0) &&& (rds wds t sta 1)) ^^^ ((rds wds t sta 0) &&& (rds wds t sta 2))) ^^^ ((rds wds t sta 1) &&& (rds wds t sta 2))) : Int32) = v9 (rds wds t sta) from rfl) ?_
      refine r_istore (lv' := [(11, .int (v9 (rds wds t sta))), (10, .int (u9 (kCu t) (wds t) (rds wds t sta))), (1, .int (rds wds t sta 0)), (2, .int (rds wds t sta 1)), (3, .int (rds wds t sta 2)), (4, .int (rds wds t sta 3)), (5, .int (rds wds t sta 4)), (6, .int (rds wds t sta 5)), (7, .int (rds wds t sta 6)), (8, .int (rds wds t sta 7)), (9, .int (nI t)), (0, .ref a0)]) C dX3_mixWords_161 (by decide) rfl rfl ?_
      refine r_iload C 8 dX3_mixWords_163 rfl rfl ?_
      refine r_istore (lv' := [(8, .int (rds wds t sta 6)), (11, .int (v9 (rds wds t sta))), (10, .int (u9 (kCu t) (wds t) (rds wds t sta))), (1, .int (rds wds t sta 0)), (2, .int (rds wds t sta 1)), (3, .int (rds wds t sta 2)), (4, .int (rds wds t sta 3)), (5, .int (rds wds t sta 4)), (6, .int (rds wds t sta 5)), (7, .int (rds wds t sta 6)), (9, .int (nI t)), (0, .ref a0)]) C dX3_mixWords_165 (by decide) rfl rfl ?_
      refine r_iload C 8 dX3_mixWords_167 rfl rfl ?_
      refine r_istore (lv' := [(7, .int (rds wds t sta 5)), (8, .int (rds wds t sta 6)), (11, .int (v9 (rds wds t sta))), (10, .int (u9 (kCu t) (wds t) (rds wds t sta))), (1, .int (rds wds t sta 0)), (2, .int (rds wds t sta 1)), (3, .int (rds wds t sta 2)), (4, .int (rds wds t sta 3)), (5, .int (rds wds t sta 4)), (6, .int (rds wds t sta 5)), (9, .int (nI t)), (0, .ref a0)]) C dX3_mixWords_169 (by decide) rfl rfl ?_
      refine r_iload C 8 dX3_mixWords_171 rfl rfl ?_
      refine r_istore (lv' := [(6, .int (rds wds t sta 4)), (7, .int (rds wds t sta 5)), (8, .int (rds wds t sta 6)), (11, .int (v9 (rds wds t sta))), (10, .int (u9 (kCu t) (wds t) (rds wds t sta))), (1, .int (rds wds t sta 0)), (2, .int (rds wds t sta 1)), (3, .int (rds wds t sta 2)), (4, .int (rds wds t sta 3)), (5, .int (rds wds t sta 4)), (9, .int (nI t)), (0, .ref a0)]) C dX3_mixWords_173 (by decide) rfl rfl ?_
      refine r_iload C 8 dX3_mixWords_175 rfl rfl ?_
      refine r_iload C 4 dX3_mixWords_177 rfl rfl ?_
      refine r_iadd C dX3_mixWords_179 rfl ?_
      refine r_istore (lv' := [(5, .int ((rds wds t sta 3) + (u9 (kCu t) (wds t) (rds wds t sta)))), (6, .int (rds wds t sta 4)), (7, .int (rds wds t sta 5)), (8, .int (rds wds t sta 6)), (11, .int (v9 (rds wds t sta))), (10, .int (u9 (kCu t) (wds t) (rds wds t sta))), (1, .int (rds wds t sta 0)), (2, .int (rds wds t sta 1)), (3, .int (rds wds t sta 2)), (4, .int (rds wds t sta 3)), (9, .int (nI t)), (0, .ref a0)]) C dX3_mixWords_180 (by decide) rfl rfl ?_
      refine r_iload_n C 8 dX3_mixWords_182 rfl rfl ?_
      refine r_istore (lv' := [(4, .int (rds wds t sta 2)), (5, .int ((rds wds t sta 3) + (u9 (kCu t) (wds t) (rds wds t sta)))), (6, .int (rds wds t sta 4)), (7, .int (rds wds t sta 5)), (8, .int (rds wds t sta 6)), (11, .int (v9 (rds wds t sta))), (10, .int (u9 (kCu t) (wds t) (rds wds t sta))), (1, .int (rds wds t sta 0)), (2, .int (rds wds t sta 1)), (3, .int (rds wds t sta 2)), (9, .int (nI t)), (0, .ref a0)]) C dX3_mixWords_183 (by decide) rfl rfl ?_
      refine r_iload_n C 8 dX3_mixWords_185 rfl rfl ?_
      refine r_istore_n (lv' := [(3, .int (rds wds t sta 1)), (4, .int (rds wds t sta 2)), (5, .int ((rds wds t sta 3) + (u9 (kCu t) (wds t) (rds wds t sta)))), (6, .int (rds wds t sta 4)), (7, .int (rds wds t sta 5)), (8, .int (rds wds t sta 6)), (11, .int (v9 (rds wds t sta))), (10, .int (u9 (kCu t) (wds t) (rds wds t sta))), (1, .int (rds wds t sta 0)), (2, .int (rds wds t sta 1)), (9, .int (nI t)), (0, .ref a0)]) C dX3_mixWords_186 (by decide) rfl rfl ?_
      refine r_iload_n C 8 dX3_mixWords_187 rfl rfl ?_
      refine r_istore_n (lv' := [(2, .int (rds wds t sta 0)), (3, .int (rds wds t sta 1)), (4, .int (rds wds t sta 2)), (5, .int ((rds wds t sta 3) + (u9 (kCu t) (wds t) (rds wds t sta)))), (6, .int (rds wds t sta 4)), (7, .int (rds wds t sta 5)), (8, .int (rds wds t sta 6)), (11, .int (v9 (rds wds t sta))), (10, .int (u9 (kCu t) (wds t) (rds wds t sta))), (1, .int (rds wds t sta 0)), (9, .int (nI t)), (0, .ref a0)]) C dX3_mixWords_188 (by decide) rfl rfl ?_
      refine r_iload C 8 dX3_mixWords_189 rfl rfl ?_
      refine r_iload C 7 dX3_mixWords_191 rfl rfl ?_
      refine r_iadd C dX3_mixWords_193 rfl ?_
      refine r_istore_n (lv' := [(1, .int ((u9 (kCu t) (wds t) (rds wds t sta)) + (v9 (rds wds t sta)))), (2, .int (rds wds t sta 0)), (3, .int (rds wds t sta 1)), (4, .int (rds wds t sta 2)), (5, .int ((rds wds t sta 3) + (u9 (kCu t) (wds t) (rds wds t sta)))), (6, .int (rds wds t sta 4)), (7, .int (rds wds t sta 5)), (8, .int (rds wds t sta 6)), (11, .int (v9 (rds wds t sta))), (10, .int (u9 (kCu t) (wds t) (rds wds t sta))), (9, .int (nI t)), (0, .ref a0)]) C dX3_mixWords_194 (by decide) rfl rfl ?_
      refine r_iinc (v := nI (t + 1)) (lv' := [(9, .int (nI (t + 1))), (1, .int ((u9 (kCu t) (wds t) (rds wds t sta)) + (v9 (rds wds t sta)))), (2, .int (rds wds t sta 0)), (3, .int (rds wds t sta 1)), (4, .int (rds wds t sta 2)), (5, .int ((rds wds t sta 3) + (u9 (kCu t) (wds t) (rds wds t sta)))), (6, .int (rds wds t sta 4)), (7, .int (rds wds t sta 5)), (8, .int (rds wds t sta 6)), (11, .int (v9 (rds wds t sta))), (10, .int (u9 (kCu t) (wds t) (rds wds t sta))), (0, .ref a0)]) C 10 dX3_mixWords_195 rfl (nI_1 t) (by decide) rfl rfl ?_
      refine r_goto (tgt := 66) C dX3_mixWords_198 (by decide) ?_
      refine r_sub (lv' := [(1, .int ((u9 (kCu t) (wds t) (rds wds t sta)) + (v9 (rds wds t sta)))), (2, .int (rds wds t sta 0)), (3, .int (rds wds t sta 1)), (4, .int (rds wds t sta 2)), (5, .int ((rds wds t sta 3) + (u9 (kCu t) (wds t) (rds wds t sta)))), (6, .int (rds wds t sta 4)), (7, .int (rds wds t sta 5)), (8, .int (rds wds t sta 6)), (9, .int (nI (t + 1))), (0, .ref a0)]) [1, 2, 3, 4, 5, 6, 7, 8, 0, 11] rfl ?_
      exact ih (t + 1) (by omega)
  exact loop 64 0 (by omega)

theorem sc9_st0 {M wds : Nat → Int32} {b t : Nat} (h : ∀ j, j < t → wds j = sc9 M b j) (ht : t < 16) : ∀ j, j < t + 1 → upd wds t (rdW M (b + 4 * t)) j = sc9 M b j := by
  intro j hj
  by_cases e : j = t
  · subst e; rw [pk_us, sc9_lo ht]
  · rw [pk_un e]; exact h j (by omega)
theorem sc9_st1 {M wds : Nat → Int32} {b t : Nat} (h : ∀ j, j < t → wds j = sc9 M b j) (ht : 16 ≤ t) : ∀ j, j < t + 1 → upd wds t (((lat9 (wds (t - 2)) + wds (t - 7)) + ear9 (wds (t - 15))) + wds (t - 16)) j = sc9 M b j := by
  intro j hj
  by_cases e : j = t
  · subst e; rw [pk_us, sc9_hi ht, h _ (by omega), h _ (by omega), h _ (by omega), h _ (by omega)]
  · rw [pk_un e]; exact h j (by omega)
set_option maxHeartbeats 4000000 in
set_option maxRecDepth 20000 in
theorem c_readWords {l : Launch} {g : cx_G} {w : wd_T} {a0 am aw as9 : Nat} {n : Int32} {msg wds : Nat → Int32} {b : Nat} (h0 : w 110 = some (a0, ob 3 [.ref am, .ref aw, .ref as9, .int n])) (h1 : w 111 = some (am, aB g 128 msg)) (h2 : w 112 = some (aw, aI g 64 wds)) (hb : b ≤ 64) : Mt l g yX3_readWords cX3_readWords 5 none 2 0 0 w [.ref a0, .int (nI b)] (fun v w' => v = none ∧ (∃ wds' : Nat → Int32, w' 112 = some (aw, aI g 64 wds') ∧ ∀ j, j < 64 → wds' j = sc9 msg b j) ∧ Fr w w' 112 113) := by
  refine mt_of RX3 "readWords" rfl rfl (by decide) (Nat.le_of_ble_eq_true rfl) [(0, .ref a0), (1, .int (nI b))] rfl ?_
  intro k hkl C hin
  subst hkl
  have loop2 : ∀ (r t : Nat) (wds1 : Nat → Int32) (w1 : wd_T), t + r = 64 → 16 ≤ t → (w1 112 = some (aw, aI g 64 wds1)) → (∀ j, j < t → wds1 j = sc9 msg b j) → (Fr w w1 112 113) → V g k 5 w1 0 0 (kQ g k (fun v w' => v = none ∧ (∃ wds' : Nat → Int32, w' 112 = some (aw, aI g 64 wds') ∧ ∀ j, j < 64 → wds' j = sc9 msg b j) ∧ Fr w w' 112 113) 0 0) 64 [(2, .int (nI t)), (0, .ref a0), (1, .int (nI b))] [] := by
    intro r
    induction r with
    | zero =>
      intro t wds1 w1 hi h16 g2 gs gf
      have g0 : w1 110 = _ := (gf 110 (by decide)).trans h0
      have g1 : w1 111 = _ := (gf 111 (by decide)).trans h1
      refine r_iload_n C 0 dX3_readWords_64 rfl rfl ?_
      refine r_bipush C (nI 64) dX3_readWords_65 (by decide) rfl ?_
      refine r_icmp_ge_t (tgt := 126) C dX3_readWords_67 (by decide) ((nI_leI (a := 64) (b := t) (by omega) (by omega)).mpr (by omega)) ?_
      obtain rfl : t = 64 := by omega
      exact r_vret C rfl (by decide) (by decide) dX3_readWords_126 ⟨rfl, ⟨_, g2, gs⟩, gf⟩
    | succ r ih =>
      intro t wds1 w1 hi h16 g2 gs gf
      have g0 : w1 110 = _ := (gf 110 (by decide)).trans h0
      have g1 : w1 111 = _ := (gf 111 (by decide)).trans h1
      refine r_iload_n C 0 dX3_readWords_64 rfl rfl ?_
      refine r_bipush C (nI 64) dX3_readWords_65 (by decide) rfl ?_
      refine r_icmp_ge_f (tgt := 126) C dX3_readWords_67 (by decide) rfl (fun z => absurd ((nI_leI (a := 64) (b := t) (by omega) (by omega)).mp z) (by omega)) ?_
      refine r_aload_n C 1 dX3_readWords_70 rfl rfl ?_
      refine r_get (t := 110) C koX3 g0 1 (by decide) q88 rfl rfl dX3_readWords_71 rfl ?_
      refine r_iload_n C 0 dX3_readWords_74 rfl rfl ?_
      refine r_aload_n C 1 dX3_readWords_75 rfl rfl ?_
      refine r_get (t := 110) C koX3 g0 1 (by decide) q88 rfl rfl dX3_readWords_76 rfl ?_
      refine r_iload_n C 0 dX3_readWords_79 rfl rfl ?_
      refine r_iconst C (nI 2) dX3_readWords_80 (by decide) rfl ?_
      refine r_isub C dX3_readWords_81 rfl ?_
      refine r_ti (show ((nI t) - (nI 2) : Int32) = nI (t - 2) from pk_sub (by omega)) ?_
      refine r_iald (t := 112) C g2 (t - 2) rfl (by omega) (by decide) dX3_readWords_82 rfl ?_
      refine r_callS (As := [.int (wds1 (t - 2))]) (st := [.int (nI t), .ref aw]) C (c_lateWord) q378 q376 q377 q7 ⟨by decide, by decide⟩ (show (parseMethodDescriptor yX3_lateWord.desc).map (fun d => d.parameters.length) = some 1 by decide +kernel) (by decide) (by decide) (by decide) (by decide) (Nat.le_of_ble_eq_true rfl) rfl dX3_readWords_83 rfl ?_
      rintro v9 w2 ⟨rfl, rfl⟩
      show V g k 5 w1 0 0 (kQ g k (fun v w' => v = none ∧ (∃ wds' : Nat → Int32, w' 112 = some (aw, aI g 64 wds') ∧ ∀ j, j < 64 → wds' j = sc9 msg b j) ∧ Fr w w' 112 113) 0 0) 86 [(2, .int (nI t)), (0, .ref a0), (1, .int (nI b))] [.int (lat9 (wds1 (t - 2))), .int (nI t), .ref aw]
      refine r_aload_n C 1 dX3_readWords_86 rfl rfl ?_
      refine r_get (t := 110) C koX3 g0 1 (by decide) q88 rfl rfl dX3_readWords_87 rfl ?_
      refine r_iload_n C 0 dX3_readWords_90 rfl rfl ?_
      refine r_bipush C (nI 7) dX3_readWords_91 (by decide) rfl ?_
      refine r_isub C dX3_readWords_93 rfl ?_
      refine r_ti (show ((nI t) - (nI 7) : Int32) = nI (t - 7) from pk_sub (by omega)) ?_
      refine r_iald (t := 112) C g2 (t - 7) rfl (by omega) (by decide) dX3_readWords_94 rfl ?_
      refine r_iadd C dX3_readWords_95 rfl ?_
      refine r_aload_n C 1 dX3_readWords_96 rfl rfl ?_
      refine r_get (t := 110) C koX3 g0 1 (by decide) q88 rfl rfl dX3_readWords_97 rfl ?_
      refine r_iload_n C 0 dX3_readWords_100 rfl rfl ?_
      refine r_bipush C (nI 15) dX3_readWords_101 (by decide) rfl ?_
      refine r_isub C dX3_readWords_103 rfl ?_
      refine r_ti (show ((nI t) - (nI 15) : Int32) = nI (t - 15) from pk_sub (by omega)) ?_
      refine r_iald (t := 112) C g2 (t - 15) rfl (by omega) (by decide) dX3_readWords_104 rfl ?_
      refine r_callS (As := [.int (wds1 (t - 15))]) (st := [.int ((lat9 (wds1 (t - 2))) + (wds1 (t - 7))), .int (nI t), .ref aw]) C (c_earlyWord) q384 q382 q383 q7 ⟨by decide, by decide⟩ (show (parseMethodDescriptor yX3_earlyWord.desc).map (fun d => d.parameters.length) = some 1 by decide +kernel) (by decide) (by decide) (by decide) (by decide) (Nat.le_of_ble_eq_true rfl) rfl dX3_readWords_105 rfl ?_
      rintro v9 w3 ⟨rfl, rfl⟩
      show V g k 5 w1 0 0 (kQ g k (fun v w' => v = none ∧ (∃ wds' : Nat → Int32, w' 112 = some (aw, aI g 64 wds') ∧ ∀ j, j < 64 → wds' j = sc9 msg b j) ∧ Fr w w' 112 113) 0 0) 108 [(2, .int (nI t)), (0, .ref a0), (1, .int (nI b))] [.int (ear9 (wds1 (t - 15))), .int ((lat9 (wds1 (t - 2))) + (wds1 (t - 7))), .int (nI t), .ref aw]
      refine r_iadd C dX3_readWords_108 rfl ?_
      refine r_aload_n C 1 dX3_readWords_109 rfl rfl ?_
      refine r_get (t := 110) C koX3 g0 1 (by decide) q88 rfl rfl dX3_readWords_110 rfl ?_
      refine r_iload_n C 0 dX3_readWords_113 rfl rfl ?_
      refine r_bipush C (nI 16) dX3_readWords_114 (by decide) rfl ?_
      refine r_isub C dX3_readWords_116 rfl ?_
      refine r_ti (show ((nI t) - (nI 16) : Int32) = nI (t - 16) from pk_sub (by omega)) ?_
      refine r_iald (t := 112) C g2 (t - 16) rfl (by omega) (by decide) dX3_readWords_117 rfl ?_
      refine r_iadd C dX3_readWords_118 rfl ?_
      refine r_iast (t := 112) (w' := wd_set w1 112 aw (aI g 64 (upd wds1 t ((((lat9 (wds1 (t - 2))) + (wds1 (t - 7))) + (ear9 (wds1 (t - 15)))) + (wds1 (t - 16)))))) C g2 t rfl (by omega) (by decide) dX3_readWords_119 rfl rfl ?_
      refine r_iinc (v := nI (t + 1)) (lv' := [(2, .int (nI (t + 1))), (0, .ref a0), (1, .int (nI b))]) C 0 dX3_readWords_120 rfl (nI_1 t) (by decide) rfl rfl ?_
      refine r_goto (tgt := 64) C dX3_readWords_123 (by decide) ?_
      exact ih (t + 1) _ _ (by omega) (by omega) wd_eq (sc9_st1 gs h16) (gf.trans (Fr.set (by decide) (by decide)))
  refine r_iconst C (nI 0) dX3_readWords_0 (by decide) rfl ?_
  refine r_istore_n (lv' := [(2, .int (nI 0)), (0, .ref a0), (1, .int (nI b))]) C dX3_readWords_1 (by decide) rfl rfl ?_
  have loop1 : ∀ (r t : Nat) (wds1 : Nat → Int32) (w1 : wd_T), t + r = 16 → (w1 112 = some (aw, aI g 64 wds1)) → (∀ j, j < t → wds1 j = sc9 msg b j) → (Fr w w1 112 113) → V g k 5 w1 0 0 (kQ g k (fun v w' => v = none ∧ (∃ wds' : Nat → Int32, w' 112 = some (aw, aI g 64 wds') ∧ ∀ j, j < 64 → wds' j = sc9 msg b j) ∧ Fr w w' 112 113) 0 0) 2 [(2, .int (nI t)), (0, .ref a0), (1, .int (nI b))] [] := by
    intro r
    induction r with
    | zero =>
      intro t wds1 w1 hi g2 gs gf
      have g0 : w1 110 = _ := (gf 110 (by decide)).trans h0
      have g1 : w1 111 = _ := (gf 111 (by decide)).trans h1
      refine r_iload_n C 0 dX3_readWords_2 rfl rfl ?_
      refine r_bipush C (nI 16) dX3_readWords_3 (by decide) rfl ?_
      refine r_icmp_ge_t (tgt := 61) C dX3_readWords_5 (by decide) ((nI_leI (a := 16) (b := t) (by omega) (by omega)).mpr (by omega)) ?_
      obtain rfl : t = 16 := by omega
      refine r_bipush C (nI 16) dX3_readWords_61 (by decide) rfl ?_
      refine r_istore_n (lv' := [(2, .int (nI 16)), (0, .ref a0), (1, .int (nI b))]) C dX3_readWords_63 (by decide) rfl rfl ?_
      refine r_sub (lv' := [(2, .int (nI 16)), (0, .ref a0), (1, .int (nI b))]) [0, 1, 2] rfl ?_
      exact loop2 48 16 wds1 w1 (by omega) (by omega) g2 gs gf
    | succ r ih =>
      intro t wds1 w1 hi g2 gs gf
      have g0 : w1 110 = _ := (gf 110 (by decide)).trans h0
      have g1 : w1 111 = _ := (gf 111 (by decide)).trans h1
      refine r_iload_n C 0 dX3_readWords_2 rfl rfl ?_
      refine r_bipush C (nI 16) dX3_readWords_3 (by decide) rfl ?_
      refine r_icmp_ge_f (tgt := 61) C dX3_readWords_5 (by decide) rfl (fun z => absurd ((nI_leI (a := 16) (b := t) (by omega) (by omega)).mp z) (by omega)) ?_
      refine r_iconst C (nI 0) dX3_readWords_8 (by decide) rfl ?_
      refine r_istore_n (lv' := [(3, .int (nI 0)), (2, .int (nI t)), (0, .ref a0), (1, .int (nI b))]) C dX3_readWords_9 (by decide) rfl rfl ?_
      refine r_iconst C (nI 0) dX3_readWords_10 (by decide) rfl ?_
      refine r_istore (lv' := [(4, .int (nI 0)), (3, .int (nI 0)), (2, .int (nI t)), (0, .ref a0), (1, .int (nI b))]) C dX3_readWords_11 (by decide) rfl rfl ?_
      refine r_iload C 0 dX3_readWords_13 rfl rfl ?_
      refine r_iconst C (nI 4) dX3_readWords_15 (by decide) rfl ?_
      refine r_icmp_ge_f (tgt := 48) C dX3_readWords_16 (by decide) rfl (fun z => absurd ((nI_leI (a := 4) (b := 0) (by omega) (by omega)).mp z) (by omega)) ?_
      refine r_iload_n C 1 dX3_readWords_19 rfl rfl ?_
      refine r_bipush C (nI 8) dX3_readWords_20 (by decide) rfl ?_
      refine r_ishl C dX3_readWords_22 rfl ?_
      refine r_aload_n C 3 dX3_readWords_23 rfl rfl ?_
      refine r_get (t := 110) C koX3 g0 0 (by decide) q87 rfl rfl dX3_readWords_24 rfl ?_
      refine r_iload_n C 4 dX3_readWords_27 rfl rfl ?_
      refine r_iconst C (nI 4) dX3_readWords_28 (by decide) rfl ?_
      refine r_iload_n C 2 dX3_readWords_29 rfl rfl ?_
      refine r_imul C dX3_readWords_30 rfl ?_
      refine r_ti (show ((nI 4) * (nI t) : Int32) = nI (4 * t) from pk_mul 4 t) ?_
      refine r_iadd C dX3_readWords_31 rfl ?_
      refine r_ti (show ((nI b) + (nI (4 * t)) : Int32) = nI (b + (4 * t)) from nI_add b (4 * t)) ?_
      refine r_iload C 0 dX3_readWords_32 rfl rfl ?_
      refine r_iadd C dX3_readWords_34 rfl ?_
      refine r_ti (show ((nI (b + (4 * t))) + (nI 0) : Int32) = nI (b + (4 * t) + 0) from nI_add (b + (4 * t)) 0) ?_
      refine r_bald (t := 111) C g1 (b + (4 * t) + 0) rfl (by omega) (by decide) dX3_readWords_35 rfl ?_
      refine r_sipush C (nI 255) dX3_readWords_36 (by decide) rfl ?_
      refine r_iand C dX3_readWords_39 rfl ?_
      refine r_ior C dX3_readWords_40 rfl ?_
      refine r_istore_n (lv' := [(3, .int (((nI 0) <<< ((nI 8) &&& 31)) ||| ((msg (b + (4 * t) + 0)) &&& (nI 255)))), (4, .int (nI 0)), (2, .int (nI t)), (0, .ref a0), (1, .int (nI b))]) C dX3_readWords_41 (by decide) rfl rfl ?_
      refine r_iinc (v := nI 1) (lv' := [(4, .int (nI 1)), (3, .int (((nI 0) <<< ((nI 8) &&& 31)) ||| ((msg (b + (4 * t) + 0)) &&& (nI 255)))), (2, .int (nI t)), (0, .ref a0), (1, .int (nI b))]) C 1 dX3_readWords_42 rfl (nI_1 0) (by decide) rfl rfl ?_
      refine r_goto (tgt := 13) C dX3_readWords_45 (by decide) ?_
      refine r_iload C 0 dX3_readWords_13 rfl rfl ?_
      refine r_iconst C (nI 4) dX3_readWords_15 (by decide) rfl ?_
      refine r_icmp_ge_f (tgt := 48) C dX3_readWords_16 (by decide) rfl (fun z => absurd ((nI_leI (a := 4) (b := 1) (by omega) (by omega)).mp z) (by omega)) ?_
      refine r_iload_n C 1 dX3_readWords_19 rfl rfl ?_
      refine r_bipush C (nI 8) dX3_readWords_20 (by decide) rfl ?_
      refine r_ishl C dX3_readWords_22 rfl ?_
      refine r_aload_n C 3 dX3_readWords_23 rfl rfl ?_
      refine r_get (t := 110) C koX3 g0 0 (by decide) q87 rfl rfl dX3_readWords_24 rfl ?_
      refine r_iload_n C 4 dX3_readWords_27 rfl rfl ?_
      refine r_iconst C (nI 4) dX3_readWords_28 (by decide) rfl ?_
      refine r_iload_n C 2 dX3_readWords_29 rfl rfl ?_
      refine r_imul C dX3_readWords_30 rfl ?_
      refine r_ti (show ((nI 4) * (nI t) : Int32) = nI (4 * t) from pk_mul 4 t) ?_
      refine r_iadd C dX3_readWords_31 rfl ?_
      refine r_ti (show ((nI b) + (nI (4 * t)) : Int32) = nI (b + (4 * t)) from nI_add b (4 * t)) ?_
      refine r_iload C 0 dX3_readWords_32 rfl rfl ?_
      refine r_iadd C dX3_readWords_34 rfl ?_
      refine r_ti (show ((nI (b + (4 * t))) + (nI 1) : Int32) = nI (b + (4 * t) + 1) from nI_add (b + (4 * t)) 1) ?_
      refine r_bald (t := 111) C g1 (b + (4 * t) + 1) rfl (by omega) (by decide) dX3_readWords_35 rfl ?_
      refine r_sipush C (nI 255) dX3_readWords_36 (by decide) rfl ?_
      refine r_iand C dX3_readWords_39 rfl ?_
      refine r_ior C dX3_readWords_40 rfl ?_
      refine r_istore_n (lv' := [(3, .int (((((nI 0) <<< ((nI 8) &&& 31)) ||| ((msg (b + (4 * t) + 0)) &&& (nI 255))) <<< ((nI 8) &&& 31)) ||| ((msg (b + (4 * t) + 1)) &&& (nI 255)))), (4, .int (nI 1)), (2, .int (nI t)), (0, .ref a0), (1, .int (nI b))]) C dX3_readWords_41 (by decide) rfl rfl ?_
      refine r_iinc (v := nI 2) (lv' := [(4, .int (nI 2)), (3, .int (((((nI 0) <<< ((nI 8) &&& 31)) ||| ((msg (b + (4 * t) + 0)) &&& (nI 255))) <<< ((nI 8) &&& 31)) ||| ((msg (b + (4 * t) + 1)) &&& (nI 255)))), (2, .int (nI t)), (0, .ref a0), (1, .int (nI b))]) C 1 dX3_readWords_42 rfl (nI_1 1) (by decide) rfl rfl ?_
      refine r_goto (tgt := 13) C dX3_readWords_45 (by decide) ?_
      refine r_iload C 0 dX3_readWords_13 rfl rfl ?_
      refine r_iconst C (nI 4) dX3_readWords_15 (by decide) rfl ?_
      refine r_icmp_ge_f (tgt := 48) C dX3_readWords_16 (by decide) rfl (fun z => absurd ((nI_leI (a := 4) (b := 2) (by omega) (by omega)).mp z) (by omega)) ?_
      refine r_iload_n C 1 dX3_readWords_19 rfl rfl ?_
      refine r_bipush C (nI 8) dX3_readWords_20 (by decide) rfl ?_
      refine r_ishl C dX3_readWords_22 rfl ?_
      refine r_aload_n C 3 dX3_readWords_23 rfl rfl ?_
      refine r_get (t := 110) C koX3 g0 0 (by decide) q87 rfl rfl dX3_readWords_24 rfl ?_
      refine r_iload_n C 4 dX3_readWords_27 rfl rfl ?_
      refine r_iconst C (nI 4) dX3_readWords_28 (by decide) rfl ?_
      refine r_iload_n C 2 dX3_readWords_29 rfl rfl ?_
      refine r_imul C dX3_readWords_30 rfl ?_
      refine r_ti (show ((nI 4) * (nI t) : Int32) = nI (4 * t) from pk_mul 4 t) ?_
      refine r_iadd C dX3_readWords_31 rfl ?_
      refine r_ti (show ((nI b) + (nI (4 * t)) : Int32) = nI (b + (4 * t)) from nI_add b (4 * t)) ?_
      refine r_iload C 0 dX3_readWords_32 rfl rfl ?_
      refine r_iadd C dX3_readWords_34 rfl ?_
      refine r_ti (show ((nI (b + (4 * t))) + (nI 2) : Int32) = nI (b + (4 * t) + 2) from nI_add (b + (4 * t)) 2) ?_
      refine r_bald (t := 111) C g1 (b + (4 * t) + 2) rfl (by omega) (by decide) dX3_readWords_35 rfl ?_
      refine r_sipush C (nI 255) dX3_readWords_36 (by decide) rfl ?_
      refine r_iand C dX3_readWords_39 rfl ?_
      refine r_ior C dX3_readWords_40 rfl ?_
      refine r_istore_n (lv' := [(3, .int (((((((nI 0) <<< ((nI 8) &&& 31)) ||| ((msg (b + (4 * t) + 0)) &&& (nI 255))) <<< ((nI 8) &&& 31)) ||| ((msg (b + (4 * t) + 1)) &&& (nI 255))) <<< ((nI 8) &&& 31)) ||| ((msg (b + (4 * t) + 2)) &&& (nI 255)))), (4, .int (nI 2)), (2, .int (nI t)), (0, .ref a0), (1, .int (nI b))]) C dX3_readWords_41 (by decide) rfl rfl ?_
      refine r_iinc (v := nI 3) (lv' := [(4, .int (nI 3)), (3, .int (((((((nI 0) <<< ((nI 8) &&& 31)) ||| ((msg (b + (4 * t) + 0)) &&& (nI 255))) <<< ((nI 8) &&& 31)) ||| ((msg (b + (4 * t) + 1)) &&& (nI 255))) <<< ((nI 8) &&& 31)) ||| ((msg (b + (4 * t) + 2)) &&& (nI 255)))), (2, .int (nI t)), (0, .ref a0), (1, .int (nI b))]) C 1 dX3_readWords_42 rfl (nI_1 2) (by decide) rfl rfl ?_
      refine r_goto (tgt := 13) C dX3_readWords_45 (by decide) ?_
      refine r_iload C 0 dX3_readWords_13 rfl rfl ?_
      refine r_iconst C (nI 4) dX3_readWords_15 (by decide) rfl ?_
      refine r_icmp_ge_f (tgt := 48) C dX3_readWords_16 (by decide) rfl (fun z => absurd ((nI_leI (a := 4) (b := 3) (by omega) (by omega)).mp z) (by omega)) ?_
      refine r_iload_n C 1 dX3_readWords_19 rfl rfl ?_
      refine r_bipush C (nI 8) dX3_readWords_20 (by decide) rfl ?_
      refine r_ishl C dX3_readWords_22 rfl ?_
      refine r_aload_n C 3 dX3_readWords_23 rfl rfl ?_
      refine r_get (t := 110) C koX3 g0 0 (by decide) q87 rfl rfl dX3_readWords_24 rfl ?_
      refine r_iload_n C 4 dX3_readWords_27 rfl rfl ?_
      refine r_iconst C (nI 4) dX3_readWords_28 (by decide) rfl ?_
      refine r_iload_n C 2 dX3_readWords_29 rfl rfl ?_
      refine r_imul C dX3_readWords_30 rfl ?_
      refine r_ti (show ((nI 4) * (nI t) : Int32) = nI (4 * t) from pk_mul 4 t) ?_
      refine r_iadd C dX3_readWords_31 rfl ?_
      refine r_ti (show ((nI b) + (nI (4 * t)) : Int32) = nI (b + (4 * t)) from nI_add b (4 * t)) ?_
      refine r_iload C 0 dX3_readWords_32 rfl rfl ?_
      refine r_iadd C dX3_readWords_34 rfl ?_
      refine r_ti (show ((nI (b + (4 * t))) + (nI 3) : Int32) = nI (b + (4 * t) + 3) from nI_add (b + (4 * t)) 3) ?_
      refine r_bald (t := 111) C g1 (b + (4 * t) + 3) rfl (by omega) (by decide) dX3_readWords_35 rfl ?_
      refine r_sipush C (nI 255) dX3_readWords_36 (by decide) rfl ?_
      refine r_iand C dX3_readWords_39 rfl ?_
      refine r_ior C dX3_readWords_40 rfl ?_
      refine r_ti (show (((((((((nI 0) <<< ((nI 8) &&& 31)) ||| ((msg (b + (4 * t) + 0)) &&& (nI 255))) <<< ((nI 8) &&& 31)) ||| ((msg (b + (4 * t) + 1)) &&& (nI 255))) <<< ((nI 8) &&& 31)) ||| ((msg (b + (4 * t) + 2)) &&& (nI 255))) <<< ((nI 8) &&& 31)) ||| ((msg (b + (4 * t) + 3)) &&& (nI 255)) : Int32) = rdW msg (b + 4 * t) from rfl) ?_
      refine r_istore_n (lv' := [(3, .int (rdW msg (b + 4 * t))), (4, .int (nI 3)), (2, .int (nI t)), (0, .ref a0), (1, .int (nI b))]) C dX3_readWords_41 (by decide) rfl rfl ?_
      refine r_iinc (v := nI 4) (lv' := [(4, .int (nI 4)), (3, .int (rdW msg (b + 4 * t))), (2, .int (nI t)), (0, .ref a0), (1, .int (nI b))]) C 1 dX3_readWords_42 rfl (nI_1 3) (by decide) rfl rfl ?_
      refine r_goto (tgt := 13) C dX3_readWords_45 (by decide) ?_
      refine r_iload C 0 dX3_readWords_13 rfl rfl ?_
      refine r_iconst C (nI 4) dX3_readWords_15 (by decide) rfl ?_
      refine r_icmp_ge_t (tgt := 48) C dX3_readWords_16 (by decide) ((nI_leI (a := 4) (b := 4) (by omega) (by omega)).mpr (by omega)) ?_
      refine r_aload_n C 3 dX3_readWords_48 rfl rfl ?_
      refine r_get (t := 110) C koX3 g0 1 (by decide) q88 rfl rfl dX3_readWords_49 rfl ?_
      refine r_iload_n C 2 dX3_readWords_52 rfl rfl ?_
      refine r_iload_n C 1 dX3_readWords_53 rfl rfl ?_
      refine r_iast (t := 112) (w' := wd_set w1 112 aw (aI g 64 (upd wds1 t (rdW msg (b + 4 * t))))) C g2 t rfl (by omega) (by decide) dX3_readWords_54 rfl rfl ?_
      refine r_iinc (v := nI (t + 1)) (lv' := [(2, .int (nI (t + 1))), (4, .int (nI 4)), (3, .int (rdW msg (b + 4 * t))), (0, .ref a0), (1, .int (nI b))]) C 2 dX3_readWords_55 rfl (nI_1 t) (by decide) rfl rfl ?_
      refine r_goto (tgt := 2) C dX3_readWords_58 (by decide) ?_
      refine r_sub (lv' := [(2, .int (nI (t + 1))), (0, .ref a0), (1, .int (nI b))]) [0, 3, 4] rfl ?_
      exact ih (t + 1) _ _ (by omega) wd_eq (sc9_st0 gs (by omega)) (gf.trans (Fr.set (by decide) (by decide)))
  exact loop1 16 0 wds w (by omega) h2 (fun j hj => absurd hj (Nat.not_lt_zero j)) Fr.rfl'
end
section
/-! Sum: finish, copyTo, isAt, its constructor -/
theorem bp9 (x : Int32) : x.toInt8.toInt32 &&& nI 255 = x &&& nI 255 := bp_b x
theorem dig9_8 (S : Nat → Int32) (k : Nat) : (dig9 S k).toInt8.toInt32 = dig9 S k := i8_idem _
/-- the message behind the padding -/
theorem fin_msg {n : Nat} (h1 : 57 ≤ n) (h2 : n ≤ 119) {m f : Nat → Int32} (e1 : ∀ j, j < n → m j = (f j).toInt8.toInt32) (e2 : m n = (nI 128).toInt8.toInt32) (e3 : ∀ j, n < j → j < 120 → m j = (nI 0).toInt8.toInt32) {x7 x6 x5 x4 x3 x2 : Int32} (z7 : x7 = nI 0) (z6 : x6 = nI 0) (z5 : x5 = nI 0) (z4 : x4 = nI 0) (z3 : x3 = nI 0) (z2 : x2 = nI 0) :
    ∀ j, j < 128 → upd (upd (upd (upd (upd (upd (upd (upd m 120 x7.toInt8.toInt32) 121 x6.toInt8.toInt32) 122 x5.toInt8.toInt32) 123 x4.toInt8.toInt32) 124 x3.toInt8.toInt32) 125 x2.toInt8.toInt32) 126 (nI (8 * n / 2 ^ 8)).toInt8.toInt32) 127 (nI (8 * n / 2 ^ 0)).toInt8.toInt32 j = pad9 n f j := by
  intro j hj
  subst z7 z6 z5 z4 z3 z2
  unfold pad9
  rcases Nat.lt_or_ge j 120 with q | q
  · rw [pk_un (by omega), pk_un (by omega), pk_un (by omega), pk_un (by omega), pk_un (by omega), pk_un (by omega), pk_un (by omega), pk_un (by omega)]
    rcases Nat.lt_or_ge j n with q1 | q1
    · rw [if_pos q1]; exact e1 j q1
    · rw [if_neg (by omega)]
      by_cases q2 : j = n
      · rw [if_pos q2, q2]; exact e2
      · rw [if_neg q2, if_neg (by omega), if_neg (by omega)]; exact e3 j (by omega) q
  · rw [if_neg (by omega), if_neg (by omega)]
    have c : j = 120 ∨ j = 121 ∨ j = 122 ∨ j = 123 ∨ j = 124 ∨ j = 125 ∨ j = 126 ∨ j = 127 := by omega
    rcases c with rfl | rfl | rfl | rfl | rfl | rfl | rfl | rfl
    · rw [pk_un (by decide), pk_un (by decide), pk_un (by decide), pk_un (by decide), pk_un (by decide), pk_un (by decide), pk_un (by decide), pk_us, if_neg (by decide), if_neg (by decide)]
    · rw [pk_un (by decide), pk_un (by decide), pk_un (by decide), pk_un (by decide), pk_un (by decide), pk_un (by decide), pk_us, if_neg (by decide), if_neg (by decide)]
    · rw [pk_un (by decide), pk_un (by decide), pk_un (by decide), pk_un (by decide), pk_un (by decide), pk_us, if_neg (by decide), if_neg (by decide)]
    · rw [pk_un (by decide), pk_un (by decide), pk_un (by decide), pk_un (by decide), pk_us, if_neg (by decide), if_neg (by decide)]
    · rw [pk_un (by decide), pk_un (by decide), pk_un (by decide), pk_us, if_neg (by decide), if_neg (by decide)]
    · rw [pk_un (by decide), pk_un (by decide), pk_us, if_neg (by decide), if_neg (by decide)]
    · rw [pk_un (by decide), pk_us, if_pos rfl]
    · rw [pk_us, if_neg (by decide), if_pos rfl, Nat.pow_zero, Nat.div_one, n8_mod]
theorem sum9_of {n : Nat} {m f S1 S2 S3 w1 w2 : Nat → Int32} (hm : ∀ j, j < 128 → m j = pad9 n f j) (h1 : ∀ j, j < 8 → S1 j = kSq j) (hw1 : ∀ j, j < 64 → w1 j = sc9 m 0 j) (h2 : ∀ j, j < 8 → S2 j = S1 j + rds w1 64 S1 j) (hw2 : ∀ j, j < 64 → w2 j = sc9 m 64 j) (h3 : ∀ j, j < 8 → S3 j = S2 j + rds w2 64 S2 j) : ∀ j, j < 8 → S3 j = sum9 n f j := by
  have e : ∀ j, j < 8 → S2 j = cmp9 (pad9 n f) 0 kSq j := by
    intro j hj
    rw [h2 j hj, rds_congr S1 64 hw1]
    have k1 := cmp9_congr (M := m) (N := pad9 n f) (b := 0) S1 (fun j _ hj => by rw [hm j (by omega)])
    have k2 := cmp9_st (M := pad9 n f) (b := 0) h1 j hj
    rw [← k2, ← k1]
    rfl
  intro j hj
  rw [h3 j hj, rds_congr S2 64 hw2]
  have k1 := cmp9_congr (M := m) (N := pad9 n f) (b := 64) S2 (fun j _ hj => by rw [hm j (by omega)])
  have k2 := cmp9_st (M := pad9 n f) (b := 64) e j hj
  unfold sum9
  rw [← k2, ← k1]
  rfl

set_option maxHeartbeats 4000000 in
set_option maxRecDepth 20000 in
theorem c_finish {l : Launch} {g : cx_G} {w : wd_T} {a0 am aw as9 : Nat} {n : Nat} {msg wds sta f9 : Nat → Int32} (h0 : w 110 = some (a0, ob 3 [.ref am, .ref aw, .ref as9, .int (nI n)])) (h1 : w 111 = some (am, aB g 128 msg)) (h2 : w 112 = some (aw, aI g 64 wds)) (h3 : w 113 = some (as9, aI g 8 sta)) (hn : 57 ≤ n) (hn2 : n ≤ 119) (hm : ∀ j, j < n → msg j = (f9 j).toInt8.toInt32) : Mt l g yX3_finish cX3_finish 4 none 3 0 0 w [.ref a0] (fun v w' => v = none ∧ (∃ msg' wds' sta' : Nat → Int32, w' 110 = some (a0, ob 3 [.ref am, .ref aw, .ref as9, .int (nI 128)]) ∧ w' 111 = some (am, aB g 128 msg') ∧ w' 112 = some (aw, aI g 64 wds') ∧ w' 113 = some (as9, aI g 8 sta') ∧ ∀ j, j < 8 → sta' j = sum9 n f9 j) ∧ Fr w w' 110 114) := by
  refine mt_of RX3 "finish" rfl rfl (by decide) (Nat.le_of_ble_eq_true rfl) [(0, .ref a0)] rfl ?_
  intro k hkl C hin
  subst hkl
  refine r_ldc2 (v := lN 8) C dX3_finish_0 q368 rfl ?_
  refine r_aload_n C 0 dX3_finish_3 rfl rfl ?_
  refine r_get (t := 110) C koX3 h0 3 (by decide) q90 rfl rfl dX3_finish_4 rfl ?_
  refine r_i2l C dX3_finish_7 rfl ?_
  refine r_tl (show ((nI n).toInt64 : Int64) = lN n from nI_l (by omega)) ?_
  refine r_lmul C dX3_finish_8 rfl ?_
  refine r_tl (show ((lN 8) * (lN n) : Int64) = lN (8 * n) from lN_mul 8 n) ?_
  refine r_lstore_n (lv' := [(1, .long (lN (8 * n))), (0, .ref a0)]) C dX3_finish_9 (by decide) rfl rfl ?_
  refine r_aload_n C 1 dX3_finish_10 rfl rfl ?_
  refine r_sipush C (nI 128) dX3_finish_11 (by decide) rfl ?_
  refine r_callV (t := 110) (As := [.int (nI 128)]) (st := []) C koX3 h0 (c_addByte h0 h1 (by omega)) q359 q356 q358 qp6 q7 rfl ⟨by decide, by decide⟩ (show (parseMethodDescriptor yX3_addByte.desc).map (fun d => d.parameters.length) = some 1 by decide +kernel) (by decide) (by decide) (by decide) (by decide) (Nat.le_of_ble_eq_true rfl) rfl dX3_finish_14 rfl ?_
  rintro v9 w2 ⟨rfl, e0, e1, ef1⟩
  show V g k 4 w2 0 0 (kQ g k (fun v w' => v = none ∧ (∃ msg' wds' sta' : Nat → Int32, w' 110 = some (a0, ob 3 [.ref am, .ref aw, .ref as9, .int (nI 128)]) ∧ w' 111 = some (am, aB g 128 msg') ∧ w' 112 = some (aw, aI g 64 wds') ∧ w' 113 = some (as9, aI g 8 sta') ∧ ∀ j, j < 8 → sta' j = sum9 n f9 j) ∧ Fr w w' 110 114) 0 0) 17 [(1, .long (lN (8 * n))), (0, .ref a0)] []
  refine r_iconst C (nI 0) dX3_finish_17 (by decide) rfl ?_
  refine r_istore_n (lv' := [(3, .int (nI 0)), (1, .long (lN (8 * n))), (0, .ref a0)]) C dX3_finish_18 (by decide) rfl rfl ?_
  have loop : ∀ (r i : Nat) (m1 : Nat → Int32) (w1 : wd_T), i + r = 119 - n → (w1 110 = some (a0, ob 3 [.ref am, .ref aw, .ref as9, .int (nI (n + 1 + i))])) → (w1 111 = some (am, aB g 128 m1)) → (∀ j, j < n → m1 j = (f9 j).toInt8.toInt32) → (m1 n = (nI 128).toInt8.toInt32) → (∀ j, n < j → j < n + 1 + i → m1 j = (nI 0).toInt8.toInt32) → (Fr w w1 110 112) → V g k 4 w1 0 0 (kQ g k (fun v w' => v = none ∧ (∃ msg' wds' sta' : Nat → Int32, w' 110 = some (a0, ob 3 [.ref am, .ref aw, .ref as9, .int (nI 128)]) ∧ w' 111 = some (am, aB g 128 msg') ∧ w' 112 = some (aw, aI g 64 wds') ∧ w' 113 = some (as9, aI g 8 sta') ∧ ∀ j, j < 8 → sta' j = sum9 n f9 j) ∧ Fr w w' 110 114) 0 0) 19 [(3, .int (nI i)), (1, .long (lN (8 * n))), (0, .ref a0)] [] := by
    intro r
    induction r with
    | zero =>
      intro i m1 w1 hi g0 g1 q1 q2 q3 gf
      have g2 : w1 112 = _ := (gf 112 (by decide)).trans h2
      have g3 : w1 113 = _ := (gf 113 (by decide)).trans h3
      have hi9 : i = 119 - n := by omega
      refine r_iload_n C 0 dX3_finish_19 rfl rfl ?_
      refine r_bipush C (nI 64) dX3_finish_20 (by decide) rfl ?_
      refine r_icmp_ge_f (tgt := 48) C dX3_finish_22 (by decide) rfl (fun z => absurd ((nI_leI (a := 64) (b := i) (by omega) (by omega)).mp z) (by omega)) ?_
      refine r_aload_n C 2 dX3_finish_25 rfl rfl ?_
      refine r_get (t := 110) C koX3 g0 3 (by decide) q90 rfl rfl dX3_finish_26 rfl ?_
      refine r_bipush C (nI 64) dX3_finish_29 (by decide) rfl ?_
      refine r_irem C dX3_finish_31 (by decide) rfl ?_
      refine r_ti (show ((nI (n + 1 + i)) - (nI (n + 1 + i)) / (nI 64) * (nI 64) : Int32) = nI ((n + 1 + i) % 64) from pk_rem (by omega) (by omega) (by omega)) ?_
      refine r_bipush C (nI 56) dX3_finish_32 (by decide) rfl ?_
      refine r_icmp_eq_t (tgt := 48) C dX3_finish_34 (by decide) ((nI_eq (a := ((n + 1 + i) % 64)) (b := 56) (by omega) (by omega)).mpr (by omega)) ?_
      have g0 : w1 110 = some (a0, ob 3 [.ref am, .ref aw, .ref as9, .int (nI 120)]) := by rw [g0, show n + 1 + i = 120 by omega]
      refine r_bipush C (nI 7) dX3_finish_48 (by decide) rfl ?_
      refine r_istore_n (lv' := [(3, .int (nI 7)), (1, .long (lN (8 * n))), (0, .ref a0)]) C dX3_finish_50 (by decide) rfl rfl ?_
      refine r_iload_n C 0 dX3_finish_51 rfl rfl ?_
      refine r_if_lt_f (tgt := 72) C dX3_finish_52 (by decide) rfl (by decide) ?_
      refine r_aload_n C 2 dX3_finish_55 rfl rfl ?_
      refine r_lload_n C 1 dX3_finish_56 rfl rfl ?_
      refine r_bipush C (nI 8) dX3_finish_57 (by decide) rfl ?_
      refine r_iload_n C 0 dX3_finish_59 rfl rfl ?_
      refine r_imul C dX3_finish_60 rfl ?_
      refine r_ti (show ((nI 8) * (nI 7) : Int32) = nI (8 * 7) from pk_mul 8 7) ?_
      refine r_lushr C dX3_finish_61 rfl ?_
      refine r_l2i C dX3_finish_62 rfl ?_
      refine r_ti (show ((((lN (8 * n)).toUInt64 >>> ((nI (8 * 7)).toInt64.toUInt64 &&& Int64.toUInt64 63)).toInt64).toInt32 : Int32) = nI (8 * n / 2 ^ 56) from lsh9 (k := 56) (by omega) (by decide)) ?_
      refine r_callV (t := 110) (As := [.int (nI (8 * n / 2 ^ 56))]) (st := []) C koX3 g0 (c_addByte g0 g1 (by omega)) q359 q356 q358 qp6 q7 rfl ⟨by decide, by decide⟩ (show (parseMethodDescriptor yX3_addByte.desc).map (fun d => d.parameters.length) = some 1 by decide +kernel) (by decide) (by decide) (by decide) (by decide) (Nat.le_of_ble_eq_true rfl) rfl dX3_finish_63 rfl ?_
      rintro v9 w5 ⟨rfl, e0, e1, ef4⟩
      show V g k 4 w5 0 0 (kQ g k (fun v w' => v = none ∧ (∃ msg' wds' sta' : Nat → Int32, w' 110 = some (a0, ob 3 [.ref am, .ref aw, .ref as9, .int (nI 128)]) ∧ w' 111 = some (am, aB g 128 msg') ∧ w' 112 = some (aw, aI g 64 wds') ∧ w' 113 = some (as9, aI g 8 sta') ∧ ∀ j, j < 8 → sta' j = sum9 n f9 j) ∧ Fr w w' 110 114) 0 0) 66 [(3, .int (nI 7)), (1, .long (lN (8 * n))), (0, .ref a0)] []
      refine r_iinc (v := nI 6) (lv' := [(3, .int (nI 6)), (1, .long (lN (8 * n))), (0, .ref a0)]) C 0 dX3_finish_66 rfl (by decide) (by decide) rfl rfl ?_
      refine r_goto (tgt := 51) C dX3_finish_69 (by decide) ?_
      refine r_iload_n C 0 dX3_finish_51 rfl rfl ?_
      refine r_if_lt_f (tgt := 72) C dX3_finish_52 (by decide) rfl (by decide) ?_
      refine r_aload_n C 2 dX3_finish_55 rfl rfl ?_
      refine r_lload_n C 1 dX3_finish_56 rfl rfl ?_
      refine r_bipush C (nI 8) dX3_finish_57 (by decide) rfl ?_
      refine r_iload_n C 0 dX3_finish_59 rfl rfl ?_
      refine r_imul C dX3_finish_60 rfl ?_
      refine r_ti (show ((nI 8) * (nI 6) : Int32) = nI (8 * 6) from pk_mul 8 6) ?_
      refine r_lushr C dX3_finish_61 rfl ?_
      refine r_l2i C dX3_finish_62 rfl ?_
      refine r_ti (show ((((lN (8 * n)).toUInt64 >>> ((nI (8 * 6)).toInt64.toUInt64 &&& Int64.toUInt64 63)).toInt64).toInt32 : Int32) = nI (8 * n / 2 ^ 48) from lsh9 (k := 48) (by omega) (by decide)) ?_
      refine r_callV (t := 110) (As := [.int (nI (8 * n / 2 ^ 48))]) (st := []) C koX3 e0 (c_addByte e0 e1 (by omega)) q359 q356 q358 qp6 q7 rfl ⟨by decide, by decide⟩ (show (parseMethodDescriptor yX3_addByte.desc).map (fun d => d.parameters.length) = some 1 by decide +kernel) (by decide) (by decide) (by decide) (by decide) (Nat.le_of_ble_eq_true rfl) rfl dX3_finish_63 rfl ?_
      rintro v9 w8 ⟨rfl, e0, e1, ef7⟩
      show V g k 4 w8 0 0 (kQ g k (fun v w' => v = none ∧ (∃ msg' wds' sta' : Nat → Int32, w' 110 = some (a0, ob 3 [.ref am, .ref aw, .ref as9, .int (nI 128)]) ∧ w' 111 = some (am, aB g 128 msg') ∧ w' 112 = some (aw, aI g 64 wds') ∧ w' 113 = some (as9, aI g 8 sta') ∧ ∀ j, j < 8 → sta' j = sum9 n f9 j) ∧ Fr w w' 110 114) 0 0) 66 [(3, .int (nI 6)), (1, .long (lN (8 * n))), (0, .ref a0)] []
      refine r_iinc (v := nI 5) (lv' := [(3, .int (nI 5)), (1, .long (lN (8 * n))), (0, .ref a0)]) C 0 dX3_finish_66 rfl (by decide) (by decide) rfl rfl ?_
      refine r_goto (tgt := 51) C dX3_finish_69 (by decide) ?_
      refine r_iload_n C 0 dX3_finish_51 rfl rfl ?_
      refine r_if_lt_f (tgt := 72) C dX3_finish_52 (by decide) rfl (by decide) ?_
      refine r_aload_n C 2 dX3_finish_55 rfl rfl ?_
      refine r_lload_n C 1 dX3_finish_56 rfl rfl ?_
      refine r_bipush C (nI 8) dX3_finish_57 (by decide) rfl ?_
      refine r_iload_n C 0 dX3_finish_59 rfl rfl ?_
      refine r_imul C dX3_finish_60 rfl ?_
      refine r_ti (show ((nI 8) * (nI 5) : Int32) = nI (8 * 5) from pk_mul 8 5) ?_
      refine r_lushr C dX3_finish_61 rfl ?_
      refine r_l2i C dX3_finish_62 rfl ?_
      refine r_ti (show ((((lN (8 * n)).toUInt64 >>> ((nI (8 * 5)).toInt64.toUInt64 &&& Int64.toUInt64 63)).toInt64).toInt32 : Int32) = nI (8 * n / 2 ^ 40) from lsh9 (k := 40) (by omega) (by decide)) ?_
      refine r_callV (t := 110) (As := [.int (nI (8 * n / 2 ^ 40))]) (st := []) C koX3 e0 (c_addByte e0 e1 (by omega)) q359 q356 q358 qp6 q7 rfl ⟨by decide, by decide⟩ (show (parseMethodDescriptor yX3_addByte.desc).map (fun d => d.parameters.length) = some 1 by decide +kernel) (by decide) (by decide) (by decide) (by decide) (Nat.le_of_ble_eq_true rfl) rfl dX3_finish_63 rfl ?_
      rintro v9 w11 ⟨rfl, e0, e1, ef10⟩
      show V g k 4 w11 0 0 (kQ g k (fun v w' => v = none ∧ (∃ msg' wds' sta' : Nat → Int32, w' 110 = some (a0, ob 3 [.ref am, .ref aw, .ref as9, .int (nI 128)]) ∧ w' 111 = some (am, aB g 128 msg') ∧ w' 112 = some (aw, aI g 64 wds') ∧ w' 113 = some (as9, aI g 8 sta') ∧ ∀ j, j < 8 → sta' j = sum9 n f9 j) ∧ Fr w w' 110 114) 0 0) 66 [(3, .int (nI 5)), (1, .long (lN (8 * n))), (0, .ref a0)] []
      refine r_iinc (v := nI 4) (lv' := [(3, .int (nI 4)), (1, .long (lN (8 * n))), (0, .ref a0)]) C 0 dX3_finish_66 rfl (by decide) (by decide) rfl rfl ?_
      refine r_goto (tgt := 51) C dX3_finish_69 (by decide) ?_
      refine r_iload_n C 0 dX3_finish_51 rfl rfl ?_
      refine r_if_lt_f (tgt := 72) C dX3_finish_52 (by decide) rfl (by decide) ?_
      refine r_aload_n C 2 dX3_finish_55 rfl rfl ?_
      refine r_lload_n C 1 dX3_finish_56 rfl rfl ?_
      refine r_bipush C (nI 8) dX3_finish_57 (by decide) rfl ?_
      refine r_iload_n C 0 dX3_finish_59 rfl rfl ?_
      refine r_imul C dX3_finish_60 rfl ?_
      refine r_ti (show ((nI 8) * (nI 4) : Int32) = nI (8 * 4) from pk_mul 8 4) ?_
      refine r_lushr C dX3_finish_61 rfl ?_
      refine r_l2i C dX3_finish_62 rfl ?_
      refine r_ti (show ((((lN (8 * n)).toUInt64 >>> ((nI (8 * 4)).toInt64.toUInt64 &&& Int64.toUInt64 63)).toInt64).toInt32 : Int32) = nI (8 * n / 2 ^ 32) from lsh9 (k := 32) (by omega) (by decide)) ?_
      refine r_callV (t := 110) (As := [.int (nI (8 * n / 2 ^ 32))]) (st := []) C koX3 e0 (c_addByte e0 e1 (by omega)) q359 q356 q358 qp6 q7 rfl ⟨by decide, by decide⟩ (show (parseMethodDescriptor yX3_addByte.desc).map (fun d => d.parameters.length) = some 1 by decide +kernel) (by decide) (by decide) (by decide) (by decide) (Nat.le_of_ble_eq_true rfl) rfl dX3_finish_63 rfl ?_
      rintro v9 w14 ⟨rfl, e0, e1, ef13⟩
      show V g k 4 w14 0 0 (kQ g k (fun v w' => v = none ∧ (∃ msg' wds' sta' : Nat → Int32, w' 110 = some (a0, ob 3 [.ref am, .ref aw, .ref as9, .int (nI 128)]) ∧ w' 111 = some (am, aB g 128 msg') ∧ w' 112 = some (aw, aI g 64 wds') ∧ w' 113 = some (as9, aI g 8 sta') ∧ ∀ j, j < 8 → sta' j = sum9 n f9 j) ∧ Fr w w' 110 114) 0 0) 66 [(3, .int (nI 4)), (1, .long (lN (8 * n))), (0, .ref a0)] []
      refine r_iinc (v := nI 3) (lv' := [(3, .int (nI 3)), (1, .long (lN (8 * n))), (0, .ref a0)]) C 0 dX3_finish_66 rfl (by decide) (by decide) rfl rfl ?_
      refine r_goto (tgt := 51) C dX3_finish_69 (by decide) ?_
      refine r_iload_n C 0 dX3_finish_51 rfl rfl ?_
      refine r_if_lt_f (tgt := 72) C dX3_finish_52 (by decide) rfl (by decide) ?_
      refine r_aload_n C 2 dX3_finish_55 rfl rfl ?_
      refine r_lload_n C 1 dX3_finish_56 rfl rfl ?_
      refine r_bipush C (nI 8) dX3_finish_57 (by decide) rfl ?_
      refine r_iload_n C 0 dX3_finish_59 rfl rfl ?_
      refine r_imul C dX3_finish_60 rfl ?_
      refine r_ti (show ((nI 8) * (nI 3) : Int32) = nI (8 * 3) from pk_mul 8 3) ?_
      refine r_lushr C dX3_finish_61 rfl ?_
      refine r_l2i C dX3_finish_62 rfl ?_
      refine r_ti (show ((((lN (8 * n)).toUInt64 >>> ((nI (8 * 3)).toInt64.toUInt64 &&& Int64.toUInt64 63)).toInt64).toInt32 : Int32) = nI (8 * n / 2 ^ 24) from lsh9 (k := 24) (by omega) (by decide)) ?_
      refine r_callV (t := 110) (As := [.int (nI (8 * n / 2 ^ 24))]) (st := []) C koX3 e0 (c_addByte e0 e1 (by omega)) q359 q356 q358 qp6 q7 rfl ⟨by decide, by decide⟩ (show (parseMethodDescriptor yX3_addByte.desc).map (fun d => d.parameters.length) = some 1 by decide +kernel) (by decide) (by decide) (by decide) (by decide) (Nat.le_of_ble_eq_true rfl) rfl dX3_finish_63 rfl ?_
      rintro v9 w17 ⟨rfl, e0, e1, ef16⟩
      show V g k 4 w17 0 0 (kQ g k (fun v w' => v = none ∧ (∃ msg' wds' sta' : Nat → Int32, w' 110 = some (a0, ob 3 [.ref am, .ref aw, .ref as9, .int (nI 128)]) ∧ w' 111 = some (am, aB g 128 msg') ∧ w' 112 = some (aw, aI g 64 wds') ∧ w' 113 = some (as9, aI g 8 sta') ∧ ∀ j, j < 8 → sta' j = sum9 n f9 j) ∧ Fr w w' 110 114) 0 0) 66 [(3, .int (nI 3)), (1, .long (lN (8 * n))), (0, .ref a0)] []
      refine r_iinc (v := nI 2) (lv' := [(3, .int (nI 2)), (1, .long (lN (8 * n))), (0, .ref a0)]) C 0 dX3_finish_66 rfl (by decide) (by decide) rfl rfl ?_
      refine r_goto (tgt := 51) C dX3_finish_69 (by decide) ?_
      refine r_iload_n C 0 dX3_finish_51 rfl rfl ?_
      refine r_if_lt_f (tgt := 72) C dX3_finish_52 (by decide) rfl (by decide) ?_
      refine r_aload_n C 2 dX3_finish_55 rfl rfl ?_
      refine r_lload_n C 1 dX3_finish_56 rfl rfl ?_
      refine r_bipush C (nI 8) dX3_finish_57 (by decide) rfl ?_
      refine r_iload_n C 0 dX3_finish_59 rfl rfl ?_
      refine r_imul C dX3_finish_60 rfl ?_
      refine r_ti (show ((nI 8) * (nI 2) : Int32) = nI (8 * 2) from pk_mul 8 2) ?_
      refine r_lushr C dX3_finish_61 rfl ?_
      refine r_l2i C dX3_finish_62 rfl ?_
      refine r_ti (show ((((lN (8 * n)).toUInt64 >>> ((nI (8 * 2)).toInt64.toUInt64 &&& Int64.toUInt64 63)).toInt64).toInt32 : Int32) = nI (8 * n / 2 ^ 16) from lsh9 (k := 16) (by omega) (by decide)) ?_
      refine r_callV (t := 110) (As := [.int (nI (8 * n / 2 ^ 16))]) (st := []) C koX3 e0 (c_addByte e0 e1 (by omega)) q359 q356 q358 qp6 q7 rfl ⟨by decide, by decide⟩ (show (parseMethodDescriptor yX3_addByte.desc).map (fun d => d.parameters.length) = some 1 by decide +kernel) (by decide) (by decide) (by decide) (by decide) (Nat.le_of_ble_eq_true rfl) rfl dX3_finish_63 rfl ?_
      rintro v9 w20 ⟨rfl, e0, e1, ef19⟩
      show V g k 4 w20 0 0 (kQ g k (fun v w' => v = none ∧ (∃ msg' wds' sta' : Nat → Int32, w' 110 = some (a0, ob 3 [.ref am, .ref aw, .ref as9, .int (nI 128)]) ∧ w' 111 = some (am, aB g 128 msg') ∧ w' 112 = some (aw, aI g 64 wds') ∧ w' 113 = some (as9, aI g 8 sta') ∧ ∀ j, j < 8 → sta' j = sum9 n f9 j) ∧ Fr w w' 110 114) 0 0) 66 [(3, .int (nI 2)), (1, .long (lN (8 * n))), (0, .ref a0)] []
      refine r_iinc (v := nI 1) (lv' := [(3, .int (nI 1)), (1, .long (lN (8 * n))), (0, .ref a0)]) C 0 dX3_finish_66 rfl (by decide) (by decide) rfl rfl ?_
      refine r_goto (tgt := 51) C dX3_finish_69 (by decide) ?_
      refine r_iload_n C 0 dX3_finish_51 rfl rfl ?_
      refine r_if_lt_f (tgt := 72) C dX3_finish_52 (by decide) rfl (by decide) ?_
      refine r_aload_n C 2 dX3_finish_55 rfl rfl ?_
      refine r_lload_n C 1 dX3_finish_56 rfl rfl ?_
      refine r_bipush C (nI 8) dX3_finish_57 (by decide) rfl ?_
      refine r_iload_n C 0 dX3_finish_59 rfl rfl ?_
      refine r_imul C dX3_finish_60 rfl ?_
      refine r_ti (show ((nI 8) * (nI 1) : Int32) = nI (8 * 1) from pk_mul 8 1) ?_
      refine r_lushr C dX3_finish_61 rfl ?_
      refine r_l2i C dX3_finish_62 rfl ?_
      refine r_ti (show ((((lN (8 * n)).toUInt64 >>> ((nI (8 * 1)).toInt64.toUInt64 &&& Int64.toUInt64 63)).toInt64).toInt32 : Int32) = nI (8 * n / 2 ^ 8) from lsh9 (k := 8) (by omega) (by decide)) ?_
      refine r_callV (t := 110) (As := [.int (nI (8 * n / 2 ^ 8))]) (st := []) C koX3 e0 (c_addByte e0 e1 (by omega)) q359 q356 q358 qp6 q7 rfl ⟨by decide, by decide⟩ (show (parseMethodDescriptor yX3_addByte.desc).map (fun d => d.parameters.length) = some 1 by decide +kernel) (by decide) (by decide) (by decide) (by decide) (Nat.le_of_ble_eq_true rfl) rfl dX3_finish_63 rfl ?_
      rintro v9 w23 ⟨rfl, e0, e1, ef22⟩
      show V g k 4 w23 0 0 (kQ g k (fun v w' => v = none ∧ (∃ msg' wds' sta' : Nat → Int32, w' 110 = some (a0, ob 3 [.ref am, .ref aw, .ref as9, .int (nI 128)]) ∧ w' 111 = some (am, aB g 128 msg') ∧ w' 112 = some (aw, aI g 64 wds') ∧ w' 113 = some (as9, aI g 8 sta') ∧ ∀ j, j < 8 → sta' j = sum9 n f9 j) ∧ Fr w w' 110 114) 0 0) 66 [(3, .int (nI 1)), (1, .long (lN (8 * n))), (0, .ref a0)] []
      refine r_iinc (v := nI 0) (lv' := [(3, .int (nI 0)), (1, .long (lN (8 * n))), (0, .ref a0)]) C 0 dX3_finish_66 rfl (by decide) (by decide) rfl rfl ?_
      refine r_goto (tgt := 51) C dX3_finish_69 (by decide) ?_
      refine r_iload_n C 0 dX3_finish_51 rfl rfl ?_
      refine r_if_lt_f (tgt := 72) C dX3_finish_52 (by decide) rfl (by decide) ?_
      refine r_aload_n C 2 dX3_finish_55 rfl rfl ?_
      refine r_lload_n C 1 dX3_finish_56 rfl rfl ?_
      refine r_bipush C (nI 8) dX3_finish_57 (by decide) rfl ?_
      refine r_iload_n C 0 dX3_finish_59 rfl rfl ?_
      refine r_imul C dX3_finish_60 rfl ?_
      refine r_ti (show ((nI 8) * (nI 0) : Int32) = nI (8 * 0) from pk_mul 8 0) ?_
      refine r_lushr C dX3_finish_61 rfl ?_
      refine r_l2i C dX3_finish_62 rfl ?_
      refine r_ti (show ((((lN (8 * n)).toUInt64 >>> ((nI (8 * 0)).toInt64.toUInt64 &&& Int64.toUInt64 63)).toInt64).toInt32 : Int32) = nI (8 * n / 2 ^ 0) from lsh9 (k := 0) (by omega) (by decide)) ?_
      refine r_callV (t := 110) (As := [.int (nI (8 * n / 2 ^ 0))]) (st := []) C koX3 e0 (c_addByte e0 e1 (by omega)) q359 q356 q358 qp6 q7 rfl ⟨by decide, by decide⟩ (show (parseMethodDescriptor yX3_addByte.desc).map (fun d => d.parameters.length) = some 1 by decide +kernel) (by decide) (by decide) (by decide) (by decide) (Nat.le_of_ble_eq_true rfl) rfl dX3_finish_63 rfl ?_
      rintro v9 w26 ⟨rfl, e0, e1, ef25⟩
      show V g k 4 w26 0 0 (kQ g k (fun v w' => v = none ∧ (∃ msg' wds' sta' : Nat → Int32, w' 110 = some (a0, ob 3 [.ref am, .ref aw, .ref as9, .int (nI 128)]) ∧ w' 111 = some (am, aB g 128 msg') ∧ w' 112 = some (aw, aI g 64 wds') ∧ w' 113 = some (as9, aI g 8 sta') ∧ ∀ j, j < 8 → sta' j = sum9 n f9 j) ∧ Fr w w' 110 114) 0 0) 66 [(3, .int (nI 0)), (1, .long (lN (8 * n))), (0, .ref a0)] []
      refine r_iinc (v := (-1)) (lv' := [(3, .int (-1)), (1, .long (lN (8 * n))), (0, .ref a0)]) C 0 dX3_finish_66 rfl (by decide) (by decide) rfl rfl ?_
      refine r_goto (tgt := 51) C dX3_finish_69 (by decide) ?_
      refine r_iload_n C 0 dX3_finish_51 rfl rfl ?_
      refine r_if_lt_t (tgt := 72) C dX3_finish_52 (by decide) (by decide) ?_
      refine r_getsN C (ks_S C) q369 rfl dX3_finish_72 rfl ?_
      refine r_iconst C (nI 0) dX3_finish_75 (by decide) rfl ?_
      refine r_aload_n C 2 dX3_finish_76 rfl rfl ?_
      refine r_get (t := 110) C koX3 e0 2 (by decide) q89 rfl rfl dX3_finish_77 rfl ?_
      refine r_iconst C (nI 0) dX3_finish_80 (by decide) rfl ?_
      refine r_bipush C (nI 8) dX3_finish_81 (by decide) rfl ?_
      refine r_copySI (t1 := 113) (w' := wd_set w26 113 as9 (aI g 8 (va_cpy kSq sta 0 0 8))) C (ks_St C) ((ef25 113 (by omega)).trans ((ef22 113 (by omega)).trans ((ef19 113 (by omega)).trans ((ef16 113 (by omega)).trans ((ef13 113 (by omega)).trans ((ef10 113 (by omega)).trans ((ef7 113 (by omega)).trans ((ef4 113 (by omega)).trans g3)))))))) q371 q264 q263 q16 0 0 8 rfl rfl rfl (by decide) (by decide) (by decide) (by decide) (by decide) (Nat.le_of_ble_eq_true rfl) dX3_finish_83 rfl rfl ?_
      refine r_iconst C (nI 0) dX3_finish_86 (by decide) rfl ?_
      refine r_istore_n (lv' := [(3, .int (nI 0)), (1, .long (lN (8 * n))), (0, .ref a0)]) C dX3_finish_87 (by decide) rfl rfl ?_
      refine r_iload_n C 0 dX3_finish_88 rfl rfl ?_
      refine r_bipush C (nI 64) dX3_finish_89 (by decide) rfl ?_
      refine r_iadd C dX3_finish_91 rfl ?_
      refine r_ti (show ((nI 0) + (nI 64) : Int32) = nI (0 + 64) from nI_add 0 64) ?_
      refine r_aload_n C 2 dX3_finish_92 rfl rfl ?_
      refine r_get (t := 110) C koX3 ((wd_ne (by decide)).trans e0) 3 (by decide) q90 rfl rfl dX3_finish_93 rfl ?_
      refine r_icmp_gt_f (tgt := 114) C dX3_finish_96 (by decide) rfl (fun z => absurd ((nI_ltI (a := 128) (b := (0 + 64)) (by omega) (by omega)).mp z) (by omega)) ?_
      refine r_aload_n C 2 dX3_finish_99 rfl rfl ?_
      refine r_iload_n C 0 dX3_finish_100 rfl rfl ?_
      refine r_callV (t := 110) (As := [.int (nI 0)]) (st := []) C koX3 ((wd_ne (by decide)).trans e0) (c_readWords ((wd_ne (by decide)).trans e0) ((wd_ne (by decide)).trans e1) ((wd_ne (by decide)).trans ((ef25 112 (by omega)).trans ((ef22 112 (by omega)).trans ((ef19 112 (by omega)).trans ((ef16 112 (by omega)).trans ((ef13 112 (by omega)).trans ((ef10 112 (by omega)).trans ((ef7 112 (by omega)).trans ((ef4 112 (by omega)).trans g2))))))))) (by decide)) q375 q372 q374 qp7 q7 rfl ⟨by decide, by decide⟩ (show (parseMethodDescriptor yX3_readWords.desc).map (fun d => d.parameters.length) = some 1 by decide +kernel) (by decide) (by decide) (by decide) (by decide) (Nat.le_of_ble_eq_true rfl) rfl dX3_finish_101 rfl ?_
      rintro v9 w29 ⟨rfl, ⟨wd0, r2, s0⟩, rf28⟩
      show V g k 4 w29 0 0 (kQ g k (fun v w' => v = none ∧ (∃ msg' wds' sta' : Nat → Int32, w' 110 = some (a0, ob 3 [.ref am, .ref aw, .ref as9, .int (nI 128)]) ∧ w' 111 = some (am, aB g 128 msg') ∧ w' 112 = some (aw, aI g 64 wds') ∧ w' 113 = some (as9, aI g 8 sta') ∧ ∀ j, j < 8 → sta' j = sum9 n f9 j) ∧ Fr w w' 110 114) 0 0) 104 [(3, .int (nI 0)), (1, .long (lN (8 * n))), (0, .ref a0)] []
      refine r_aload_n C 2 dX3_finish_104 rfl rfl ?_
      refine r_callV (t := 110) (As := []) (st := []) C koX3 ((rf28 110 (by omega)).trans ((wd_ne (by decide)).trans e0)) (c_mixWords ((rf28 110 (by omega)).trans ((wd_ne (by decide)).trans e0)) r2 ((rf28 113 (by omega)).trans wd_eq)) q388 q385 q387 qp8 q7 rfl ⟨by decide, by decide⟩ (show (parseMethodDescriptor yX3_mixWords.desc).map (fun d => d.parameters.length) = some 0 by decide +kernel) (by decide) (by decide) (by decide) (by decide) (Nat.le_of_ble_eq_true rfl) rfl dX3_finish_105 rfl ?_
      rintro v9 w32 ⟨rfl, ⟨st0, r3, u0⟩, rf31⟩
      show V g k 4 w32 0 0 (kQ g k (fun v w' => v = none ∧ (∃ msg' wds' sta' : Nat → Int32, w' 110 = some (a0, ob 3 [.ref am, .ref aw, .ref as9, .int (nI 128)]) ∧ w' 111 = some (am, aB g 128 msg') ∧ w' 112 = some (aw, aI g 64 wds') ∧ w' 113 = some (as9, aI g 8 sta') ∧ ∀ j, j < 8 → sta' j = sum9 n f9 j) ∧ Fr w w' 110 114) 0 0) 108 [(3, .int (nI 0)), (1, .long (lN (8 * n))), (0, .ref a0)] []
      refine r_iinc (v := nI 64) (lv' := [(3, .int (nI 64)), (1, .long (lN (8 * n))), (0, .ref a0)]) C 0 dX3_finish_108 rfl (nI_add 0 64) (by decide) rfl rfl ?_
      refine r_goto (tgt := 88) C dX3_finish_111 (by decide) ?_
      refine r_iload_n C 0 dX3_finish_88 rfl rfl ?_
      refine r_bipush C (nI 64) dX3_finish_89 (by decide) rfl ?_
      refine r_iadd C dX3_finish_91 rfl ?_
      refine r_ti (show ((nI 64) + (nI 64) : Int32) = nI (64 + 64) from nI_add 64 64) ?_
      refine r_aload_n C 2 dX3_finish_92 rfl rfl ?_
      refine r_get (t := 110) C koX3 ((rf31 110 (by omega)).trans ((rf28 110 (by omega)).trans ((wd_ne (by decide)).trans e0))) 3 (by decide) q90 rfl rfl dX3_finish_93 rfl ?_
      refine r_icmp_gt_f (tgt := 114) C dX3_finish_96 (by decide) rfl (fun z => absurd ((nI_ltI (a := 128) (b := (64 + 64)) (by omega) (by omega)).mp z) (by omega)) ?_
      refine r_aload_n C 2 dX3_finish_99 rfl rfl ?_
      refine r_iload_n C 0 dX3_finish_100 rfl rfl ?_
      refine r_callV (t := 110) (As := [.int (nI 64)]) (st := []) C koX3 ((rf31 110 (by omega)).trans ((rf28 110 (by omega)).trans ((wd_ne (by decide)).trans e0))) (c_readWords ((rf31 110 (by omega)).trans ((rf28 110 (by omega)).trans ((wd_ne (by decide)).trans e0))) ((rf31 111 (by omega)).trans ((rf28 111 (by omega)).trans ((wd_ne (by decide)).trans e1))) ((rf31 112 (by omega)).trans r2) (by decide)) q375 q372 q374 qp7 q7 rfl ⟨by decide, by decide⟩ (show (parseMethodDescriptor yX3_readWords.desc).map (fun d => d.parameters.length) = some 1 by decide +kernel) (by decide) (by decide) (by decide) (by decide) (Nat.le_of_ble_eq_true rfl) rfl dX3_finish_101 rfl ?_
      rintro v9 w35 ⟨rfl, ⟨wd1, r2, s1⟩, rf34⟩
      show V g k 4 w35 0 0 (kQ g k (fun v w' => v = none ∧ (∃ msg' wds' sta' : Nat → Int32, w' 110 = some (a0, ob 3 [.ref am, .ref aw, .ref as9, .int (nI 128)]) ∧ w' 111 = some (am, aB g 128 msg') ∧ w' 112 = some (aw, aI g 64 wds') ∧ w' 113 = some (as9, aI g 8 sta') ∧ ∀ j, j < 8 → sta' j = sum9 n f9 j) ∧ Fr w w' 110 114) 0 0) 104 [(3, .int (nI 64)), (1, .long (lN (8 * n))), (0, .ref a0)] []
      refine r_aload_n C 2 dX3_finish_104 rfl rfl ?_
      refine r_callV (t := 110) (As := []) (st := []) C koX3 ((rf34 110 (by omega)).trans ((rf31 110 (by omega)).trans ((rf28 110 (by omega)).trans ((wd_ne (by decide)).trans e0)))) (c_mixWords ((rf34 110 (by omega)).trans ((rf31 110 (by omega)).trans ((rf28 110 (by omega)).trans ((wd_ne (by decide)).trans e0)))) r2 ((rf34 113 (by omega)).trans r3)) q388 q385 q387 qp8 q7 rfl ⟨by decide, by decide⟩ (show (parseMethodDescriptor yX3_mixWords.desc).map (fun d => d.parameters.length) = some 0 by decide +kernel) (by decide) (by decide) (by decide) (by decide) (Nat.le_of_ble_eq_true rfl) rfl dX3_finish_105 rfl ?_
      rintro v9 w38 ⟨rfl, ⟨st1, r3, u1⟩, rf37⟩
      show V g k 4 w38 0 0 (kQ g k (fun v w' => v = none ∧ (∃ msg' wds' sta' : Nat → Int32, w' 110 = some (a0, ob 3 [.ref am, .ref aw, .ref as9, .int (nI 128)]) ∧ w' 111 = some (am, aB g 128 msg') ∧ w' 112 = some (aw, aI g 64 wds') ∧ w' 113 = some (as9, aI g 8 sta') ∧ ∀ j, j < 8 → sta' j = sum9 n f9 j) ∧ Fr w w' 110 114) 0 0) 108 [(3, .int (nI 64)), (1, .long (lN (8 * n))), (0, .ref a0)] []
      refine r_iinc (v := nI 128) (lv' := [(3, .int (nI 128)), (1, .long (lN (8 * n))), (0, .ref a0)]) C 0 dX3_finish_108 rfl (nI_add 64 64) (by decide) rfl rfl ?_
      refine r_goto (tgt := 88) C dX3_finish_111 (by decide) ?_
      refine r_iload_n C 0 dX3_finish_88 rfl rfl ?_
      refine r_bipush C (nI 64) dX3_finish_89 (by decide) rfl ?_
      refine r_iadd C dX3_finish_91 rfl ?_
      refine r_ti (show ((nI 128) + (nI 64) : Int32) = nI (128 + 64) from nI_add 128 64) ?_
      refine r_aload_n C 2 dX3_finish_92 rfl rfl ?_
      refine r_get (t := 110) C koX3 ((rf37 110 (by omega)).trans ((rf34 110 (by omega)).trans ((rf31 110 (by omega)).trans ((rf28 110 (by omega)).trans ((wd_ne (by decide)).trans e0))))) 3 (by decide) q90 rfl rfl dX3_finish_93 rfl ?_
      refine r_icmp_gt_t (tgt := 114) C dX3_finish_96 (by decide) ((nI_ltI (a := 128) (b := (128 + 64)) (by omega) (by omega)).mpr (by omega)) ?_
      have hmm := fin_msg hn hn2 (m := m1) (f := f9) q1 q2 (fun j a b => q3 j a (by omega)) (x7 := nI (8 * n / 2 ^ 56)) (x6 := nI (8 * n / 2 ^ 48)) (x5 := nI (8 * n / 2 ^ 40)) (x4 := nI (8 * n / 2 ^ 32)) (x3 := nI (8 * n / 2 ^ 24)) (x2 := nI (8 * n / 2 ^ 16)) (by rw [Nat.div_eq_of_lt (by omega)]) (by rw [Nat.div_eq_of_lt (by omega)]) (by rw [Nat.div_eq_of_lt (by omega)]) (by rw [Nat.div_eq_of_lt (by omega)]) (by rw [Nat.div_eq_of_lt (by omega)]) (by rw [Nat.div_eq_of_lt (by omega)])
      refine r_vret C rfl (by decide) (by decide) dX3_finish_114 ⟨rfl, ⟨_, _, _, ((rf37 110 (by omega)).trans ((rf34 110 (by omega)).trans ((rf31 110 (by omega)).trans ((rf28 110 (by omega)).trans ((wd_ne (by decide)).trans e0))))), ((rf37 111 (by omega)).trans ((rf34 111 (by omega)).trans ((rf31 111 (by omega)).trans ((rf28 111 (by omega)).trans ((wd_ne (by decide)).trans e1))))), ((rf37 112 (by omega)).trans r2), r3, sum9_of hmm (fun j hj => (pk_cpy_in (Nat.zero_le j) (by omega)).trans (by rw [Nat.zero_add, Nat.sub_zero])) s0 u0 s1 u1⟩, ?_⟩
      exact (Fr.trans (Fr.trans (Fr.trans (Fr.trans (Fr.trans (Fr.trans (Fr.trans (Fr.trans (Fr.trans (Fr.trans (Fr.trans (Fr.trans (Fr.trans (gf.mono (by decide) (by decide)) (ef4.mono (by decide) (by decide))) (ef7.mono (by decide) (by decide))) (ef10.mono (by decide) (by decide))) (ef13.mono (by decide) (by decide))) (ef16.mono (by decide) (by decide))) (ef19.mono (by decide) (by decide))) (ef22.mono (by decide) (by decide))) (ef25.mono (by decide) (by decide))) (Fr.set (t := 113) (by decide) (by decide))) (rf28.mono (by decide) (by decide))) (rf31.mono (by decide) (by decide))) (rf34.mono (by decide) (by decide))) (rf37.mono (by decide) (by decide)))
    | succ r ih =>
      intro i m1 w1 hi g0 g1 q1 q2 q3 gf
      have g2 : w1 112 = _ := (gf 112 (by decide)).trans h2
      have g3 : w1 113 = _ := (gf 113 (by decide)).trans h3
      refine r_iload_n C 0 dX3_finish_19 rfl rfl ?_
      refine r_bipush C (nI 64) dX3_finish_20 (by decide) rfl ?_
      refine r_icmp_ge_f (tgt := 48) C dX3_finish_22 (by decide) rfl (fun z => absurd ((nI_leI (a := 64) (b := i) (by omega) (by omega)).mp z) (by omega)) ?_
      refine r_aload_n C 2 dX3_finish_25 rfl rfl ?_
      refine r_get (t := 110) C koX3 g0 3 (by decide) q90 rfl rfl dX3_finish_26 rfl ?_
      refine r_bipush C (nI 64) dX3_finish_29 (by decide) rfl ?_
      refine r_irem C dX3_finish_31 (by decide) rfl ?_
      refine r_ti (show ((nI (n + 1 + i)) - (nI (n + 1 + i)) / (nI 64) * (nI 64) : Int32) = nI ((n + 1 + i) % 64) from pk_rem (by omega) (by omega) (by omega)) ?_
      refine r_bipush C (nI 56) dX3_finish_32 (by decide) rfl ?_
      refine r_icmp_eq_f (tgt := 48) C dX3_finish_34 (by decide) rfl (fun z => absurd ((nI_eq (a := ((n + 1 + i) % 64)) (b := 56) (by omega) (by omega)).mp z) (by omega)) ?_
      refine r_aload_n C 2 dX3_finish_37 rfl rfl ?_
      refine r_iconst C (nI 0) dX3_finish_38 (by decide) rfl ?_
      refine r_callV (t := 110) (As := [.int (nI 0)]) (st := []) C koX3 g0 (c_addByte g0 g1 (by omega)) q359 q356 q358 qp6 q7 rfl ⟨by decide, by decide⟩ (show (parseMethodDescriptor yX3_addByte.desc).map (fun d => d.parameters.length) = some 1 by decide +kernel) (by decide) (by decide) (by decide) (by decide) (Nat.le_of_ble_eq_true rfl) rfl dX3_finish_39 rfl ?_
      rintro v9 w42 ⟨rfl, e0, e1, ef41⟩
      show V g k 4 w42 0 0 (kQ g k (fun v w' => v = none ∧ (∃ msg' wds' sta' : Nat → Int32, w' 110 = some (a0, ob 3 [.ref am, .ref aw, .ref as9, .int (nI 128)]) ∧ w' 111 = some (am, aB g 128 msg') ∧ w' 112 = some (aw, aI g 64 wds') ∧ w' 113 = some (as9, aI g 8 sta') ∧ ∀ j, j < 8 → sta' j = sum9 n f9 j) ∧ Fr w w' 110 114) 0 0) 42 [(3, .int (nI i)), (1, .long (lN (8 * n))), (0, .ref a0)] []
      refine r_iinc (v := nI (i + 1)) (lv' := [(3, .int (nI (i + 1))), (1, .long (lN (8 * n))), (0, .ref a0)]) C 0 dX3_finish_42 rfl (nI_1 i) (by decide) rfl rfl ?_
      refine r_goto (tgt := 19) C dX3_finish_45 (by decide) ?_
      refine r_sub (lv' := [(3, .int (nI (i + 1))), (1, .long (lN (8 * n))), (0, .ref a0)]) [0, 1, 2] rfl ?_
      refine ih (i + 1) _ _ (by omega) e0 e1 ?_ ?_ ?_ (gf.trans ef41)
      · intro j hj; rw [pk_un (by omega)]; exact q1 j hj
      · rw [pk_un (by omega)]; exact q2
      · intro j hj hj2
        by_cases z : j = n + 1 + i
        · rw [z, pk_us]
        · rw [pk_un z]; exact q3 j hj (by omega)
  refine r_sub (lv' := [(3, .int (nI 0)), (1, .long (lN (8 * n))), (0, .ref a0)]) [0, 1, 2] rfl ?_
  refine loop (119 - n) 0 _ _ (by omega) e0 e1 ?_ ?_ ?_ ef1
  · intro j hj; rw [pk_un (by omega)]; exact hm j hj
  · exact pk_us
  · intro j hj hj2; exact absurd hj2 (by omega)

/-- 32 bytes of a state at a place of a row -/
def cpF (f : Nat → Int32) (fr c : Nat) (S : Nat → Int32) : Nat → Int32 := fun j => if fr ≤ j ∧ j < fr + c then dig9 S (j - fr) else f j
theorem cpF_0 {f S : Nat → Int32} {n : Nat} : cpF f n 0 S = f := by
  funext j
  exact if_neg (by omega)
theorem cpF_s {f S : Nat → Int32} {n c : Nat} : upd (cpF f n c S) (n + c) (dig9 S c).toInt8.toInt32 = cpF f n (c + 1) S := by
  funext j
  unfold upd cpF
  by_cases h : j = n + c
  · subst h
    rw [if_pos rfl, if_pos (by omega), dig9_8, Nat.add_sub_cancel_left]
  · rw [if_neg h]
    by_cases h2 : n ≤ j ∧ j < n + c
    · rw [if_pos h2, if_pos (by omega)]
    · rw [if_neg h2, if_neg (by omega)]
theorem dig9_congr {S T : Nat → Int32} (h : ∀ j, j < 8 → S j = T j) {k : Nat} (hk : k < 32) : dig9 S k = dig9 T k := by
  unfold dig9
  rw [h (k / 4) (by omega)]
set_option maxHeartbeats 4000000 in
set_option maxRecDepth 20000 in
theorem c_copyTo {l : Launch} {g : cx_G} {w : wd_T} {a0 am aw as9 : Nat} {n : Int32} {sta : Nat → Int32} {tb ab nb fr : Nat} {fb : Nat → Int32} (h0 : w 110 = some (a0, ob 3 [.ref am, .ref aw, .ref as9, .int n])) (h3 : w 113 = some (as9, aI g 8 sta)) (hb : w tb = some (ab, aB g nb fb)) (htb : tb < 110 ∨ 114 ≤ tb) (hfr : fr + 32 ≤ nb) (hnb : nb < 65536) : Mt l g yX3_copyTo cX3_copyTo 5 none 1 0 0 w [.ref a0, .ref ab, .int (nI fr)] (fun v w' => v = none ∧ w' tb = some (ab, aB g nb (cpF fb fr 32 sta)) ∧ Fr w w' tb (tb + 1)) := by
  refine mt_of RX3 "copyTo" rfl rfl (by decide) (Nat.le_of_ble_eq_true rfl) [(0, .ref a0), (1, .ref ab), (2, .int (nI fr))] rfl ?_
  intro k hkl C hin
  subst hkl
  refine r_iconst C (nI 0) dX3_copyTo_0 (by decide) rfl ?_
  refine r_istore_n (lv' := [(3, .int (nI 0)), (0, .ref a0), (1, .ref ab), (2, .int (nI fr))]) C dX3_copyTo_1 (by decide) rfl rfl ?_
  have loop : ∀ (r i : Nat)  (w1 : wd_T), i + r = 32 → (w1 tb = some (ab, aB g nb (cpF fb fr i sta))) → (Fr w w1 tb (tb + 1)) → V g k 5 w1 0 0 (kQ g k (fun v w' => v = none ∧ w' tb = some (ab, aB g nb (cpF fb fr 32 sta)) ∧ Fr w w' tb (tb + 1)) 0 0) 2 [(3, .int (nI i)), (0, .ref a0), (1, .ref ab), (2, .int (nI fr))] [] := by
    intro r
    induction r with
    | zero =>
      intro i  w1 hi gb gf
      have g0 : w1 110 = _ := (gf 110 (by omega)).trans h0
      have g3 : w1 113 = _ := (gf 113 (by omega)).trans h3
      refine r_iload_n C 0 dX3_copyTo_2 rfl rfl ?_
      refine r_bipush C (nI 32) dX3_copyTo_3 (by decide) rfl ?_
      refine r_icmp_ge_t (tgt := 40) C dX3_copyTo_5 (by decide) ((nI_leI (a := 32) (b := i) (by omega) (by omega)).mpr (by omega)) ?_
      obtain rfl : i = 32 := by omega
      exact r_vret C rfl (by decide) (by decide) dX3_copyTo_40 ⟨rfl, gb, gf⟩
    | succ r ih =>
      intro i  w1 hi gb gf
      have g0 : w1 110 = _ := (gf 110 (by omega)).trans h0
      have g3 : w1 113 = _ := (gf 113 (by omega)).trans h3
      refine r_iload_n C 0 dX3_copyTo_2 rfl rfl ?_
      refine r_bipush C (nI 32) dX3_copyTo_3 (by decide) rfl ?_
      refine r_icmp_ge_f (tgt := 40) C dX3_copyTo_5 (by decide) rfl (fun z => absurd ((nI_leI (a := 32) (b := i) (by omega) (by omega)).mp z) (by omega)) ?_
      refine r_iload_n C 3 dX3_copyTo_8 rfl rfl ?_
      refine r_iload_n C 0 dX3_copyTo_9 rfl rfl ?_
      refine r_iadd C dX3_copyTo_10 rfl ?_
      refine r_ti (show ((nI fr) + (nI i) : Int32) = nI (fr + i) from nI_add fr i) ?_
      refine r_istore (lv' := [(4, .int (nI (fr + i))), (3, .int (nI i)), (0, .ref a0), (1, .ref ab), (2, .int (nI fr))]) C dX3_copyTo_11 (by decide) rfl rfl ?_
      refine r_iload C 0 dX3_copyTo_13 rfl rfl ?_
      refine r_if_lt_f (tgt := 34) C dX3_copyTo_15 (by decide) rfl (nI_pos (by omega)) ?_
      refine r_iload C 0 dX3_copyTo_18 rfl rfl ?_
      refine r_aload_n C 3 dX3_copyTo_20 rfl rfl ?_
      refine r_blen (t := tb) C gb dX3_copyTo_21 rfl ?_
      refine r_icmp_ge_f (tgt := 34) C dX3_copyTo_22 (by decide) rfl (fun z => absurd ((nI_leI (a := nb) (b := (fr + i)) (by omega) (by omega)).mp z) (by omega)) ?_
      refine r_aload_n C 3 dX3_copyTo_25 rfl rfl ?_
      refine r_iload C 0 dX3_copyTo_26 rfl rfl ?_
      refine r_aload_n C 2 dX3_copyTo_28 rfl rfl ?_
      refine r_iload_n C 1 dX3_copyTo_29 rfl rfl ?_
      refine r_callV (t := 110) (As := [.int (nI i)]) (st := [.int (nI (fr + i)), .ref ab]) C koX3 g0 (c_sumByte g0 g3 (by omega)) q398 q395 q397 qp9 q7 rfl ⟨by decide, by decide⟩ (show (parseMethodDescriptor yX3_sumByte.desc).map (fun d => d.parameters.length) = some 1 by decide +kernel) (by decide) (by decide) (by decide) (by decide) (Nat.le_of_ble_eq_true rfl) rfl dX3_copyTo_30 rfl ?_
      rintro v9 w2 ⟨rfl, rfl⟩
      show V g k 5 w1 0 0 (kQ g k (fun v w' => v = none ∧ w' tb = some (ab, aB g nb (cpF fb fr 32 sta)) ∧ Fr w w' tb (tb + 1)) 0 0) 33 [(4, .int (nI (fr + i))), (3, .int (nI i)), (0, .ref a0), (1, .ref ab), (2, .int (nI fr))] [.int (dig9 sta i), .int (nI (fr + i)), .ref ab]
      refine r_bast (t := tb) (w' := wd_set w1 tb ab (aB g nb (upd (cpF fb fr i sta) (fr + i) (dig9 sta i).toInt8.toInt32))) C gb (fr + i) rfl (by omega) (by omega) dX3_copyTo_33 rfl rfl ?_
      refine r_iinc (v := nI (i + 1)) (lv' := [(3, .int (nI (i + 1))), (4, .int (nI (fr + i))), (0, .ref a0), (1, .ref ab), (2, .int (nI fr))]) C 1 dX3_copyTo_34 rfl (nI_1 i) (by decide) rfl rfl ?_
      refine r_goto (tgt := 2) C dX3_copyTo_37 (by decide) ?_
      refine r_sub (lv' := [(3, .int (nI (i + 1))), (0, .ref a0), (1, .ref ab), (2, .int (nI fr))]) [0, 2, 3, 4] rfl ?_
      exact ih (i + 1) _ (by omega) (by rw [← cpF_s]; exact wd_eq) (gf.trans (Fr.set (by omega) (by omega)))
  exact loop 32 0 w (by omega) (by rw [cpF_0]; exact hb) Fr.rfl'

set_option maxHeartbeats 4000000 in
set_option maxRecDepth 20000 in
theorem c_isAt {l : Launch} {g : cx_G} {w : wd_T} {a0 am aw as9 : Nat} {n : Int32} {sta : Nat → Int32} {tb ab nb fr : Nat} {fb : Nat → Int32} (h0 : w 110 = some (a0, ob 3 [.ref am, .ref aw, .ref as9, .int n])) (h3 : w 113 = some (as9, aI g 8 sta)) (hb : w tb = some (ab, aB g nb fb)) (hfr : fr + 32 ≤ nb) (hnb : nb < 65536) : Mt l g yX3_isAt cX3_isAt 5 (some .boolean) 1 0 0 w [.ref a0, .ref ab, .int (nI fr)] (fun v w' => w = w' ∧ ((v = some (.int (nI 1)) ∧ ∀ k, k < 32 → fb (fr + k) = dig9 sta k) ∨ (v = some (.int (nI 0)) ∧ ∃ k, k < 32 ∧ fb (fr + k) ≠ dig9 sta k))) := by
  refine mt_of RX3 "isAt" rfl rfl (by decide) (Nat.le_of_ble_eq_true rfl) [(0, .ref a0), (1, .ref ab), (2, .int (nI fr))] rfl ?_
  intro k hkl C hin
  subst hkl
  refine r_iconst C (nI 0) dX3_isAt_0 (by decide) rfl ?_
  refine r_istore_n (lv' := [(3, .int (nI 0)), (0, .ref a0), (1, .ref ab), (2, .int (nI fr))]) C dX3_isAt_1 (by decide) rfl rfl ?_
  have loop : ∀ (r i : Nat)  , i + r = 32 → (∀ k, k < i → fb (fr + k) = dig9 sta k) → V g k 5 w 0 0 (kQ g k (fun v w' => w = w' ∧ ((v = some (.int (nI 1)) ∧ ∀ k, k < 32 → fb (fr + k) = dig9 sta k) ∨ (v = some (.int (nI 0)) ∧ ∃ k, k < 32 ∧ fb (fr + k) ≠ dig9 sta k))) 0 0) 2 [(3, .int (nI i)), (0, .ref a0), (1, .ref ab), (2, .int (nI fr))] [] := by
    intro r
    induction r with
    | zero =>
      intro i   hi gq
      refine r_iload_n C 0 dX3_isAt_2 rfl rfl ?_
      refine r_bipush C (nI 32) dX3_isAt_3 (by decide) rfl ?_
      refine r_icmp_ge_t (tgt := 45) C dX3_isAt_5 (by decide) ((nI_leI (a := 32) (b := i) (by omega) (by omega)).mpr (by omega)) ?_
      refine r_iconst C (nI 1) dX3_isAt_45 (by decide) rfl ?_
      obtain rfl : i = 32 := by omega
      exact r_zret C rfl rfl (by decide) (by decide) dX3_isAt_46 ⟨rfl, Or.inl ⟨rfl, gq⟩⟩
    | succ r ih =>
      intro i   hi gq
      refine r_iload_n C 0 dX3_isAt_2 rfl rfl ?_
      refine r_bipush C (nI 32) dX3_isAt_3 (by decide) rfl ?_
      refine r_icmp_ge_f (tgt := 45) C dX3_isAt_5 (by decide) rfl (fun z => absurd ((nI_leI (a := 32) (b := i) (by omega) (by omega)).mp z) (by omega)) ?_
      refine r_iload_n C 3 dX3_isAt_8 rfl rfl ?_
      refine r_iload_n C 0 dX3_isAt_9 rfl rfl ?_
      refine r_iadd C dX3_isAt_10 rfl ?_
      refine r_ti (show ((nI fr) + (nI i) : Int32) = nI (fr + i) from nI_add fr i) ?_
      refine r_istore (lv' := [(4, .int (nI (fr + i))), (3, .int (nI i)), (0, .ref a0), (1, .ref ab), (2, .int (nI fr))]) C dX3_isAt_11 (by decide) rfl rfl ?_
      refine r_iload C 0 dX3_isAt_13 rfl rfl ?_
      refine r_if_lt_f (tgt := 37) C dX3_isAt_15 (by decide) rfl (nI_pos (by omega)) ?_
      refine r_iload C 0 dX3_isAt_18 rfl rfl ?_
      refine r_aload_n C 3 dX3_isAt_20 rfl rfl ?_
      refine r_blen (t := tb) C hb dX3_isAt_21 rfl ?_
      refine r_icmp_ge_f (tgt := 37) C dX3_isAt_22 (by decide) rfl (fun z => absurd ((nI_leI (a := nb) (b := (fr + i)) (by omega) (by omega)).mp z) (by omega)) ?_
      refine r_aload_n C 3 dX3_isAt_25 rfl rfl ?_
      refine r_iload C 0 dX3_isAt_26 rfl rfl ?_
      refine r_bald (t := tb) C hb (fr + i) rfl (by omega) (by omega) dX3_isAt_28 rfl ?_
      refine r_aload_n C 2 dX3_isAt_29 rfl rfl ?_
      refine r_iload_n C 1 dX3_isAt_30 rfl rfl ?_
      refine r_callV (t := 110) (As := [.int (nI i)]) (st := [.int (fb (fr + i))]) C koX3 h0 (c_sumByte h0 h3 (by omega)) q398 q395 q397 qp9 q7 rfl ⟨by decide, by decide⟩ (show (parseMethodDescriptor yX3_sumByte.desc).map (fun d => d.parameters.length) = some 1 by decide +kernel) (by decide) (by decide) (by decide) (by decide) (Nat.le_of_ble_eq_true rfl) rfl dX3_isAt_31 rfl ?_
      rintro v9 w2 ⟨rfl, rfl⟩
      show V g k 5 w 0 0 (kQ g k (fun v w' => w = w' ∧ ((v = some (.int (nI 1)) ∧ ∀ k, k < 32 → fb (fr + k) = dig9 sta k) ∨ (v = some (.int (nI 0)) ∧ ∃ k, k < 32 ∧ fb (fr + k) ≠ dig9 sta k))) 0 0) 34 [(4, .int (nI (fr + i))), (3, .int (nI i)), (0, .ref a0), (1, .ref ab), (2, .int (nI fr))] [.int (dig9 sta i), .int (fb (fr + i))]
      refine r_icmp_eq (tgt := 39) C dX3_isAt_34 (by decide) rfl (fun hc3 => ?_) (fun hc3 => ?_)
      · refine r_iinc (v := nI (i + 1)) (lv' := [(3, .int (nI (i + 1))), (4, .int (nI (fr + i))), (0, .ref a0), (1, .ref ab), (2, .int (nI fr))]) C 1 dX3_isAt_39 rfl (nI_1 i) (by decide) rfl rfl ?_
        refine r_goto (tgt := 2) C dX3_isAt_42 (by decide) ?_
        refine r_sub (lv' := [(3, .int (nI (i + 1))), (0, .ref a0), (1, .ref ab), (2, .int (nI fr))]) [0, 2, 3, 4] rfl ?_
        exact ih (i + 1) (by omega) (lt_s gq hc3)
      · refine r_iconst C (nI 0) dX3_isAt_37 (by decide) rfl ?_
        exact r_zret C rfl rfl (by decide) (by decide) dX3_isAt_38 ⟨rfl, Or.inr ⟨rfl, i, by omega, hc3⟩⟩
  exact loop 32 0 (by omega) (fun k hk => absurd hk (Nat.not_lt_zero k))

set_option maxHeartbeats 4000000 in
set_option maxRecDepth 20000 in
theorem c_SumInit {l : Launch} {g : cx_G} {w : wd_T} {a0 : Nat} (h0 : w 110 = some (a0, ob 3 [.null, .null, .null, .int 0])) : Mt l g yX3_init cX3_init 1 none 1 3 200 w [.ref a0] (fun v w' => v = none ∧ (∃ am aw as9, w' 110 = some (a0, ob 3 [.ref am, .ref aw, .ref as9, .int (nI 0)]) ∧ w' 111 = some (am, aB g 128 (fun _ => 0)) ∧ w' 112 = some (aw, aI g 64 (fun _ => 0)) ∧ w' 113 = some (as9, aI g 8 (fun _ => 0))) ∧ Fr w w' 110 114) := by
  refine mt_of RX3 "<init>" rfl rfl (by decide) (Nat.le_of_ble_eq_true rfl) [(0, .ref a0)] rfl ?_
  intro k hkl C hin
  subst hkl
  refine r_aload_n C 0 dX3_init_0 rfl rfl ?_
  refine r_objI C q86 q33 q34 (by decide) (Nat.le_of_ble_eq_true rfl) dX3_init_1 rfl ?_
  refine r_aload_n C 0 dX3_init_4 rfl rfl ?_
  refine r_sipush C (nI 128) dX3_init_5 (by decide) rfl ?_
  refine r_newb C 128 rfl (by decide) q101 111 (by decide) (by decide) dX3_init_8 rfl (fun am => ?_)
  refine r_putF (t := 110) (w' := wd_set (wd_set w 111 am (aB g 128 (fun _ => 0))) 110 a0 (ob 3 [.ref am, .null, .null, .int 0])) C koX3 ((wd_ne (by decide)).trans h0) 0 (by decide) q87 rfl rfl hin rfl rfl rfl (Nat.le_of_ble_eq_true rfl) dX3_init_10 rfl rfl ?_
  refine r_aload_n C 0 dX3_init_13 rfl rfl ?_
  refine r_bipush C (nI 64) dX3_init_14 (by decide) rfl ?_
  refine r_newi C 64 rfl (by decide) q100 112 (by decide) (by decide) dX3_init_16 rfl (fun aw => ?_)
  refine r_putF (t := 110) (w' := wd_set (wd_set (wd_set w 111 am (aB g 128 (fun _ => 0))) 112 aw (aI g 64 (fun _ => 0))) 110 a0 (ob 3 [.ref am, .ref aw, .null, .int 0])) C koX3 ((wd_ne (by decide)).trans wd_eq) 1 (by decide) q88 rfl rfl hin rfl rfl rfl (Nat.le_of_ble_eq_true rfl) dX3_init_18 rfl (wd_pp wd_ss (by decide)) ?_
  refine r_aload_n C 0 dX3_init_21 rfl rfl ?_
  refine r_bipush C (nI 8) dX3_init_22 (by decide) rfl ?_
  refine r_newi C 8 rfl (by decide) q100 113 (by decide) (by decide) dX3_init_24 rfl (fun as9 => ?_)
  refine r_putF (t := 110) (w' := wd_set (wd_set (wd_set (wd_set w 111 am (aB g 128 (fun _ => 0))) 112 aw (aI g 64 (fun _ => 0))) 113 as9 (aI g 8 (fun _ => 0))) 110 a0 (ob 3 [.ref am, .ref aw, .ref as9, .int 0])) C koX3 ((wd_ne (by decide)).trans wd_eq) 2 (by decide) q89 rfl rfl hin rfl rfl rfl (Nat.le_of_ble_eq_true rfl) dX3_init_26 rfl (wd_pp wd_ss (by decide)) ?_
  refine r_aload_n C 0 dX3_init_29 rfl rfl ?_
  refine r_iconst C (nI 0) dX3_init_30 (by decide) rfl ?_
  refine r_put (t := 110) (w' := wd_set (wd_set (wd_set (wd_set w 111 am (aB g 128 (fun _ => 0))) 112 aw (aI g 64 (fun _ => 0))) 113 as9 (aI g 8 (fun _ => 0))) 110 a0 (ob 3 [.ref am, .ref aw, .ref as9, .int (nI 0)])) C koX3 wd_eq 3 (by decide) q90 rfl rfl rfl rfl (Nat.le_of_ble_eq_true rfl) dX3_init_31 rfl wd_ss ?_
  refine r_vret C rfl (by decide) (by decide) dX3_init_34 ⟨rfl, ⟨_, _, _, wd_eq, ((wd_ne (by decide)).trans ((wd_ne (by decide)).trans ((wd_ne (by decide)).trans wd_eq))), ((wd_ne (by decide)).trans ((wd_ne (by decide)).trans wd_eq)), ((wd_ne (by decide)).trans wd_eq)⟩, fun t ht => ?_⟩
  simp only [wd_set]
  rw [if_neg (by omega), if_neg (by omega), if_neg (by omega), if_neg (by omega)]
end
section
/-! lists of objects: the JDK's ArrayList over a world -/
section RW3
variable {g : cx_G} {k : kx_T} {own : String} {cc : ByteArray} {nL : Nat} {rt : Option FieldType} {d mc ms : Nat} {w w' : wd_T} {cells slots : Nat} {Q : State → Prop} {pc q : Nat} {lv lv' : List (Nat × Value)} {st : List Value}
/-- an object of a world whose class the tables let be cast to Object -/
def el_ok (w : wd_T) (x : Nat) : Prop := ∃ (t ci N : Nat) (fs : List Value) (CN : String) (T : u_T) (ty : Nat → FieldType), w t = some (x, ob ci fs) ∧ KO ci CN T N ty ∧ Cond.castable CN "java/lang/Object" ∈ NW
theorem el_any {s : State} {H : Heap} {ws : va_W} {x : Nat} (hk : kn_ok g s) (hP : va_P g.1 classes ws H) (hw : wl_ok w ws) (h : el_ok w x) : va_Any "java/lang/Object" s H x := by
  obtain ⟨t, ci, N, fs, CN, T, ty, h1, h2, h3⟩ := h
  obtain ⟨i, hi⟩ := hw.1 _ _ _ h1
  refine va_rAny (q0 := i) hk.1 hP hi h2.1 (fun comp c0 e1 e2 => ?_)
  obtain ⟨c1, t1, f1, f2, f3⟩ := Cond.castable_spec (args := #[]) (va_Nw.use (nw_onT (nw_in h3)) (hk.2.2 _ h3))
  cases e1.symm.trans f2
  cases e2.symm.trans f1
  exact f3
theorem r_aast (C : Cx g k own cc nL rt d mc ms) {t a n x : Nat} {i : Int32} {f : Nat → Option Nat} (ht : w t = some (a, aO g n f)) (hx : el_ok w x) (j : Nat) (hi : i = nI j) (hj : j < n) (hn : n < 2 ^ 31) (dg : decode cc pc = .ok (.aastore, 1)) (e : pc + 1 = q) (ew : wd_set w t a (aO g n (va_up f j (some x))) = w') (kk : V g k nL w' cells slots Q q lv st) : V g k nL w cells slots Q pc lv (.ref x :: .int i :: .ref a :: st) := by
  subst e hi ew
  intro H locs ls ⟨ws, hP, hD, hw, hS⟩ h2 h3
  obtain ⟨i9, hi9⟩ := hw.1 _ _ _ ht
  refine va_astqM C.1 C.2.1 C.2.2.2.2.2.2.1.1 hP hD (S_locs hS h2) i9 3 hi9 rfl (el_any C.2.2.2.2.2.2.1 hP hw hx) (vp_in_nI hj hn) dg ?_
  rw [nI_clamp (Nat.lt_trans hj hn)]
  exact fun H1 locs1 hP1 hD1 hS1 => kk H1 locs1 ls ⟨_, hP1, hD1, wl_set hw hD ht hi9, S_nil hS1⟩ hS1.2.2 h3
theorem r_copyq (C : Cx g k own cc nL rt d mc ms) {t0 t1 a0 a1 n0 n1 ix : Nat} {f f1 : Nat → Option Nat} {sp dp n : Int32} (ht0 : w t0 = some (a0, aO g n0 f)) (ht1 : w t1 = some (a1, aO g n1 f1)) (hlink : Cond.methodLink own ix arraycopyName ∈ GW) (hnat : Cond.native arraycopyName ∈ GW) (hstat : Cond.static arraycopyName ∈ GW) (hini : Cond.initialized "java/lang/System" ∈ GW) (js jd jn : Nat) (e1 : sp = nI js) (e2 : dp = nI jd) (e3 : n = nI jn) (z1 : js + jn ≤ n0) (z2 : jd + jn ≤ n1) (z3 : n0 < 2 ^ 31) (z4 : n1 < 2 ^ 31) (hel : ∀ i, i < jn → ∀ y, f (js + i) = some y → el_ok w y) (hfr : 1 ≤ d) (hst : (st.map fun v => v.category).sum ≤ 8) (dg : decode cc pc = .ok (.invokestatic ix, 3)) (e : pc + 3 = q) (ew : wd_set w t1 a1 (aO g n1 (va_cpy f f1 js jd jn)) = w') (kk : V g k nL w' cells slots Q q lv st) : V g k nL w cells slots Q pc lv (.int n :: .int dp :: .ref a1 :: .int sp :: .ref a0 :: st) := by
  subst e ew e1 e2 e3
  intro H locs ls ⟨ws, hP, hD, hw, hS⟩ h2 h3
  obtain ⟨i0, hi0⟩ := hw.1 _ _ _ ht0
  obtain ⟨i1, hi1⟩ := hw.1 _ _ _ ht1
  have c1 : (nI js).toNatClampNeg = js := nI_clamp (by omega)
  have c2 : (nI jd).toNatClampNeg = jd := nI_clamp (by omega)
  have c3 : (nI jn).toNatClampNeg = jn := nI_clamp (by omega)
  have hl9 : 40 * d ≤ (kxR k).locals := C.2.2.2.2.2.2.2.2.2.1
  have hwd : nativeFrameWords "java/lang/System" "arraycopy" 5 ≤ 20 := by decide
  have hts := C.2.2.2.2.1
  refine va_copyM C.1 C.2.1 (C.2.2.1.trans h3.1.symm) C.2.2.2.1 (hts _ hlink) (hts _ hnat) (hts _ hstat) (hts _ hini) C.2.2.2.2.2.2.1.1 hP hD (S_locs hS h2) i0 i1 3 3 hi0 hi1 rfl rfl (nI_pos (by omega)) (nI_pos (by omega)) (nI_pos (by omega)) (by rw [c1, c3]; exact z1) (by rw [c2, c3]; exact z2) (by rw [c1, c3]; exact fun i hi y hy => el_any C.2.2.2.2.2.2.1 hP hw (hel i hi y hy)) (Nat.le_trans hfr C.2.2.2.2.2.2.2.2.1) (by omega) dg ?_
  rw [c1, c2, c3]
  exact fun H1 locs1 hP1 hD1 hS1 => kk H1 locs1 ls ⟨_, hP1, hD1, wl_set hw hD ht1 hi1, S_nil hS1⟩ hS1.2.2 h3
theorem r_mmax (C : Cx g k own cc nL rt d mc ms) {x y : Int32} {ix : Nat} (hlink : Cond.methodLink own ix Lib.Math.max.name ∈ GW) (hstat : Cond.static Lib.Math.max.name ∈ GW) (hini : Cond.initialized "java/lang/Math" ∈ GW) (hcode : Cond.code Lib.Math.max.name Lib.Math.max.code 2 (some .int) ∈ GW) (hfr : 1 ≤ d) (hst : (st.map fun v => v.category).sum ≤ 8) (z1 : cells ≤ mc) (z2 : slots ≤ ms) (dg : decode cc pc = .ok (.invokestatic ix, 3)) (e : pc + 3 = q) (kk : V g k nL w cells slots Q q lv (.int (if x < y then y else x) :: st)) : V g k nL w cells slots Q pc lv (.int y :: .int x :: st) := by
  subst e
  intro H locs ls h1 h2 h3
  have hts := C.2.2.2.2.1
  have hl9 : 40 * d ≤ (kxR k).locals := C.2.2.2.2.2.2.2.2.2.1
  exact va_mmax C.1 C.2.1 (C.2.2.1.trans h3.1.symm) C.2.2.2.1 (hts _ hlink) (hts _ hstat) (hts _ hini) (hts _ hcode) (Nat.le_trans hfr C.2.2.2.2.2.2.2.2.1) (by omega) (Nat.le_trans z1 C.2.2.2.2.2.2.2.2.2.2.1) (Nat.le_trans z2 C.2.2.2.2.2.2.2.2.2.2.2) dg (kk H locs ls h1 h2 h3)
theorem r_mmin (C : Cx g k own cc nL rt d mc ms) {x y : Int32} {ix : Nat} (hlink : Cond.methodLink own ix Lib.Math.min.name ∈ GW) (hstat : Cond.static Lib.Math.min.name ∈ GW) (hini : Cond.initialized "java/lang/Math" ∈ GW) (hcode : Cond.code Lib.Math.min.name Lib.Math.min.code 2 (some .int) ∈ GW) (hfr : 1 ≤ d) (hst : (st.map fun v => v.category).sum ≤ 8) (z1 : cells ≤ mc) (z2 : slots ≤ ms) (dg : decode cc pc = .ok (.invokestatic ix, 3)) (e : pc + 3 = q) (kk : V g k nL w cells slots Q q lv (.int (if y < x then y else x) :: st)) : V g k nL w cells slots Q pc lv (.int y :: .int x :: st) := by
  subst e
  intro H locs ls h1 h2 h3
  have hts := C.2.2.2.2.1
  have hl9 : 40 * d ≤ (kxR k).locals := C.2.2.2.2.2.2.2.2.2.1
  exact va_mmin C.1 C.2.1 (C.2.2.1.trans h3.1.symm) C.2.2.2.1 (hts _ hlink) (hts _ hstat) (hts _ hini) (hts _ hcode) (Nat.le_trans hfr C.2.2.2.2.2.2.2.2.1) (by omega) (Nat.le_trans z1 C.2.2.2.2.2.2.2.2.2.2.1) (Nat.le_trans z2 C.2.2.2.2.2.2.2.2.2.2.2) dg (kk H locs ls h1 h2 h3)
theorem r_getC (C : Cx g k own cc nL rt d mc ms) {t a n ix : Nat} {f : Nat → Option Nat} (ht : w t = some (a, aO g n f)) (hlink : Cond.methodLink own ix ⟨"java/lang/Object", "getClass", "()Ljava/lang/Class;"⟩ ∈ GW) (hdecl : Cond.declares ⟨"java/lang/Object", "getClass", "()Ljava/lang/Class;"⟩ ∈ NW) (hsel : Cond.selects "[Ljava/lang/Object;" ⟨"java/lang/Object", "getClass", "()Ljava/lang/Class;"⟩ ⟨"java/lang/Object", "getClass", "()Ljava/lang/Class;"⟩ ∈ GW) (hin : Cond.instanceMethod ⟨"java/lang/Object", "getClass", "()Ljava/lang/Class;"⟩ ∈ GW) (hnat : Cond.native ⟨"java/lang/Object", "getClass", "()Ljava/lang/Class;"⟩ ∈ GW) (hfr : 1 ≤ d) (hst : (st.map fun v => v.category).sum ≤ 8) (dg : decode cc pc = .ok (.invokevirtual ix, 3)) (e : pc + 3 = q) (kk : V g k nL w cells slots Q q lv (.ref (gsM g) :: st)) : V g k nL w cells slots Q pc lv (.ref a :: st) := by
  subst e
  intro H locs ls ⟨ws, hP, hD, hw, hS⟩ h2 h3
  obtain ⟨i9, hi9⟩ := hw.1 _ _ _ ht
  have hts := C.2.2.2.2.1
  have hl9 : 40 * d ≤ (kxR k).locals := C.2.2.2.2.2.2.2.2.2.1
  have hkn := C.2.2.2.2.2.2.1
  exact va_getC C.1 C.2.1 (C.2.2.1.trans h3.1.symm) C.2.2.2.1 (hts _ hlink) (va_Nw.use (nw_onT (nw_in hdecl)) (hkn.2.2 _ hdecl)) (hts _ hsel) (hts _ hin) (hts _ hnat) hkn.2.1.2.2.2.2.2.2.2.2.2.2.2.2.2.2.2.1 ⟨_, hP i9 _ hi9, rfl, va_nmO (hkn.1.2 3 _ rfl).2 (by decide +kernel)⟩ (Nat.le_trans hfr C.2.2.2.2.2.2.2.2.1) (by omega) dg (kk H locs ls ⟨ws, hP, hD, hw, hS⟩ h2 h3)
theorem r_ldcM (C : Cx g k own cc nL rt d mc ms) {ix : Nat} (hlink : Cond.classLink own ix "[Ljava/lang/Object;" ∈ GW) (dg : decode cc pc = .ok (.ldc ix, 2)) (e : pc + 2 = q) (kk : V g k nL w cells slots Q q lv (.ref (gsM g) :: st)) : V g k nL w cells slots Q pc lv st := by
  subst e
  intro H locs ls h1 h2 h3
  exact va_ldcM C.1 C.2.1 C.2.2.2.1 (C.2.2.2.2.1 _ hlink) C.2.2.2.2.2.2.1.2.1.2.2.2.2.2.2.2.2.2.2.2.2.2.2.2.1 dg (kk H locs ls h1 h2 h3)
theorem r_tv {x y : Value} (e : x = y) (kk : V g k nL w cells slots Q pc lv (y :: st)) : V g k nL w cells slots Q pc lv (x :: st) := e ▸ kk
/-- the cell of one tag under another one; the first is let go -/
def wd_mv (w : wd_T) (a b : Nat) : wd_T := fun t => if t = b then w a else if t = a then none else w t
theorem wl_mv {ws : va_W} {a b : Nat} (h : wl_ok w ws) : wl_ok (wd_mv w a b) ws := by
  have key : ∀ t x e, wd_mv w a b t = some (x, e) → ∃ u, w u = some (x, e) ∧ (t = b ∧ u = a ∨ t ≠ b ∧ t ≠ a ∧ u = t) := by
    intro t x e ht
    unfold wd_mv at ht
    by_cases h1 : t = b
    · rw [if_pos h1] at ht
      exact ⟨a, ht, Or.inl ⟨h1, rfl⟩⟩
    · rw [if_neg h1] at ht
      by_cases h2 : t = a
      · rw [if_pos h2] at ht
        cases ht
      · rw [if_neg h2] at ht
        exact ⟨t, ht, Or.inr ⟨h1, h2, rfl⟩⟩
  refine ⟨fun t x e ht => ?_, fun t1 t2 x e1 e2 h1 h2 => ?_⟩
  · obtain ⟨u, hu, -⟩ := key t x e ht
    exact h.1 u x e hu
  · obtain ⟨u1, g1, z1⟩ := key t1 x e1 h1
    obtain ⟨u2, g2, z2⟩ := key t2 x e2 h2
    have := h.2 _ _ _ _ _ g1 g2
    omega
theorem r_mv (a b : Nat) (kk : V g k nL (wd_mv w a b) cells slots Q pc lv st) : V g k nL w cells slots Q pc lv st := fun H locs ls ⟨ws, hP, hD, hw, hS⟩ h2 h3 => kk H locs ls ⟨ws, hP, hD, wl_mv hw, hS⟩ h2 h3
theorem mv_to {a b : Nat} : wd_mv w a b b = w a := if_pos rfl
theorem mv_ne {a b t : Nat} (h1 : t ≠ b) (h2 : t ≠ a) : wd_mv w a b t = w t := by
  unfold wd_mv
  rw [if_neg h1, if_neg h2]
end RW3
/-- an object at a tag, of a class that may be cast to Object -/
def el_at (w : wd_T) (t x : Nat) : Prop := ∃ (ci N : Nat) (fs : List Value) (CN : String) (T : u_T) (ty : Nat → FieldType), w t = some (x, ob ci fs) ∧ KO ci CN T N ty ∧ Cond.castable CN "java/lang/Object" ∈ NW
theorem el_at.ok {w : wd_T} {t x : Nat} (h : el_at w t x) : el_ok w x := by
  obtain ⟨ci, N, fs, CN, T, ty, h1, h2, h3⟩ := h
  exact ⟨t, ci, N, fs, CN, T, ty, h1, h2, h3⟩
theorem el_at.kept {w w' : wd_T} {t x : Nat} (h : el_at w t x) (e : w' t = w t) : el_at w' t x := by
  obtain ⟨ci, N, fs, CN, T, ty, h1, h2, h3⟩ := h
  exact ⟨ci, N, fs, CN, T, ty, e.trans h1, h2, h3⟩
/-- a list of n objects el j, at the tags tg j; the list itself takes tags tl .. tl + 2 -/
def LsAt (g : cx_G) (w : wd_T) (tl al n : Nat) (el tg : Nat → Nat) : Prop := ∃ (m9 : Int32) (ae : Nat), w tl = some (al, ob 9 [.int m9, .ref ae, .int (nI n)]) ∧
  ((n = 0 ∧ ae = gsE g) ∨ ∃ (cap : Nat) (fq : Nat → Option Nat), w (tl + 1) = some (ae, aO g cap fq) ∧ n ≤ cap ∧ 10 ≤ cap ∧ cap ≤ 2 * n + 10 ∧ ∀ j, j < n → fq j = some (el j)) ∧
  ∀ j, j < n → el_at w (tg j) (el j) ∧ (tg j < tl ∨ tl + 3 ≤ tg j)
theorem LsAt.kept {g : cx_G} {w w' : wd_T} {tl al n : Nat} {el tg : Nat → Nat} (h : LsAt g w tl al n el tg) (h0 : w' tl = w tl) (h1 : w' (tl + 1) = w (tl + 1)) (h2 : ∀ j, j < n → el_at w (tg j) (el j) → el_at w' (tg j) (el j)) : LsAt g w' tl al n el tg := by
  obtain ⟨m9, ae, e0, e1, e2⟩ := h
  refine ⟨m9, ae, h0.trans e0, ?_, fun j hj => ⟨h2 j hj (e2 j hj).1, (e2 j hj).2⟩⟩
  rcases e1 with e1 | ⟨cap, fq, e1, e3⟩
  · exact Or.inl e1
  · exact Or.inr ⟨cap, fq, h1.trans e1, e3⟩

set_option maxHeartbeats 4000000 in
set_option maxRecDepth 20000 in
theorem c_ACinit {l : Launch} {g : cx_G} {w : wd_T} {a : Nat} : Mt l g yJxa1e45_init_da8c8 cJxa1e45_init_da8c8 1 none 1 0 0 w [.ref a] (fun v w' => v = none ∧ w = w') := by
  refine mt_of RJxa1e45 "<init>" rfl rfl (by decide) (Nat.le_of_ble_eq_true rfl) [(0, .ref a)] rfl ?_
  intro k hkl C hin
  subst hkl
  refine r_aload_n C 0 dJxa1e45_init_da8c8_0 rfl rfl ?_
  refine r_objI C q52 q33 q34 (by decide) (Nat.le_of_ble_eq_true rfl) dJxa1e45_init_da8c8_1 rfl ?_
  exact r_vret C rfl (by decide) (by decide) dJxa1e45_init_da8c8_4 ⟨rfl, rfl⟩

set_option maxHeartbeats 4000000 in
set_option maxRecDepth 20000 in
theorem c_ABinit {l : Launch} {g : cx_G} {w : wd_T} {a t : Nat} {m9 : Int32} (h0 : w t = some (a, ob 9 [.int m9, .null, .int 0])) : Mt l g yJxc12de_init_da8c8 cJxc12de_init_da8c8 1 none 2 0 0 w [.ref a] (fun v w' => v = none ∧ w' t = some (a, ob 9 [.int (nI 0), .null, .int 0]) ∧ Fr w w' t (t + 1)) := by
  refine mt_of RJxc12de "<init>" rfl rfl (by decide) (Nat.le_of_ble_eq_true rfl) [(0, .ref a)] rfl ?_
  intro k hkl C hin
  subst hkl
  refine r_aload_n C 0 dJxc12de_init_da8c8_0 rfl rfl ?_
  refine r_callI (As := []) (st := []) C (c_ACinit) q51 q49 q50 q3 rfl ⟨by decide, by decide⟩ (show (parseMethodDescriptor yJxa1e45_init_da8c8.desc).map (fun d => d.parameters.length) = some 0 by decide +kernel) (by decide) (by decide) (by decide) (by decide) (Nat.le_of_ble_eq_true rfl) rfl dJxc12de_init_da8c8_1 rfl ?_
  rintro v9 w1 ⟨rfl, rfl⟩
  show V g k 1 w 0 0 (kQ g k (fun v w' => v = none ∧ w' t = some (a, ob 9 [.int (nI 0), .null, .int 0]) ∧ Fr w w' t (t + 1)) 0 0) 4 [(0, .ref a)] []
  refine r_aload_n C 0 dJxc12de_init_da8c8_4 rfl rfl ?_
  refine r_iconst C (nI 0) dJxc12de_init_da8c8_5 (by decide) rfl ?_
  refine r_put (t := t) (w' := wd_set w t a (ob 9 [.int (nI 0), .null, .int 0])) C koJx4a65c h0 0 (by decide) q57 rfl rfl rfl rfl (Nat.le_of_ble_eq_true rfl) dJxc12de_init_da8c8_6 rfl rfl ?_
  exact r_vret C rfl (by decide) (by decide) dJxc12de_init_da8c8_9 ⟨rfl, wd_eq, Fr.set (by omega) (by omega)⟩

set_option maxHeartbeats 4000000 in
set_option maxRecDepth 20000 in
theorem c_ALinit {l : Launch} {g : cx_G} {w : wd_T} {a t : Nat} {m9 : Int32} {el tg : Nat → Nat} (h0 : w t = some (a, ob 9 [.int m9, .null, .int 0])) : Mt l g yJx4a65c_init_da8c8 cJx4a65c_init_da8c8 1 none 3 0 0 w [.ref a] (fun v w' => v = none ∧ LsAt g w' t a 0 el tg ∧ Fr w w' t (t + 1)) := by
  refine mt_of RJx4a65c "<init>" rfl rfl (by decide) (Nat.le_of_ble_eq_true rfl) [(0, .ref a)] rfl ?_
  intro k hkl C hin
  subst hkl
  refine r_aload_n C 0 dJx4a65c_init_da8c8_0 rfl rfl ?_
  refine r_callI (As := []) (st := []) C (c_ABinit h0) q48 q46 q47 q4 rfl ⟨by decide, by decide⟩ (show (parseMethodDescriptor yJxc12de_init_da8c8.desc).map (fun d => d.parameters.length) = some 0 by decide +kernel) (by decide) (by decide) (by decide) (by decide) (Nat.le_of_ble_eq_true rfl) rfl dJx4a65c_init_da8c8_1 rfl ?_
  rintro v9 w2 ⟨rfl, e0, ef1⟩
  show V g k 1 w2 0 0 (kQ g k (fun v w' => v = none ∧ LsAt g w' t a 0 el tg ∧ Fr w w' t (t + 1)) 0 0) 4 [(0, .ref a)] []
  refine r_aload_n C 0 dJx4a65c_init_da8c8_4 rfl rfl ?_
  refine r_gets C (ks_E C) q53 rfl dJx4a65c_init_da8c8_5 rfl ?_
  refine r_put (t := t) (w' := wd_set w2 t a (ob 9 [.int (nI 0), .ref (gsE g), .int 0])) C koJx4a65c e0 1 (by decide) q55 rfl rfl rfl rfl (Nat.le_of_ble_eq_true rfl) dJx4a65c_init_da8c8_8 rfl rfl ?_
  exact r_vret C rfl (by decide) (by decide) dJx4a65c_init_da8c8_11 ⟨rfl, ⟨_, _, wd_eq, Or.inl ⟨rfl, rfl⟩, fun j hj => absurd hj (Nat.not_lt_zero j)⟩, ef1.trans (Fr.set (by omega) (by omega))⟩

set_option maxHeartbeats 4000000 in
set_option maxRecDepth 20000 in
theorem c_ALsize0 {l : Launch} {g : cx_G} {w : wd_T} {tl al ae n : Nat} {m9 : Int32} (h0 : w tl = some (al, ob 9 [.int m9, .ref ae, .int (nI n)])) : Mt l g yJx4a65c_size_8abf5 cJx4a65c_size_8abf5 1 (some .int) 0 0 0 w [.ref al] (fun v w' => v = some (.int (nI n)) ∧ w = w') := by
  refine mt_of RJx4a65c "size" rfl rfl (by decide) (Nat.le_of_ble_eq_true rfl) [(0, .ref al)] rfl ?_
  intro k hkl C hin
  subst hkl
  refine r_aload_n C 0 dJx4a65c_size_8abf5_0 rfl rfl ?_
  refine r_get (t := tl) C koJx4a65c h0 2 (by decide) q56 rfl rfl dJx4a65c_size_8abf5_1 rfl ?_
  exact r_iret C rfl (by decide) (by decide) dJx4a65c_size_8abf5_4 ⟨rfl, rfl⟩

theorem c_ALsize {l : Launch} {g : cx_G} {w : wd_T} {tl al n : Nat} {el tg : Nat → Nat} (h : LsAt g w tl al n el tg) : Mt l g yJx4a65c_size_8abf5 cJx4a65c_size_8abf5 1 (some .int) 0 0 0 w [.ref al] (fun v w' => v = some (.int (nI n)) ∧ w = w') := by
  obtain ⟨m9, ae, e0, -⟩ := h
  exact c_ALsize0 e0
set_option maxHeartbeats 4000000 in
set_option maxRecDepth 20000 in
theorem c_ckI {l : Launch} {g : cx_G} {w : wd_T} {i n : Nat} (hi : i < n) (hn : n < 65536) : Mt l g yJ3_checkIndex_8e157 cJ3_checkIndex_8e157 3 (some .int) 0 0 0 w [.int (nI i), .int (nI n), .null] (fun v w' => v = some (.int (nI i)) ∧ w = w') := by
  refine mt_of RJ3 "checkIndex" rfl rfl (by decide) (Nat.le_of_ble_eq_true rfl) [(0, .int (nI i)), (1, .int (nI n)), (2, .null)] rfl ?_
  intro k hkl C hin
  subst hkl
  refine r_iload_n C 0 dJ3_checkIndex_8e157_0 rfl rfl ?_
  refine r_if_lt_f (tgt := 9) C dJ3_checkIndex_8e157_1 (by decide) rfl (nI_pos (by omega)) ?_
  refine r_iload_n C 0 dJ3_checkIndex_8e157_4 rfl rfl ?_
  refine r_iload_n C 1 dJ3_checkIndex_8e157_5 rfl rfl ?_
  refine r_icmp_lt_t (tgt := 16) C dJ3_checkIndex_8e157_6 (by decide) ((nI_ltI (a := i) (b := n) (by omega) (by omega)).mpr (by omega)) ?_
  refine r_iload_n C 0 dJ3_checkIndex_8e157_16 rfl rfl ?_
  exact r_iret C rfl (by decide) (by decide) dJ3_checkIndex_8e157_17 ⟨rfl, rfl⟩

set_option maxHeartbeats 4000000 in
set_option maxRecDepth 20000 in
theorem c_ckO {l : Launch} {g : cx_G} {w : wd_T} {i n : Nat} (hi : i < n) (hn : n < 65536) : Mt l g yJ15_checkIndex_7cf53 cJ15_checkIndex_7cf53 2 (some .int) 1 0 0 w [.int (nI i), .int (nI n)] (fun v w' => v = some (.int (nI i)) ∧ w = w') := by
  refine mt_of RJ15 "checkIndex" rfl rfl (by decide) (Nat.le_of_ble_eq_true rfl) [(0, .int (nI i)), (1, .int (nI n))] rfl ?_
  intro k hkl C hin
  subst hkl
  refine r_iload_n C 0 dJ15_checkIndex_7cf53_0 rfl rfl ?_
  refine r_iload_n C 1 dJ15_checkIndex_7cf53_1 rfl rfl ?_
  refine r_null C dJ15_checkIndex_7cf53_2 rfl ?_
  refine r_callS (As := [.int (nI i), .int (nI n), .null]) (st := []) C (c_ckI hi hn) q185 q183 q184 q11 ⟨by decide, by decide⟩ (show (parseMethodDescriptor yJ3_checkIndex_8e157.desc).map (fun d => d.parameters.length) = some 3 by decide +kernel) (by decide) (by decide) (by decide) (by decide) (Nat.le_of_ble_eq_true rfl) rfl dJ15_checkIndex_7cf53_3 rfl ?_
  rintro v9 w1 ⟨rfl, rfl⟩
  show V g k 2 w 0 0 (kQ g k (fun v w' => v = some (.int (nI i)) ∧ w = w') 0 0) 6 [(0, .int (nI i)), (1, .int (nI n))] [.int (nI i)]
  exact r_iret C rfl (by decide) (by decide) dJ15_checkIndex_7cf53_6 ⟨rfl, rfl⟩

set_option maxHeartbeats 4000000 in
set_option maxRecDepth 20000 in
theorem c_ALed {l : Launch} {g : cx_G} {w : wd_T} {tl al ae n cap i x : Nat} {m9 : Int32} {fq : Nat → Option Nat} (h0 : w tl = some (al, ob 9 [.int m9, .ref ae, .int (nI n)])) (h1 : w (tl + 1) = some (ae, aO g cap fq)) (hi : i < n) (hn : n ≤ cap) (hc : cap < 65536) (hq : fq i = some x) : Mt l g yJx4a65c_elementData_915e3 cJx4a65c_elementData_915e3 2 (some (.object "java/lang/Object")) 0 0 0 w [.ref al, .int (nI i)] (fun v w' => v = some (.ref x) ∧ w = w') := by
  refine mt_of RJx4a65c "elementData" rfl rfl (by decide) (Nat.le_of_ble_eq_true rfl) [(0, .ref al), (1, .int (nI i))] rfl ?_
  intro k hkl C hin
  subst hkl
  refine r_aload_n C 0 dJx4a65c_elementData_915e3_0 rfl rfl ?_
  refine r_get (t := tl) C koJx4a65c h0 1 (by decide) q55 rfl rfl dJx4a65c_elementData_915e3_1 rfl ?_
  refine r_iload_n C 1 dJx4a65c_elementData_915e3_4 rfl rfl ?_
  refine r_aald (t := (tl + 1)) C h1 i rfl (by omega) (by omega) dJx4a65c_elementData_915e3_5 rfl ?_
  refine r_tv (show (va_rf (fq i) : Value) = .ref x from (by rw [hq]; rfl)) ?_
  exact r_aret C rfl (Or.inl ⟨_, rfl⟩) (Or.inr ⟨_, rfl⟩) (by decide) (by decide) dJx4a65c_elementData_915e3_6 ⟨rfl, rfl⟩

set_option maxHeartbeats 4000000 in
set_option maxRecDepth 20000 in
theorem c_ALget0 {l : Launch} {g : cx_G} {w : wd_T} {tl al ae n cap i x : Nat} {m9 : Int32} {fq : Nat → Option Nat} (h0 : w tl = some (al, ob 9 [.int m9, .ref ae, .int (nI n)])) (h1 : w (tl + 1) = some (ae, aO g cap fq)) (hi : i < n) (hn : n ≤ cap) (hc : cap < 65536) (hq : fq i = some x) : Mt l g yJx4a65c_get_915e3 cJx4a65c_get_915e3 2 (some (.object "java/lang/Object")) 2 0 0 w [.ref al, .int (nI i)] (fun v w' => v = some (.ref x) ∧ w = w') := by
  refine mt_of RJx4a65c "get" rfl rfl (by decide) (Nat.le_of_ble_eq_true rfl) [(0, .ref al), (1, .int (nI i))] rfl ?_
  intro k hkl C hin
  subst hkl
  refine r_iload_n C 1 dJx4a65c_get_915e3_0 rfl rfl ?_
  refine r_aload_n C 0 dJx4a65c_get_915e3_1 rfl rfl ?_
  refine r_get (t := tl) C koJx4a65c h0 2 (by decide) q56 rfl rfl dJx4a65c_get_915e3_2 rfl ?_
  refine r_callS (As := [.int (nI i), .int (nI n)]) (st := []) C (c_ckO hi (by omega)) q182 q180 q181 q10 ⟨by decide, by decide⟩ (show (parseMethodDescriptor yJ15_checkIndex_7cf53.desc).map (fun d => d.parameters.length) = some 2 by decide +kernel) (by decide) (by decide) (by decide) (by decide) (Nat.le_of_ble_eq_true rfl) rfl dJx4a65c_get_915e3_5 rfl ?_
  rintro v9 w1 ⟨rfl, rfl⟩
  show V g k 2 w 0 0 (kQ g k (fun v w' => v = some (.ref x) ∧ w = w') 0 0) 8 [(0, .ref al), (1, .int (nI i))] [.int (nI i)]
  refine r_pop C dJx4a65c_get_915e3_8 rfl rfl ?_
  refine r_aload_n C 0 dJx4a65c_get_915e3_9 rfl rfl ?_
  refine r_iload_n C 1 dJx4a65c_get_915e3_10 rfl rfl ?_
  refine r_callV (t := tl) (As := [.int (nI i)]) (st := []) C koJx4a65c h0 (c_ALed h0 h1 hi hn hc hq) q189 q186 q187 q188 q5 rfl ⟨by decide, by decide⟩ (show (parseMethodDescriptor yJx4a65c_elementData_915e3.desc).map (fun d => d.parameters.length) = some 1 by decide +kernel) (by decide) (by decide) (by decide) (by decide) (Nat.le_of_ble_eq_true rfl) rfl dJx4a65c_get_915e3_11 rfl ?_
  rintro v9 w2 ⟨rfl, rfl⟩
  show V g k 2 w 0 0 (kQ g k (fun v w' => v = some (.ref x) ∧ w = w') 0 0) 14 [(0, .ref al), (1, .int (nI i))] [.ref x]
  exact r_aret C rfl (Or.inl ⟨_, rfl⟩) (Or.inr ⟨_, rfl⟩) (by decide) (by decide) dJx4a65c_get_915e3_14 ⟨rfl, rfl⟩

theorem c_ALget {l : Launch} {g : cx_G} {w : wd_T} {tl al n i : Nat} {el tg : Nat → Nat} (h : LsAt g w tl al n el tg) (hi : i < n) (hn : n ≤ 1000) : Mt l g yJx4a65c_get_915e3 cJx4a65c_get_915e3 2 (some (.object "java/lang/Object")) 2 0 0 w [.ref al, .int (nI i)] (fun v w' => v = some (.ref (el i)) ∧ w = w') := by
  obtain ⟨m9, ae, e0, e1, e2⟩ := h
  rcases e1 with ⟨e1, -⟩ | ⟨cap, fq, e1, e3, e4, e5, e6⟩
  · exact absurd hi (by omega)
  · exact c_ALget0 e0 e1 hi e3 (by omega) (e6 i hi)
set_option maxHeartbeats 4000000 in
set_option maxRecDepth 20000 in
theorem c_newLen {l : Launch} {g : cx_G} {w : wd_T} {a b : Nat} (hb : 2 ≤ b) (hab : a + b ≤ 60000) : Mt l g yJ8_newLength_cabcc cJ8_newLength_cabcc 4 (some .int) 1 0 0 w [.int (nI a), .int (nI 1), .int (nI b)] (fun v w' => v = some (.int (nI (a + b))) ∧ w = w') := by
  refine mt_of RJ8 "newLength" rfl rfl (by decide) (Nat.le_of_ble_eq_true rfl) [(0, .int (nI a)), (1, .int (nI 1)), (2, .int (nI b))] rfl ?_
  intro k hkl C hin
  subst hkl
  refine r_iload_n C 0 dJ8_newLength_cabcc_0 rfl rfl ?_
  refine r_iload_n C 1 dJ8_newLength_cabcc_1 rfl rfl ?_
  refine r_iload_n C 2 dJ8_newLength_cabcc_2 rfl rfl ?_
  refine r_mmax C q228 q229 q14 q230 (by decide) (Nat.le_of_ble_eq_true rfl) (by decide) (by decide) dJ8_newLength_cabcc_3 rfl ?_
  refine r_ti (show (if (nI 1) < (nI b) then nI b else nI 1 : Int32) = nI b from if_pos (nI_lt (by omega) (by omega))) ?_
  refine r_iadd C dJ8_newLength_cabcc_6 rfl ?_
  refine r_ti (show ((nI a) + (nI b) : Int32) = nI (a + b) from nI_add a b) ?_
  refine r_istore_n (lv' := [(3, .int (nI (a + b))), (0, .int (nI a)), (1, .int (nI 1)), (2, .int (nI b))]) C dJ8_newLength_cabcc_7 (by decide) rfl rfl ?_
  refine r_iconst C (nI 0) dJ8_newLength_cabcc_8 (by decide) rfl ?_
  refine r_iload_n C 0 dJ8_newLength_cabcc_9 rfl rfl ?_
  refine r_icmp_ge_f (tgt := 21) C dJ8_newLength_cabcc_10 (by decide) rfl (fun z => absurd ((nI_leI (a := (a + b)) (b := 0) (by omega) (by omega)).mp z) (by omega)) ?_
  refine r_iload_n C 0 dJ8_newLength_cabcc_13 rfl rfl ?_
  refine r_ldc (v := nI 2147483639) C dJ8_newLength_cabcc_14 q231 rfl ?_
  refine r_icmp_gt_f (tgt := 21) C dJ8_newLength_cabcc_16 (by decide) rfl (fun z => absurd ((nI_ltI (a := 2147483639) (b := (a + b)) (by omega) (by omega)).mp z) (by omega)) ?_
  refine r_iload_n C 0 dJ8_newLength_cabcc_19 rfl rfl ?_
  exact r_iret C rfl (by decide) (by decide) dJ8_newLength_cabcc_20 ⟨rfl, rfl⟩

set_option maxHeartbeats 4000000 in
set_option maxRecDepth 20000 in
theorem c_copyOf3 {l : Launch} {g : cx_G} {w : wd_T} {te tx ae cap m : Nat} {fq : Nat → Option Nat} (h1 : w te = some (ae, aO g cap fq)) (hne : te ≠ tx) (hm : cap ≤ m) (hm2 : m ≤ 460) (hel : ∀ i, i < cap → ∀ y, fq i = some y → ∃ t, t ≠ tx ∧ el_at w t y) : Mt l g yJ7_copyOf_6403c cJ7_copyOf_6403c 4 (some (.array (.object "java/lang/Object"))) 1 1 460 w [.ref ae, .int (nI m), .ref (gsM g)] (fun v w' => ∃ a2, v = some (.ref a2) ∧ w' tx = some (a2, aO g m (va_cpy fq (fun _ => none) 0 0 cap)) ∧ Fr w w' tx (tx + 1)) := by
  refine mt_of RJ7 "copyOf" rfl rfl (by decide) (Nat.le_of_ble_eq_true rfl) [(0, .ref ae), (1, .int (nI m)), (2, .ref (gsM g))] rfl ?_
  intro k hkl C hin
  subst hkl
  refine r_aload_n C 2 dJ7_copyOf_6403c_0 rfl rfl ?_
  refine r_ldcM C q256 dJ7_copyOf_6403c_1 rfl ?_
  refine r_acmp_ne_f (tgt := 13) (x := some (gsM g)) (y := some (gsM g)) C dJ7_copyOf_6403c_3 (by decide) rfl (rfl) ?_
  refine r_iload_n C 1 dJ7_copyOf_6403c_6 rfl rfl ?_
  refine r_newa C m rfl (by omega) q258 tx (by decide) (by omega) dJ7_copyOf_6403c_7 rfl (fun a2 => ?_)
  refine r_goto (tgt := 24) C dJ7_copyOf_6403c_10 (by decide) ?_
  refine r_astore_n (lv' := [(3, .ref a2), (0, .ref ae), (1, .int (nI m)), (2, .ref (gsM g))]) C dJ7_copyOf_6403c_24 (by decide) rfl rfl ?_
  refine r_aload_n C 1 dJ7_copyOf_6403c_25 rfl rfl ?_
  refine r_iconst C (nI 0) dJ7_copyOf_6403c_26 (by decide) rfl ?_
  refine r_aload_n C 0 dJ7_copyOf_6403c_27 rfl rfl ?_
  refine r_iconst C (nI 0) dJ7_copyOf_6403c_28 (by decide) rfl ?_
  refine r_aload_n C 1 dJ7_copyOf_6403c_29 rfl rfl ?_
  refine r_alen (t := te) C ((wd_ne (by omega)).trans h1) dJ7_copyOf_6403c_30 rfl ?_
  refine r_iload_n C 2 dJ7_copyOf_6403c_31 rfl rfl ?_
  refine r_mmin C q259 q260 q14 q261 (by decide) (Nat.le_of_ble_eq_true rfl) (by decide) (by omega) dJ7_copyOf_6403c_32 rfl ?_
  refine r_ti (show (if (nI m) < (nI cap) then nI m else nI cap : Int32) = nI cap from if_neg (nI_nlt (by omega) (by omega))) ?_
  refine r_copyq (t0 := te) (t1 := tx) (w' := wd_set w tx a2 (aO g m (va_cpy fq (fun _ => none) 0 0 cap))) C ((wd_ne (by omega)).trans h1) wd_eq q262 q264 q263 q16 0 0 cap rfl rfl rfl (by omega) (by omega) (by omega) (by omega) (fun i hi y hy => by rw [Nat.zero_add] at hy; obtain ⟨t, ht, h9⟩ := hel i hi y hy; exact (h9.kept (wd_ne ht)).ok) (by decide) (Nat.le_of_ble_eq_true rfl) dJ7_copyOf_6403c_35 rfl wd_ss ?_
  refine r_aload_n C 0 dJ7_copyOf_6403c_38 rfl rfl ?_
  exact r_aret C rfl (Or.inr ⟨_, rfl⟩) (Or.inr ⟨_, rfl⟩) (by decide) (by omega) dJ7_copyOf_6403c_39 ⟨a2, rfl, wd_eq, Fr.set (by omega) (by omega)⟩

set_option maxHeartbeats 4000000 in
set_option maxRecDepth 20000 in
theorem c_copyOf2 {l : Launch} {g : cx_G} {w : wd_T} {te tx ae cap m : Nat} {fq : Nat → Option Nat} (h1 : w te = some (ae, aO g cap fq)) (hne : te ≠ tx) (hm : cap ≤ m) (hm2 : m ≤ 460) (hel : ∀ i, i < cap → ∀ y, fq i = some y → ∃ t, t ≠ tx ∧ el_at w t y) : Mt l g yJ7_copyOf_1904c cJ7_copyOf_1904c 2 (some (.array (.object "java/lang/Object"))) 2 1 460 w [.ref ae, .int (nI m)] (fun v w' => ∃ a2, v = some (.ref a2) ∧ w' tx = some (a2, aO g m (va_cpy fq (fun _ => none) 0 0 cap)) ∧ Fr w w' tx (tx + 1)) := by
  refine mt_of RJ7 "copyOf" rfl rfl (by decide) (Nat.le_of_ble_eq_true rfl) [(0, .ref ae), (1, .int (nI m))] rfl ?_
  intro k hkl C hin
  subst hkl
  refine r_aload_n C 0 dJ7_copyOf_1904c_0 rfl rfl ?_
  refine r_iload_n C 1 dJ7_copyOf_1904c_1 rfl rfl ?_
  refine r_aload_n C 0 dJ7_copyOf_1904c_2 rfl rfl ?_
  refine r_getC (t := te) C h1 q238 q948 q947 q239 q252 (by decide) (Nat.le_of_ble_eq_true rfl) dJ7_copyOf_1904c_3 rfl ?_
  refine r_callS (As := [.ref ae, .int (nI m), .ref (gsM g)]) (st := []) C (c_copyOf3 h1 hne hm hm2 hel) q255 q253 q254 q15 ⟨by decide, by decide⟩ (show (parseMethodDescriptor yJ7_copyOf_6403c.desc).map (fun d => d.parameters.length) = some 3 by decide +kernel) (by decide) (by decide) (by decide) (by decide) (Nat.le_of_ble_eq_true rfl) rfl dJ7_copyOf_1904c_6 rfl ?_
  rintro v9 w1 ⟨a2, rfl, e1, ef⟩
  show V g k 2 w1 1 460 (kQ g k (fun v w' => ∃ a2, v = some (.ref a2) ∧ w' tx = some (a2, aO g m (va_cpy fq (fun _ => none) 0 0 cap)) ∧ Fr w w' tx (tx + 1)) 1 460) 9 [(0, .ref ae), (1, .int (nI m))] [.ref a2]
  exact r_aret C rfl (Or.inr ⟨_, rfl⟩) (Or.inr ⟨_, rfl⟩) (by decide) (by decide) dJ7_copyOf_1904c_9 ⟨a2, rfl, e1, ef⟩
end
section
/-! lists: growing and adding -/
set_option maxHeartbeats 4000000 in
set_option maxRecDepth 20000 in
theorem c_growA {l : Launch} {g : cx_G} {w : wd_T} {tl al : Nat} {m9 : Int32} (h0 : w tl = some (al, ob 9 [.int m9, .ref (gsE g), .int (nI 0)])) : Mt l g yJx4a65c_grow_92f84 cJx4a65c_grow_92f84 4 (some (.array (.object "java/lang/Object"))) 3 1 460 w [.ref al, .int (nI 1)] (fun v w' => ∃ ae, v = some (.ref ae) ∧ w' tl = some (al, ob 9 [.int m9, .ref ae, .int (nI 0)]) ∧ w' (tl + 1) = some (ae, aO g 10 (fun _ => none)) ∧ Fr w w' tl (tl + 3)) := by
  refine mt_of RJx4a65c "grow" rfl rfl (by decide) (Nat.le_of_ble_eq_true rfl) [(0, .ref al), (1, .int (nI 1))] rfl ?_
  intro k hkl C hin
  subst hkl
  refine r_aload_n C 0 dJx4a65c_grow_92f84_0 rfl rfl ?_
  refine r_get (t := tl) C koJx4a65c h0 1 (by decide) q55 rfl rfl dJx4a65c_grow_92f84_1 rfl ?_
  refine r_slen C (ks_Et C) dJx4a65c_grow_92f84_4 rfl ?_
  refine r_istore_n (lv' := [(2, .int (nI 0)), (0, .ref al), (1, .int (nI 1))]) C dJx4a65c_grow_92f84_5 (by decide) rfl rfl ?_
  refine r_iload_n C 0 dJx4a65c_grow_92f84_6 rfl rfl ?_
  refine r_if_gt_f (tgt := 20) C dJx4a65c_grow_92f84_7 (by decide) rfl (fun z => absurd ((nI_ltI (a := 0) (b := 0) (by omega) (by omega)).mp z) (by omega)) ?_
  refine r_aload_n C 1 dJx4a65c_grow_92f84_10 rfl rfl ?_
  refine r_get (t := tl) C koJx4a65c h0 1 (by decide) q55 rfl rfl dJx4a65c_grow_92f84_11 rfl ?_
  refine r_gets C (ks_E C) q53 rfl dJx4a65c_grow_92f84_14 rfl ?_
  refine r_acmp_eq_t (tgt := 45) (x := some (gsE g)) (y := some (gsE g)) C dJx4a65c_grow_92f84_17 (by decide) (rfl) ?_
  refine r_aload_n C 1 dJx4a65c_grow_92f84_45 rfl rfl ?_
  refine r_bipush C (nI 10) dJx4a65c_grow_92f84_46 (by decide) rfl ?_
  refine r_iload_n C 2 dJx4a65c_grow_92f84_48 rfl rfl ?_
  refine r_mmax C q265 q229 q14 q230 (by decide) (Nat.le_of_ble_eq_true rfl) (by decide) (by decide) dJx4a65c_grow_92f84_49 rfl ?_
  refine r_ti (show (if (nI 10) < (nI 1) then nI 1 else nI 10 : Int32) = nI 10 from if_neg (by decide)) ?_
  refine r_newa C 10 rfl (by decide) q266 (tl + 1) (by decide) (by decide) dJx4a65c_grow_92f84_52 rfl (fun ae => ?_)
  refine r_dup_x1 C dJx4a65c_grow_92f84_55 rfl rfl rfl ?_
  refine r_put (t := tl) (w' := wd_set (wd_set w (tl + 1) ae (aO g 10 (fun _ => none))) tl al (ob 9 [.int m9, .ref ae, .int (nI 0)])) C koJx4a65c ((wd_ne (by omega)).trans h0) 1 (by decide) q55 rfl rfl rfl rfl (Nat.le_of_ble_eq_true rfl) dJx4a65c_grow_92f84_56 rfl rfl ?_
  exact r_aret C rfl (Or.inr ⟨_, rfl⟩) (Or.inr ⟨_, rfl⟩) (by decide) (by decide) dJx4a65c_grow_92f84_59 ⟨ae, rfl, wd_eq, (wd_ne (by omega)).trans wd_eq, (Fr.set (by omega) (by omega)).trans (Fr.set (by omega) (by omega))⟩

set_option maxHeartbeats 4000000 in
set_option maxRecDepth 20000 in
theorem c_growB {l : Launch} {g : cx_G} {w : wd_T} {tl al ae n : Nat} {m9 : Int32} {fq : Nat → Option Nat} {el tg : Nat → Nat} (h0 : w tl = some (al, ob 9 [.int m9, .ref ae, .int (nI n)])) (h1 : w (tl + 1) = some (ae, aO g n fq)) (hn : 10 ≤ n) (hn2 : n ≤ 300) (hel : ∀ j, j < n → fq j = some (el j)) (hat : ∀ j, j < n → el_at w (tg j) (el j) ∧ (tg j < tl ∨ tl + 3 ≤ tg j)) : Mt l g yJx4a65c_grow_92f84 cJx4a65c_grow_92f84 4 (some (.array (.object "java/lang/Object"))) 3 1 460 w [.ref al, .int (nI (n + 1))] (fun v w' => ∃ a2, v = some (.ref a2) ∧ w' tl = some (al, ob 9 [.int m9, .ref a2, .int (nI n)]) ∧ w' (tl + 1) = some (a2, aO g (n + n / 2) (va_cpy fq (fun _ => none) 0 0 n)) ∧ Fr w w' tl (tl + 3)) := by
  refine mt_of RJx4a65c "grow" rfl rfl (by decide) (Nat.le_of_ble_eq_true rfl) [(0, .ref al), (1, .int (nI (n + 1)))] rfl ?_
  intro k hkl C hin
  subst hkl
  refine r_aload_n C 0 dJx4a65c_grow_92f84_0 rfl rfl ?_
  refine r_get (t := tl) C koJx4a65c h0 1 (by decide) q55 rfl rfl dJx4a65c_grow_92f84_1 rfl ?_
  refine r_alen (t := (tl + 1)) C h1 dJx4a65c_grow_92f84_4 rfl ?_
  refine r_istore_n (lv' := [(2, .int (nI n)), (0, .ref al), (1, .int (nI (n + 1)))]) C dJx4a65c_grow_92f84_5 (by decide) rfl rfl ?_
  refine r_iload_n C 0 dJx4a65c_grow_92f84_6 rfl rfl ?_
  refine r_if_gt_t (tgt := 20) C dJx4a65c_grow_92f84_7 (by decide) ((nI_ltI (a := 0) (b := n) (by omega) (by omega)).mpr (by omega)) ?_
  refine r_iload_n C 0 dJx4a65c_grow_92f84_20 rfl rfl ?_
  refine r_iload_n C 2 dJx4a65c_grow_92f84_21 rfl rfl ?_
  refine r_iload_n C 0 dJx4a65c_grow_92f84_22 rfl rfl ?_
  refine r_isub C dJx4a65c_grow_92f84_23 rfl ?_
  refine r_ti (show ((nI (n + 1)) - (nI n) : Int32) = nI (n + 1 - n) from pk_sub (by omega)) ?_
  refine r_ti (show (nI (n + 1 - n) : Int32) = nI 1 from by rw [Nat.add_sub_cancel_left]) ?_
  refine r_iload_n C 0 dJx4a65c_grow_92f84_24 rfl rfl ?_
  refine r_iconst C (nI 1) dJx4a65c_grow_92f84_25 (by decide) rfl ?_
  refine r_ishr C dJx4a65c_grow_92f84_26 rfl ?_
  refine r_ti (show ((nI n) >>> ((nI 1) &&& 31) : Int32) = nI (n / 2) from pk_shrN (by omega) _ 1 (by decide)) ?_
  refine r_callS (As := [.int (nI n), .int (nI 1), .int (nI (n / 2))]) (st := []) C (c_newLen (by omega) (by omega)) q227 q225 q226 q13 ⟨by decide, by decide⟩ (show (parseMethodDescriptor yJ8_newLength_cabcc.desc).map (fun d => d.parameters.length) = some 3 by decide +kernel) (by decide) (by decide) (by decide) (by decide) (Nat.le_of_ble_eq_true rfl) rfl dJx4a65c_grow_92f84_27 rfl ?_
  rintro v9 w1 ⟨rfl, rfl⟩
  show V g k 4 w 0 0 (kQ g k (fun v w' => ∃ a2, v = some (.ref a2) ∧ w' tl = some (al, ob 9 [.int m9, .ref a2, .int (nI n)]) ∧ w' (tl + 1) = some (a2, aO g (n + n / 2) (va_cpy fq (fun _ => none) 0 0 n)) ∧ Fr w w' tl (tl + 3)) 1 460) 30 [(2, .int (nI n)), (0, .ref al), (1, .int (nI (n + 1)))] [.int (nI (n + n / 2))]
  refine r_istore_n (lv' := [(3, .int (nI (n + n / 2))), (2, .int (nI n)), (0, .ref al), (1, .int (nI (n + 1)))]) C dJx4a65c_grow_92f84_30 (by decide) rfl rfl ?_
  refine r_aload_n C 2 dJx4a65c_grow_92f84_31 rfl rfl ?_
  refine r_aload_n C 2 dJx4a65c_grow_92f84_32 rfl rfl ?_
  refine r_get (t := tl) C koJx4a65c h0 1 (by decide) q55 rfl rfl dJx4a65c_grow_92f84_33 rfl ?_
  refine r_iload_n C 0 dJx4a65c_grow_92f84_36 rfl rfl ?_
  refine r_callS (As := [.ref ae, .int (nI (n + n / 2))]) (st := [.ref al]) C (c_copyOf2 (tx := tl + 2) h1 (by omega) (by omega) (by omega) (fun i hi y hy => ⟨tg i, by have := (hat i hi).2; omega, by rw [hel i hi] at hy; cases hy; exact (hat i hi).1⟩)) q237 q235 q236 q15 ⟨by decide, by decide⟩ (show (parseMethodDescriptor yJ7_copyOf_1904c.desc).map (fun d => d.parameters.length) = some 2 by decide +kernel) (by decide) (by decide) (by decide) (by decide) (Nat.le_of_ble_eq_true rfl) rfl dJx4a65c_grow_92f84_37 rfl ?_
  rintro v9 w3 ⟨a2, rfl, e2, ef2⟩
  show V g k 4 w3 1 460 (kQ g k (fun v w' => ∃ a2, v = some (.ref a2) ∧ w' tl = some (al, ob 9 [.int m9, .ref a2, .int (nI n)]) ∧ w' (tl + 1) = some (a2, aO g (n + n / 2) (va_cpy fq (fun _ => none) 0 0 n)) ∧ Fr w w' tl (tl + 3)) 1 460) 40 [(3, .int (nI (n + n / 2))), (2, .int (nI n)), (0, .ref al), (1, .int (nI (n + 1)))] [.ref a2, .ref al]
  refine r_mv (tl + 2) (tl + 1) ?_
  refine r_dup_x1 C dJx4a65c_grow_92f84_40 rfl rfl rfl ?_
  refine r_put (t := tl) (w' := wd_set (wd_mv w3 (tl + 2) (tl + 1)) tl al (ob 9 [.int m9, .ref a2, .int (nI n)])) C koJx4a65c ((mv_ne (by omega) (by omega)).trans ((ef2 tl (by omega)).trans h0)) 1 (by decide) q55 rfl rfl rfl rfl (Nat.le_of_ble_eq_true rfl) dJx4a65c_grow_92f84_41 rfl rfl ?_
  exact r_aret C rfl (Or.inr ⟨_, rfl⟩) (Or.inr ⟨_, rfl⟩) (by decide) (by decide) dJx4a65c_grow_92f84_44 ⟨a2, rfl, wd_eq, (wd_ne (by omega)).trans (mv_to.trans e2), fun t ht => (wd_ne (by omega)).trans ((mv_ne (by omega) (by omega)).trans (ef2 t (by omega)))⟩

set_option maxHeartbeats 4000000 in
set_option maxRecDepth 20000 in
theorem c_growA0 {l : Launch} {g : cx_G} {w : wd_T} {tl al : Nat} {m9 : Int32} (h0 : w tl = some (al, ob 9 [.int m9, .ref (gsE g), .int (nI 0)])) : Mt l g yJx4a65c_grow_d5877 cJx4a65c_grow_d5877 1 (some (.array (.object "java/lang/Object"))) 4 1 460 w [.ref al] (fun v w' => ∃ ae, v = some (.ref ae) ∧ w' tl = some (al, ob 9 [.int m9, .ref ae, .int (nI 0)]) ∧ w' (tl + 1) = some (ae, aO g 10 (fun _ => none)) ∧ Fr w w' tl (tl + 3)) := by
  refine mt_of RJx4a65c "grow" rfl rfl (by decide) (Nat.le_of_ble_eq_true rfl) [(0, .ref al)] rfl ?_
  intro k hkl C hin
  subst hkl
  refine r_aload_n C 0 dJx4a65c_grow_d5877_0 rfl rfl ?_
  refine r_aload_n C 0 dJx4a65c_grow_d5877_1 rfl rfl ?_
  refine r_get (t := tl) C koJx4a65c h0 2 (by decide) q56 rfl rfl dJx4a65c_grow_d5877_2 rfl ?_
  refine r_iconst C (nI 1) dJx4a65c_grow_d5877_5 (by decide) rfl ?_
  refine r_iadd C dJx4a65c_grow_d5877_6 rfl ?_
  refine r_ti (show ((nI 0) + (nI 1) : Int32) = nI (0 + 1) from nI_add 0 1) ?_
  refine r_ti (show (nI (0 + 1) : Int32) = nI 1 from rfl) ?_
  refine r_callV (t := tl) (As := [.int (nI 1)]) (st := []) C koJx4a65c h0 (c_growA h0) q224 q221 q223 qp3 q5 rfl ⟨by decide, by decide⟩ (show (parseMethodDescriptor yJx4a65c_grow_92f84.desc).map (fun d => d.parameters.length) = some 1 by decide +kernel) (by decide) (by decide) (by decide) (by decide) (Nat.le_of_ble_eq_true rfl) rfl dJx4a65c_grow_d5877_7 rfl ?_
  rintro v9 w1 ⟨ae, rfl, e0, e1, ef⟩
  show V g k 1 w1 1 460 (kQ g k (fun v w' => ∃ ae, v = some (.ref ae) ∧ w' tl = some (al, ob 9 [.int m9, .ref ae, .int (nI 0)]) ∧ w' (tl + 1) = some (ae, aO g 10 (fun _ => none)) ∧ Fr w w' tl (tl + 3)) 1 460) 10 [(0, .ref al)] [.ref ae]
  exact r_aret C rfl (Or.inr ⟨_, rfl⟩) (Or.inr ⟨_, rfl⟩) (by decide) (by decide) dJx4a65c_grow_d5877_10 ⟨ae, rfl, e0, e1, ef⟩

set_option maxHeartbeats 4000000 in
set_option maxRecDepth 20000 in
theorem c_growB0 {l : Launch} {g : cx_G} {w : wd_T} {tl al ae n : Nat} {m9 : Int32} {fq : Nat → Option Nat} {el tg : Nat → Nat} (h0 : w tl = some (al, ob 9 [.int m9, .ref ae, .int (nI n)])) (h1 : w (tl + 1) = some (ae, aO g n fq)) (hn : 10 ≤ n) (hn2 : n ≤ 300) (hel : ∀ j, j < n → fq j = some (el j)) (hat : ∀ j, j < n → el_at w (tg j) (el j) ∧ (tg j < tl ∨ tl + 3 ≤ tg j)) : Mt l g yJx4a65c_grow_d5877 cJx4a65c_grow_d5877 1 (some (.array (.object "java/lang/Object"))) 4 1 460 w [.ref al] (fun v w' => ∃ a2, v = some (.ref a2) ∧ w' tl = some (al, ob 9 [.int m9, .ref a2, .int (nI n)]) ∧ w' (tl + 1) = some (a2, aO g (n + n / 2) (va_cpy fq (fun _ => none) 0 0 n)) ∧ Fr w w' tl (tl + 3)) := by
  refine mt_of RJx4a65c "grow" rfl rfl (by decide) (Nat.le_of_ble_eq_true rfl) [(0, .ref al)] rfl ?_
  intro k hkl C hin
  subst hkl
  refine r_aload_n C 0 dJx4a65c_grow_d5877_0 rfl rfl ?_
  refine r_aload_n C 0 dJx4a65c_grow_d5877_1 rfl rfl ?_
  refine r_get (t := tl) C koJx4a65c h0 2 (by decide) q56 rfl rfl dJx4a65c_grow_d5877_2 rfl ?_
  refine r_iconst C (nI 1) dJx4a65c_grow_d5877_5 (by decide) rfl ?_
  refine r_iadd C dJx4a65c_grow_d5877_6 rfl ?_
  refine r_ti (show ((nI n) + (nI 1) : Int32) = nI (n + 1) from nI_add n 1) ?_
  refine r_callV (t := tl) (As := [.int (nI (n + 1))]) (st := []) C koJx4a65c h0 (c_growB h0 h1 hn hn2 hel hat) q224 q221 q223 qp3 q5 rfl ⟨by decide, by decide⟩ (show (parseMethodDescriptor yJx4a65c_grow_92f84.desc).map (fun d => d.parameters.length) = some 1 by decide +kernel) (by decide) (by decide) (by decide) (by decide) (Nat.le_of_ble_eq_true rfl) rfl dJx4a65c_grow_d5877_7 rfl ?_
  rintro v9 w1 ⟨a2, rfl, e0, e1, ef⟩
  show V g k 1 w1 1 460 (kQ g k (fun v w' => ∃ a2, v = some (.ref a2) ∧ w' tl = some (al, ob 9 [.int m9, .ref a2, .int (nI n)]) ∧ w' (tl + 1) = some (a2, aO g (n + n / 2) (va_cpy fq (fun _ => none) 0 0 n)) ∧ Fr w w' tl (tl + 3)) 1 460) 10 [(0, .ref al)] [.ref a2]
  exact r_aret C rfl (Or.inr ⟨_, rfl⟩) (Or.inr ⟨_, rfl⟩) (by decide) (by decide) dJx4a65c_grow_d5877_10 ⟨a2, rfl, e0, e1, ef⟩

set_option maxHeartbeats 4000000 in
set_option maxRecDepth 20000 in
theorem c_add3C {l : Launch} {g : cx_G} {w : wd_T} {tl al ae n cap x tx : Nat} {m9 : Int32} {fq : Nat → Option Nat} {el : Nat → Nat} (h0 : w tl = some (al, ob 9 [.int m9, .ref ae, .int (nI n)])) (h1 : w (tl + 1) = some (ae, aO g cap fq)) (hn : n < cap) (hc : 10 ≤ cap) (hc2 : cap ≤ 2 * n + 10) (hn2 : n ≤ 300) (hel : ∀ j, j < n → fq j = some (el j)) (hx : el_at w tx x) (htx : tx < tl ∨ tl + 3 ≤ tx) : Mt l g yJx4a65c_add_72be8 cJx4a65c_add_72be8 4 none 5 1 460 w [.ref al, .ref x, .ref ae, .int (nI n)] (fun v w' => v = none ∧ (∃ (ae cap : Nat) (fq : Nat → Option Nat), w' tl = some (al, ob 9 [.int m9, .ref ae, .int (nI (n + 1))]) ∧ w' (tl + 1) = some (ae, aO g cap fq) ∧ n + 1 ≤ cap ∧ 10 ≤ cap ∧ cap ≤ 2 * (n + 1) + 10 ∧ ∀ j, j < n + 1 → fq j = some (va_up el n x j)) ∧ Fr w w' tl (tl + 3)) := by
  refine mt_of RJx4a65c "add" rfl rfl (by decide) (Nat.le_of_ble_eq_true rfl) [(0, .ref al), (1, .ref x), (2, .ref ae), (3, .int (nI n))] rfl ?_
  intro k hkl C hin
  subst hkl
  refine r_iload_n C 3 dJx4a65c_add_72be8_0 rfl rfl ?_
  refine r_aload_n C 2 dJx4a65c_add_72be8_1 rfl rfl ?_
  refine r_alen (t := (tl + 1)) C h1 dJx4a65c_add_72be8_2 rfl ?_
  refine r_icmp_ne_t (tgt := 11) C dJx4a65c_add_72be8_3 (by decide) (fun z => absurd ((nI_eq (a := n) (b := cap) (by omega) (by omega)).mp z) (by omega)) ?_
  refine r_aload_n C 2 dJx4a65c_add_72be8_11 rfl rfl ?_
  refine r_iload_n C 3 dJx4a65c_add_72be8_12 rfl rfl ?_
  refine r_aload_n C 1 dJx4a65c_add_72be8_13 rfl rfl ?_
  refine r_aast (t := tl + 1) (w' := wd_set w (tl + 1) ae (aO g cap (va_up fq n (some x)))) C h1 hx.ok n rfl (by omega) (by omega) dJx4a65c_add_72be8_14 rfl rfl ?_
  refine r_aload_n C 0 dJx4a65c_add_72be8_15 rfl rfl ?_
  refine r_iload_n C 3 dJx4a65c_add_72be8_16 rfl rfl ?_
  refine r_iconst C (nI 1) dJx4a65c_add_72be8_17 (by decide) rfl ?_
  refine r_iadd C dJx4a65c_add_72be8_18 rfl ?_
  refine r_ti (show ((nI n) + (nI 1) : Int32) = nI (n + 1) from nI_add n 1) ?_
  refine r_put (t := tl) (w' := wd_set (wd_set w (tl + 1) ae (aO g cap (va_up fq n (some x)))) tl al (ob 9 [.int m9, .ref ae, .int (nI (n + 1))])) C koJx4a65c ((wd_ne (by omega)).trans h0) 2 (by decide) q56 rfl rfl rfl rfl (Nat.le_of_ble_eq_true rfl) dJx4a65c_add_72be8_19 rfl rfl ?_
  refine r_vret C rfl (by decide) (by decide) dJx4a65c_add_72be8_22 ⟨rfl, ⟨_, _, _, wd_eq, (wd_ne (by omega)).trans wd_eq, by omega, hc, by omega, ?_⟩, (Fr.set (by omega) (by omega)).trans (Fr.set (by omega) (by omega))⟩
  intro j hj
  by_cases z : j = n
  · rw [z]; unfold va_up; rw [if_pos rfl, if_pos rfl]
  · unfold va_up; rw [if_neg z, if_neg z]; exact hel j (by omega)

set_option maxHeartbeats 4000000 in
set_option maxRecDepth 20000 in
theorem c_add3B {l : Launch} {g : cx_G} {w : wd_T} {tl al ae n : Nat} {m9 : Int32} {fq : Nat → Option Nat} {el tg : Nat → Nat} (h0 : w tl = some (al, ob 9 [.int m9, .ref ae, .int (nI n)])) (h1 : w (tl + 1) = some (ae, aO g n fq)) (hn : 10 ≤ n) (hn2 : n ≤ 300) (hel : ∀ j, j < n → fq j = some (el j)) (hat : ∀ j, j < n → el_at w (tg j) (el j) ∧ (tg j < tl ∨ tl + 3 ≤ tg j)) {x tx : Nat} (hx : el_at w tx x) (htx : tx < tl ∨ tl + 3 ≤ tx) : Mt l g yJx4a65c_add_72be8 cJx4a65c_add_72be8 4 none 5 1 460 w [.ref al, .ref x, .ref ae, .int (nI n)] (fun v w' => v = none ∧ (∃ (ae cap : Nat) (fq : Nat → Option Nat), w' tl = some (al, ob 9 [.int m9, .ref ae, .int (nI (n + 1))]) ∧ w' (tl + 1) = some (ae, aO g cap fq) ∧ n + 1 ≤ cap ∧ 10 ≤ cap ∧ cap ≤ 2 * (n + 1) + 10 ∧ ∀ j, j < n + 1 → fq j = some (va_up el n x j)) ∧ Fr w w' tl (tl + 3)) := by
  refine mt_of RJx4a65c "add" rfl rfl (by decide) (Nat.le_of_ble_eq_true rfl) [(0, .ref al), (1, .ref x), (2, .ref ae), (3, .int (nI n))] rfl ?_
  intro k hkl C hin
  subst hkl
  refine r_iload_n C 3 dJx4a65c_add_72be8_0 rfl rfl ?_
  refine r_aload_n C 2 dJx4a65c_add_72be8_1 rfl rfl ?_
  refine r_alen (t := (tl + 1)) C h1 dJx4a65c_add_72be8_2 rfl ?_
  refine r_icmp_ne_f (tgt := 11) C dJx4a65c_add_72be8_3 (by decide) rfl ((nI_eq (a := n) (b := n) (by omega) (by omega)).mpr (by omega)) ?_
  refine r_aload_n C 0 dJx4a65c_add_72be8_6 rfl rfl ?_
  refine r_callV (t := tl) (As := []) (st := []) C koJx4a65c h0 (c_growB0 h0 h1 hn hn2 hel hat) q220 q217 q219 qp2 q5 rfl ⟨by decide, by decide⟩ (show (parseMethodDescriptor yJx4a65c_grow_d5877.desc).map (fun d => d.parameters.length) = some 0 by decide +kernel) (by decide) (by decide) (by decide) (by decide) (Nat.le_of_ble_eq_true rfl) rfl dJx4a65c_add_72be8_7 rfl ?_
  rintro v9 w5 ⟨a2, rfl, e0, e1, ef⟩
  show V g k 4 w5 1 460 (kQ g k (fun v w' => v = none ∧ (∃ (ae cap : Nat) (fq : Nat → Option Nat), w' tl = some (al, ob 9 [.int m9, .ref ae, .int (nI (n + 1))]) ∧ w' (tl + 1) = some (ae, aO g cap fq) ∧ n + 1 ≤ cap ∧ 10 ≤ cap ∧ cap ≤ 2 * (n + 1) + 10 ∧ ∀ j, j < n + 1 → fq j = some (va_up el n x j)) ∧ Fr w w' tl (tl + 3)) 1 460) 10 [(0, .ref al), (1, .ref x), (2, .ref ae), (3, .int (nI n))] [.ref a2]
  refine r_astore_n (lv' := [(2, .ref a2), (0, .ref al), (1, .ref x), (3, .int (nI n))]) C dJx4a65c_add_72be8_10 (by decide) rfl rfl ?_
  refine r_aload_n C 0 dJx4a65c_add_72be8_11 rfl rfl ?_
  refine r_iload_n C 3 dJx4a65c_add_72be8_12 rfl rfl ?_
  refine r_aload_n C 2 dJx4a65c_add_72be8_13 rfl rfl ?_
  refine r_aast (t := tl + 1) (w' := wd_set w5 (tl + 1) a2 (aO g (n + n / 2) (va_up (va_cpy fq (fun _ => none) 0 0 n) n (some x)))) C e1 (hx.kept (ef tx htx)).ok n rfl (by omega) (by omega) dJx4a65c_add_72be8_14 rfl rfl ?_
  refine r_aload_n C 1 dJx4a65c_add_72be8_15 rfl rfl ?_
  refine r_iload_n C 3 dJx4a65c_add_72be8_16 rfl rfl ?_
  refine r_iconst C (nI 1) dJx4a65c_add_72be8_17 (by decide) rfl ?_
  refine r_iadd C dJx4a65c_add_72be8_18 rfl ?_
  refine r_ti (show ((nI n) + (nI 1) : Int32) = nI (n + 1) from nI_add n 1) ?_
  refine r_put (t := tl) (w' := wd_set (wd_set w5 (tl + 1) a2 (aO g (n + n / 2) (va_up (va_cpy fq (fun _ => none) 0 0 n) n (some x)))) tl al (ob 9 [.int m9, .ref a2, .int (nI (n + 1))])) C koJx4a65c ((wd_ne (by omega)).trans e0) 2 (by decide) q56 rfl rfl rfl rfl (Nat.le_of_ble_eq_true rfl) dJx4a65c_add_72be8_19 rfl rfl ?_
  refine r_vret C rfl (by decide) (by decide) dJx4a65c_add_72be8_22 ⟨rfl, ⟨_, _, _, wd_eq, (wd_ne (by omega)).trans wd_eq, by omega, by omega, by omega, ?_⟩, ef.trans ((Fr.set (by omega) (by omega)).trans (Fr.set (by omega) (by omega)))⟩
  intro j hj
  by_cases z : j = n
  · rw [z]; unfold va_up; rw [if_pos rfl, if_pos rfl]
  · unfold va_up; rw [if_neg z, if_neg z, pk_cpy_in (Nat.zero_le j) (by omega), Nat.zero_add, Nat.sub_zero]; exact hel j (by omega)

set_option maxHeartbeats 4000000 in
set_option maxRecDepth 20000 in
theorem c_add3A {l : Launch} {g : cx_G} {w : wd_T} {tl al x tx : Nat} {m9 : Int32} {el : Nat → Nat} (h0 : w tl = some (al, ob 9 [.int m9, .ref (gsE g), .int (nI 0)])) (hx : el_at w tx x) (htx : tx < tl ∨ tl + 3 ≤ tx) : Mt l g yJx4a65c_add_72be8 cJx4a65c_add_72be8 4 none 5 1 460 w [.ref al, .ref x, .ref (gsE g), .int (nI 0)] (fun v w' => v = none ∧ (∃ (ae cap : Nat) (fq : Nat → Option Nat), w' tl = some (al, ob 9 [.int m9, .ref ae, .int (nI (0 + 1))]) ∧ w' (tl + 1) = some (ae, aO g cap fq) ∧ 0 + 1 ≤ cap ∧ 10 ≤ cap ∧ cap ≤ 2 * (0 + 1) + 10 ∧ ∀ j, j < 0 + 1 → fq j = some (va_up el 0 x j)) ∧ Fr w w' tl (tl + 3)) := by
  refine mt_of RJx4a65c "add" rfl rfl (by decide) (Nat.le_of_ble_eq_true rfl) [(0, .ref al), (1, .ref x), (2, .ref (gsE g)), (3, .int (nI 0))] rfl ?_
  intro k hkl C hin
  subst hkl
  refine r_iload_n C 3 dJx4a65c_add_72be8_0 rfl rfl ?_
  refine r_aload_n C 2 dJx4a65c_add_72be8_1 rfl rfl ?_
  refine r_slen C (ks_Et C) dJx4a65c_add_72be8_2 rfl ?_
  refine r_icmp_ne_f (tgt := 11) C dJx4a65c_add_72be8_3 (by decide) rfl ((nI_eq (a := 0) (b := 0) (by omega) (by omega)).mpr (by omega)) ?_
  refine r_aload_n C 0 dJx4a65c_add_72be8_6 rfl rfl ?_
  refine r_callV (t := tl) (As := []) (st := []) C koJx4a65c h0 (c_growA0 h0) q220 q217 q219 qp2 q5 rfl ⟨by decide, by decide⟩ (show (parseMethodDescriptor yJx4a65c_grow_d5877.desc).map (fun d => d.parameters.length) = some 0 by decide +kernel) (by decide) (by decide) (by decide) (by decide) (Nat.le_of_ble_eq_true rfl) rfl dJx4a65c_add_72be8_7 rfl ?_
  rintro v9 w5 ⟨a2, rfl, e0, e1, ef⟩
  show V g k 4 w5 1 460 (kQ g k (fun v w' => v = none ∧ (∃ (ae cap : Nat) (fq : Nat → Option Nat), w' tl = some (al, ob 9 [.int m9, .ref ae, .int (nI (0 + 1))]) ∧ w' (tl + 1) = some (ae, aO g cap fq) ∧ 0 + 1 ≤ cap ∧ 10 ≤ cap ∧ cap ≤ 2 * (0 + 1) + 10 ∧ ∀ j, j < 0 + 1 → fq j = some (va_up el 0 x j)) ∧ Fr w w' tl (tl + 3)) 1 460) 10 [(0, .ref al), (1, .ref x), (2, .ref (gsE g)), (3, .int (nI 0))] [.ref a2]
  refine r_astore_n (lv' := [(2, .ref a2), (0, .ref al), (1, .ref x), (3, .int (nI 0))]) C dJx4a65c_add_72be8_10 (by decide) rfl rfl ?_
  refine r_aload_n C 0 dJx4a65c_add_72be8_11 rfl rfl ?_
  refine r_iload_n C 3 dJx4a65c_add_72be8_12 rfl rfl ?_
  refine r_aload_n C 2 dJx4a65c_add_72be8_13 rfl rfl ?_
  refine r_aast (t := tl + 1) (w' := wd_set w5 (tl + 1) a2 (aO g 10 (va_up (fun _ => none) 0 (some x)))) C e1 (hx.kept (ef tx htx)).ok 0 rfl (by decide) (by decide) dJx4a65c_add_72be8_14 rfl rfl ?_
  refine r_aload_n C 1 dJx4a65c_add_72be8_15 rfl rfl ?_
  refine r_iload_n C 3 dJx4a65c_add_72be8_16 rfl rfl ?_
  refine r_iconst C (nI 1) dJx4a65c_add_72be8_17 (by decide) rfl ?_
  refine r_iadd C dJx4a65c_add_72be8_18 rfl ?_
  refine r_ti (show ((nI 0) + (nI 1) : Int32) = nI (0 + 1) from nI_add 0 1) ?_
  refine r_put (t := tl) (w' := wd_set (wd_set w5 (tl + 1) a2 (aO g 10 (va_up (fun _ => none) 0 (some x)))) tl al (ob 9 [.int m9, .ref a2, .int (nI (0 + 1))])) C koJx4a65c ((wd_ne (by omega)).trans e0) 2 (by decide) q56 rfl rfl rfl rfl (Nat.le_of_ble_eq_true rfl) dJx4a65c_add_72be8_19 rfl rfl ?_
  refine r_vret C rfl (by decide) (by decide) dJx4a65c_add_72be8_22 ⟨rfl, ⟨_, _, _, wd_eq, (wd_ne (by omega)).trans wd_eq, by omega, by omega, by omega, ?_⟩, ef.trans ((Fr.set (by omega) (by omega)).trans (Fr.set (by omega) (by omega)))⟩
  intro j hj
  obtain rfl : j = 0 := by omega
  unfold va_up; rw [if_pos rfl, if_pos rfl]

theorem vup_eq {α : Type} {f : Nat → α} {k : Nat} {x : α} : va_up f k x k = x := if_pos rfl
theorem vup_ne {α : Type} {f : Nat → α} {k j : Nat} {x : α} (h : j ≠ k) : va_up f k x j = f j := if_neg h
set_option maxHeartbeats 4000000 in
set_option maxRecDepth 20000 in
theorem c_addC {l : Launch} {g : cx_G} {w : wd_T} {tl al ae n cap x tx : Nat} {m9 : Int32} {fq : Nat → Option Nat} {el tg : Nat → Nat} (h0 : w tl = some (al, ob 9 [.int m9, .ref ae, .int (nI n)])) (h1 : w (tl + 1) = some (ae, aO g cap fq)) (hn : n ≤ cap) (hc : 10 ≤ cap) (hc2 : cap ≤ 2 * n + 10) (hn2 : n ≤ 300) (hel : ∀ j, j < n → fq j = some (el j)) (hat : ∀ j, j < n → el_at w (tg j) (el j) ∧ (tg j < tl ∨ tl + 3 ≤ tg j)) (hx : el_at w tx x) (htx : tx < tl ∨ tl + 3 ≤ tx) : Mt l g yJx4a65c_add_9ea2d cJx4a65c_add_9ea2d 2 (some .boolean) 6 1 460 w [.ref al, .ref x] (fun v w' => v = some (.int (nI 1)) ∧ LsAt g w' tl al (n + 1) (va_up el n x) (va_up tg n tx) ∧ Fr w w' tl (tl + 3)) := by
  refine mt_of RJx4a65c "add" rfl rfl (by decide) (Nat.le_of_ble_eq_true rfl) [(0, .ref al), (1, .ref x)] rfl ?_
  intro k hkl C hin
  subst hkl
  refine r_aload_n C 0 dJx4a65c_add_9ea2d_0 rfl rfl ?_
  refine r_dup C dJx4a65c_add_9ea2d_1 rfl rfl ?_
  refine r_getS (t := tl) C koJx4a65c h0 0 (by decide) q58 q59 rfl dJx4a65c_add_9ea2d_2 rfl ?_
  refine r_iconst C (nI 1) dJx4a65c_add_9ea2d_5 (by decide) rfl ?_
  refine r_iadd C dJx4a65c_add_9ea2d_6 rfl ?_
  refine r_putS (t := tl) (w' := wd_set w tl al (ob 9 [.int (m9 + (nI 1)), .ref ae, .int (nI n)])) C koJx4a65c h0 0 (by decide) q58 q59 rfl rfl rfl (Nat.le_of_ble_eq_true rfl) dJx4a65c_add_9ea2d_7 rfl rfl ?_
  refine r_aload_n C 0 dJx4a65c_add_9ea2d_10 rfl rfl ?_
  refine r_aload_n C 1 dJx4a65c_add_9ea2d_11 rfl rfl ?_
  refine r_aload_n C 0 dJx4a65c_add_9ea2d_12 rfl rfl ?_
  refine r_get (t := tl) C koJx4a65c wd_eq 1 (by decide) q55 rfl rfl dJx4a65c_add_9ea2d_13 rfl ?_
  refine r_aload_n C 0 dJx4a65c_add_9ea2d_16 rfl rfl ?_
  refine r_get (t := tl) C koJx4a65c wd_eq 2 (by decide) q56 rfl rfl dJx4a65c_add_9ea2d_17 rfl ?_
  have k1 : Fr w (wd_set w tl al (ob 9 [.int (m9 + (nI 1)), .ref ae, .int (nI n)])) tl (tl + 3) := Fr.set (by omega) (by omega)
  have kx : el_at (wd_set w tl al (ob 9 [.int (m9 + (nI 1)), .ref ae, .int (nI n)])) tx x := hx.kept (k1 tx htx)
  rcases Nat.lt_or_ge n cap with hlt | hge
  · refine r_callV (t := tl) (As := [.ref x, .ref ae, .int (nI n)]) (st := []) C koJx4a65c wd_eq (c_add3C (el := el) wd_eq ((wd_ne (by omega)).trans h1) hlt hc hc2 hn2 hel kx htx) q216 q213 q215 qp1 q5 rfl ⟨by decide, by decide⟩ (show (parseMethodDescriptor yJx4a65c_add_72be8.desc).map (fun d => d.parameters.length) = some 3 by decide +kernel) (by decide) (by decide) (by decide) (by decide) (Nat.le_of_ble_eq_true rfl) rfl dJx4a65c_add_9ea2d_20 rfl ?_
    rintro v9 w5 ⟨rfl, ⟨ae2, cap2, fq2, e0, e1, e2, e3, e4, e5⟩, ef⟩
    show V g k 2 w5 1 460 (kQ g k (fun v w' => v = some (.int (nI 1)) ∧ LsAt g w' tl al (n + 1) (va_up el n x) (va_up tg n tx) ∧ Fr w w' tl (tl + 3)) 1 460) 23 [(0, .ref al), (1, .ref x)] []
    refine r_iconst C (nI 1) dJx4a65c_add_9ea2d_23 (by decide) rfl ?_
    refine r_zret C rfl rfl (by decide) (by decide) dJx4a65c_add_9ea2d_24 ⟨rfl, ⟨_, ae2, e0, Or.inr ⟨cap2, fq2, e1, e2, e3, e4, e5⟩, fun j hj => ?_⟩, k1.trans ef⟩
    by_cases z : j = n
    · rw [z, vup_eq, vup_eq]; exact ⟨kx.kept (ef tx htx), htx⟩
    · rw [vup_ne z, vup_ne z]; have q := hat j (by omega); exact ⟨q.1.kept ((k1.trans ef) _ q.2), q.2⟩
  · obtain rfl : n = cap := by omega
    refine r_callV (t := tl) (As := [.ref x, .ref ae, .int (nI n)]) (st := []) C koJx4a65c wd_eq (c_add3B wd_eq ((wd_ne (by omega)).trans h1) hc hn2 hel (fun j hj => ⟨(hat j hj).1.kept (k1 _ (hat j hj).2), (hat j hj).2⟩) kx htx) q216 q213 q215 qp1 q5 rfl ⟨by decide, by decide⟩ (show (parseMethodDescriptor yJx4a65c_add_72be8.desc).map (fun d => d.parameters.length) = some 3 by decide +kernel) (by decide) (by decide) (by decide) (by decide) (Nat.le_of_ble_eq_true rfl) rfl dJx4a65c_add_9ea2d_20 rfl ?_
    rintro v9 w5 ⟨rfl, ⟨ae2, cap2, fq2, e0, e1, e2, e3, e4, e5⟩, ef⟩
    show V g k 2 w5 1 460 (kQ g k (fun v w' => v = some (.int (nI 1)) ∧ LsAt g w' tl al (n + 1) (va_up el n x) (va_up tg n tx) ∧ Fr w w' tl (tl + 3)) 1 460) 23 [(0, .ref al), (1, .ref x)] []
    refine r_iconst C (nI 1) dJx4a65c_add_9ea2d_23 (by decide) rfl ?_
    refine r_zret C rfl rfl (by decide) (by decide) dJx4a65c_add_9ea2d_24 ⟨rfl, ⟨_, ae2, e0, Or.inr ⟨cap2, fq2, e1, e2, e3, e4, e5⟩, fun j hj => ?_⟩, k1.trans ef⟩
    by_cases z : j = n
    · rw [z, vup_eq, vup_eq]; exact ⟨kx.kept (ef tx htx), htx⟩
    · rw [vup_ne z, vup_ne z]; have q := hat j (by omega); exact ⟨q.1.kept ((k1.trans ef) _ q.2), q.2⟩

set_option maxHeartbeats 4000000 in
set_option maxRecDepth 20000 in
theorem c_addA {l : Launch} {g : cx_G} {w : wd_T} {tl al x tx : Nat} {m9 : Int32} {el tg : Nat → Nat} (h0 : w tl = some (al, ob 9 [.int m9, .ref (gsE g), .int (nI 0)])) (hx : el_at w tx x) (htx : tx < tl ∨ tl + 3 ≤ tx) : Mt l g yJx4a65c_add_9ea2d cJx4a65c_add_9ea2d 2 (some .boolean) 6 1 460 w [.ref al, .ref x] (fun v w' => v = some (.int (nI 1)) ∧ LsAt g w' tl al 1 (va_up el 0 x) (va_up tg 0 tx) ∧ Fr w w' tl (tl + 3)) := by
  refine mt_of RJx4a65c "add" rfl rfl (by decide) (Nat.le_of_ble_eq_true rfl) [(0, .ref al), (1, .ref x)] rfl ?_
  intro k hkl C hin
  subst hkl
  refine r_aload_n C 0 dJx4a65c_add_9ea2d_0 rfl rfl ?_
  refine r_dup C dJx4a65c_add_9ea2d_1 rfl rfl ?_
  refine r_getS (t := tl) C koJx4a65c h0 0 (by decide) q58 q59 rfl dJx4a65c_add_9ea2d_2 rfl ?_
  refine r_iconst C (nI 1) dJx4a65c_add_9ea2d_5 (by decide) rfl ?_
  refine r_iadd C dJx4a65c_add_9ea2d_6 rfl ?_
  refine r_putS (t := tl) (w' := wd_set w tl al (ob 9 [.int (m9 + (nI 1)), .ref (gsE g), .int (nI 0)])) C koJx4a65c h0 0 (by decide) q58 q59 rfl rfl rfl (Nat.le_of_ble_eq_true rfl) dJx4a65c_add_9ea2d_7 rfl rfl ?_
  refine r_aload_n C 0 dJx4a65c_add_9ea2d_10 rfl rfl ?_
  refine r_aload_n C 1 dJx4a65c_add_9ea2d_11 rfl rfl ?_
  refine r_aload_n C 0 dJx4a65c_add_9ea2d_12 rfl rfl ?_
  refine r_get (t := tl) C koJx4a65c wd_eq 1 (by decide) q55 rfl rfl dJx4a65c_add_9ea2d_13 rfl ?_
  refine r_aload_n C 0 dJx4a65c_add_9ea2d_16 rfl rfl ?_
  refine r_get (t := tl) C koJx4a65c wd_eq 2 (by decide) q56 rfl rfl dJx4a65c_add_9ea2d_17 rfl ?_
  have k1 : Fr w (wd_set w tl al (ob 9 [.int (m9 + (nI 1)), .ref (gsE g), .int (nI 0)])) tl (tl + 3) := Fr.set (by omega) (by omega)
  have kx : el_at (wd_set w tl al (ob 9 [.int (m9 + (nI 1)), .ref (gsE g), .int (nI 0)])) tx x := hx.kept (k1 tx htx)
  refine r_callV (t := tl) (As := [.ref x, .ref (gsE g), .int (nI 0)]) (st := []) C koJx4a65c wd_eq (c_add3A (el := el) wd_eq kx htx) q216 q213 q215 qp1 q5 rfl ⟨by decide, by decide⟩ (show (parseMethodDescriptor yJx4a65c_add_72be8.desc).map (fun d => d.parameters.length) = some 3 by decide +kernel) (by decide) (by decide) (by decide) (by decide) (Nat.le_of_ble_eq_true rfl) rfl dJx4a65c_add_9ea2d_20 rfl ?_
  rintro v9 w5 ⟨rfl, ⟨ae2, cap2, fq2, e0, e1, e2, e3, e4, e5⟩, ef⟩
  show V g k 2 w5 1 460 (kQ g k (fun v w' => v = some (.int (nI 1)) ∧ LsAt g w' tl al 1 (va_up el 0 x) (va_up tg 0 tx) ∧ Fr w w' tl (tl + 3)) 1 460) 23 [(0, .ref al), (1, .ref x)] []
  refine r_iconst C (nI 1) dJx4a65c_add_9ea2d_23 (by decide) rfl ?_
  refine r_zret C rfl rfl (by decide) (by decide) dJx4a65c_add_9ea2d_24 ⟨rfl, ⟨_, ae2, e0, Or.inr ⟨cap2, fq2, e1, e2, e3, e4, e5⟩, fun j hj => ?_⟩, k1.trans ef⟩
  by_cases z : j = 0
  · rw [z, vup_eq, vup_eq]; exact ⟨kx.kept (ef tx htx), htx⟩
  · exact absurd z (by omega)

theorem c_ALadd {l : Launch} {g : cx_G} {w : wd_T} {tl al n x tx : Nat} {el tg : Nat → Nat} (h : LsAt g w tl al n el tg) (hn : n ≤ 300) (hx : el_at w tx x) (htx : tx < tl ∨ tl + 3 ≤ tx) : Mt l g yJx4a65c_add_9ea2d cJx4a65c_add_9ea2d 2 (some .boolean) 6 1 460 w [.ref al, .ref x] (fun v w' => v = some (.int (nI 1)) ∧ LsAt g w' tl al (n + 1) (va_up el n x) (va_up tg n tx) ∧ Fr w w' tl (tl + 3)) := by
  obtain ⟨m9, ae, e0, e1, e2⟩ := h
  rcases e1 with ⟨rfl, rfl⟩ | ⟨cap, fq, e1, e3, e4, e5, e6⟩
  · exact c_addA e0 hx htx
  · exact c_addC e0 e1 e3 e4 e5 hn e6 e2 hx htx
theorem LsAt.get {g : cx_G} {w : wd_T} {tl al n : Nat} {el tg : Nat → Nat} (h : LsAt g w tl al n el tg) : ∃ (m9 : Int32) (ae : Nat), w tl = some (al, ob 9 [.int m9, .ref ae, .int (nI n)]) := by
  obtain ⟨m9, ae, e0, -⟩ := h
  exact ⟨m9, ae, e0⟩
end
section
/-! Row, Ticket, Tare: the leaves of the class -/
/-- a counter that falls to -1 -/
def kk9 : Nat → Int32
  | 0 => -1
  | r + 1 => nI r
theorem kk9_dec (r : Nat) : nI r + Int32.ofInt (-1) = kk9 r := by
  cases r with
  | zero => decide
  | succ r => exact pk_m1 r
/-- byte k of a long, the lowest first -/
def byL (v : Int64) (k : Nat) : Int32 := (v.toUInt64 >>> ((nI (8 * k)).toInt64.toUInt64 &&& Int64.toUInt64 63)).toInt64.toInt32.toInt8.toInt32
/-- c of wd bytes of a number laid at n, the highest first -/
def wrF (f : Nat → Int32) (n wd c : Nat) (v : Int64) : Nat → Int32 := fun j => if n ≤ j ∧ j < n + c then byL v (wd - 1 - (j - n)) else f j
theorem wrF_0 {f : Nat → Int32} {n wd : Nat} {v : Int64} : wrF f n wd 0 v = f := by
  funext j
  exact if_neg (by omega)
theorem wrF_s {f : Nat → Int32} {n wd c : Nat} {v : Int64} : upd (wrF f n wd c v) (n + c) (byL v (wd - 1 - c)) = wrF f n wd (c + 1) v := by
  funext j
  unfold upd wrF
  by_cases h : j = n + c
  · subst h
    rw [if_pos rfl, if_pos (by omega), Nat.add_sub_cancel_left]
  · rw [if_neg h]
    by_cases h2 : n ≤ j ∧ j < n + c
    · rw [if_pos h2, if_pos (by omega)]
    · rw [if_neg h2, if_neg (by omega)]

set_option maxHeartbeats 4000000 in
set_option maxRecDepth 20000 in
theorem c_RowInit {l : Launch} {g : cx_G} {w : wd_T} {a t : Nat} {dy : Int32} (h0 : w t = some (a, ob 2 [.null, .int 0, .int 0])) : Mt l g yX2_init cX2_init 2 none 1 1 73 w [.ref a, .int dy] (fun v w' => v = none ∧ (∃ ab, w' t = some (a, ob 2 [.ref ab, .int dy, .int (nI 0)]) ∧ w' (t + 1) = some (ab, aB g 73 (fun _ => 0))) ∧ Fr w w' t (t + 2)) := by
  refine mt_of RX2 "<init>" rfl rfl (by decide) (Nat.le_of_ble_eq_true rfl) [(0, .ref a), (1, .int dy)] rfl ?_
  intro k hkl C hin
  subst hkl
  refine r_aload_n C 0 dX2_init_0 rfl rfl ?_
  refine r_objI C q317 q33 q34 (by decide) (Nat.le_of_ble_eq_true rfl) dX2_init_1 rfl ?_
  refine r_aload_n C 0 dX2_init_4 rfl rfl ?_
  refine r_bipush C (nI 73) dX2_init_5 (by decide) rfl ?_
  refine r_newb C 73 rfl (by decide) q101 (t + 1) (by decide) (by decide) dX2_init_7 rfl (fun ab => ?_)
  refine r_putF (t := t) (w' := wd_set (wd_set w (t + 1) ab (aB g 73 (fun _ => 0))) t a (ob 2 [.ref ab, .int 0, .int 0])) C koX2 ((wd_ne (by omega)).trans h0) 0 (by decide) q318 rfl rfl hin rfl rfl rfl (Nat.le_of_ble_eq_true rfl) dX2_init_9 rfl rfl ?_
  refine r_aload_n C 0 dX2_init_12 rfl rfl ?_
  refine r_iconst C (nI 0) dX2_init_13 (by decide) rfl ?_
  refine r_put (t := t) (w' := wd_set (wd_set w (t + 1) ab (aB g 73 (fun _ => 0))) t a (ob 2 [.ref ab, .int 0, .int (nI 0)])) C koX2 wd_eq 2 (by decide) q322 rfl rfl rfl rfl (Nat.le_of_ble_eq_true rfl) dX2_init_14 rfl wd_ss ?_
  refine r_aload_n C 0 dX2_init_17 rfl rfl ?_
  refine r_iload_n C 1 dX2_init_18 rfl rfl ?_
  refine r_putF (t := t) (w' := wd_set (wd_set w (t + 1) ab (aB g 73 (fun _ => 0))) t a (ob 2 [.ref ab, .int dy, .int (nI 0)])) C koX2 wd_eq 1 (by decide) q320 rfl rfl hin rfl rfl rfl (Nat.le_of_ble_eq_true rfl) dX2_init_19 rfl wd_ss ?_
  refine r_vret C rfl (by decide) (by decide) dX2_init_22 ⟨rfl, ⟨_, wd_eq, ((wd_ne (by omega)).trans wd_eq)⟩, fun u hu => ?_⟩
  simp only [wd_set]
  rw [if_neg (by omega), if_neg (by omega)]

set_option maxHeartbeats 4000000 in
set_option maxRecDepth 20000 in
theorem c_RowWrite {l : Launch} {g : cx_G} {w : wd_T} {a t ab n wd : Nat} {dy : Int32} {f : Nat → Int32} {v : Int64} (h0 : w t = some (a, ob 2 [.ref ab, .int dy, .int (nI n)])) (h1 : w (t + 1) = some (ab, aB g 73 f)) (hw : 1 ≤ wd) (hw2 : wd ≤ 8) (hn : n + wd ≤ 41) : Mt l g yX2_write cX2_write 5 none 0 0 0 w [.ref a, .long v, .int (nI wd)] (fun v9 w' => v9 = none ∧ w' t = some (a, ob 2 [.ref ab, .int dy, .int (nI (n + wd))]) ∧ w' (t + 1) = some (ab, aB g 73 (wrF f n wd wd v)) ∧ Fr w w' t (t + 2)) := by
  refine mt_of RX2 "write" rfl rfl (by decide) (Nat.le_of_ble_eq_true rfl) [(0, .ref a), (1, .long v), (3, .int (nI wd))] rfl ?_
  intro k hkl C hin
  subst hkl
  refine r_iload_n C 2 dX2_write_0 rfl rfl ?_
  refine r_iconst C (nI 1) dX2_write_1 (by decide) rfl ?_
  refine r_isub C dX2_write_2 rfl ?_
  refine r_ti (show ((nI wd) - (nI 1) : Int32) = nI (wd - 1) from pk_sub (by omega)) ?_
  refine r_istore (lv' := [(4, .int (nI (wd - 1))), (0, .ref a), (1, .long v), (3, .int (nI wd))]) C dX2_write_3 (by decide) rfl rfl ?_
  have loop : ∀ (r i : Nat)  (w1 : wd_T), i + r = wd → (w1 t = some (a, ob 2 [.ref ab, .int dy, .int (nI (n + i))])) → (w1 (t + 1) = some (ab, aB g 73 (wrF f n wd i v))) → (Fr w w1 t (t + 2)) → V g k 5 w1 0 0 (kQ g k (fun v9 w' => v9 = none ∧ w' t = some (a, ob 2 [.ref ab, .int dy, .int (nI (n + wd))]) ∧ w' (t + 1) = some (ab, aB g 73 (wrF f n wd wd v)) ∧ Fr w w' t (t + 2)) 0 0) 5 [(4, .int (kk9 r)), (0, .ref a), (1, .long v), (3, .int (nI wd))] [] := by
    intro r
    induction r with
    | zero =>
      intro i  w1 hi g0 g1 gf
      refine r_iload C 0 dX2_write_5 rfl rfl ?_
      refine r_if_lt_t (tgt := 53) C dX2_write_7 (by decide) (by decide) ?_
      obtain rfl : i = wd := by omega
      exact r_vret C rfl (by decide) (by decide) dX2_write_53 ⟨rfl, g0, g1, gf⟩
    | succ r ih =>
      intro i  w1 hi g0 g1 gf
      show V g k 5 w1 0 0 (kQ g k (fun v9 w' => v9 = none ∧ w' t = some (a, ob 2 [.ref ab, .int dy, .int (nI (n + wd))]) ∧ w' (t + 1) = some (ab, aB g 73 (wrF f n wd wd v)) ∧ Fr w w' t (t + 2)) 0 0) 5 [(4, .int (nI r)), (0, .ref a), (1, .long v), (3, .int (nI wd))] []
      refine r_iload C 0 dX2_write_5 rfl rfl ?_
      refine r_if_lt_f (tgt := 53) C dX2_write_7 (by decide) rfl (nI_pos (by omega)) ?_
      refine r_aload_n C 1 dX2_write_10 rfl rfl ?_
      refine r_get (t := t) C koX2 g0 2 (by decide) q322 rfl rfl dX2_write_11 rfl ?_
      refine r_bipush C (nI 41) dX2_write_14 (by decide) rfl ?_
      refine r_icmp_ge_f (tgt := 47) C dX2_write_16 (by decide) rfl (fun z => absurd ((nI_leI (a := 41) (b := (n + i)) (by omega) (by omega)).mp z) (by omega)) ?_
      refine r_aload_n C 1 dX2_write_19 rfl rfl ?_
      refine r_get (t := t) C koX2 g0 0 (by decide) q318 rfl rfl dX2_write_20 rfl ?_
      refine r_aload_n C 1 dX2_write_23 rfl rfl ?_
      refine r_get (t := t) C koX2 g0 2 (by decide) q322 rfl rfl dX2_write_24 rfl ?_
      refine r_lload_n C 2 dX2_write_27 rfl rfl ?_
      refine r_bipush C (nI 8) dX2_write_28 (by decide) rfl ?_
      refine r_iload C 0 dX2_write_30 rfl rfl ?_
      refine r_imul C dX2_write_32 rfl ?_
      refine r_ti (show ((nI 8) * (nI r) : Int32) = nI (8 * r) from pk_mul 8 r) ?_
      refine r_lushr C dX2_write_33 rfl ?_
      refine r_l2i C dX2_write_34 rfl ?_
      refine r_i2b C dX2_write_35 rfl ?_
      refine r_bast8 (t := (t + 1)) (w' := wd_set w1 (t + 1) ab (aB g 73 (upd (wrF f n wd i v) (n + i) (((v.toUInt64 >>> ((nI (8 * r)).toInt64.toUInt64 &&& Int64.toUInt64 63)).toInt64).toInt32).toInt8.toInt32))) C g1 (n + i) rfl (by omega) (by decide) dX2_write_36 rfl rfl ?_
      refine r_aload_n C 1 dX2_write_37 rfl rfl ?_
      refine r_dup C dX2_write_38 rfl rfl ?_
      refine r_get (t := t) C koX2 ((wd_ne (by omega)).trans g0) 2 (by decide) q322 rfl rfl dX2_write_39 rfl ?_
      refine r_iconst C (nI 1) dX2_write_42 (by decide) rfl ?_
      refine r_iadd C dX2_write_43 rfl ?_
      refine r_ti (show ((nI (n + i)) + (nI 1) : Int32) = nI (n + i + 1) from nI_add (n + i) 1) ?_
      refine r_put (t := t) (w' := wd_set (wd_set w1 (t + 1) ab (aB g 73 (upd (wrF f n wd i v) (n + i) (((v.toUInt64 >>> ((nI (8 * r)).toInt64.toUInt64 &&& Int64.toUInt64 63)).toInt64).toInt32).toInt8.toInt32))) t a (ob 2 [.ref ab, .int dy, .int (nI (n + i + 1))])) C koX2 ((wd_ne (by omega)).trans g0) 2 (by decide) q322 rfl rfl rfl rfl (Nat.le_of_ble_eq_true rfl) dX2_write_44 rfl rfl ?_
      refine r_iinc (v := kk9 r) (lv' := [(4, .int (kk9 r)), (0, .ref a), (1, .long v), (3, .int (nI wd))]) C 0 dX2_write_47 rfl (kk9_dec r) (by decide) rfl rfl ?_
      refine r_goto (tgt := 5) C dX2_write_50 (by decide) ?_
      refine ih (i + 1) _ (by omega) wd_eq ?_ (gf.trans ((Fr.set (by omega) (by omega)).trans (Fr.set (by omega) (by omega))))
      rw [← wrF_s, show wd - 1 - i = r by omega]
      exact (wd_ne (by omega)).trans wd_eq
  have e9 : kk9 wd = nI (wd - 1) := by obtain ⟨m, rfl⟩ : ∃ m, wd = m + 1 := ⟨wd - 1, by omega⟩; rfl
  rw [← e9]
  exact loop wd 0 w (by omega) h0 (by rw [wrF_0]; exact h1) Fr.rfl'

set_option maxHeartbeats 4000000 in
set_option maxRecDepth 20000 in
theorem c_has_y {l : Launch} {g : cx_G} {w : wd_T} {a t ab : Nat} {dy n : Int32} {f : Nat → Int32} (h0 : w t = some (a, ob 2 [.ref ab, .int dy, .int n])) (h1 : w (t + 1) = some (ab, aB g 73 f)) {i : Nat} (hi : i < 73) : Mt l g yX2_has cX2_has 2 (some .boolean) 0 0 0 w [.ref a, .int (nI i)] (fun v w' => v = some (.int (nI 1)) ∧ w = w') := by
  refine mt_of RX2 "has" rfl rfl (by decide) (Nat.le_of_ble_eq_true rfl) [(0, .ref a), (1, .int (nI i))] rfl ?_
  intro k hkl C hin
  subst hkl
  refine r_iload_n C 1 dX2_has_0 rfl rfl ?_
  refine r_if_lt_f (tgt := 17) C dX2_has_1 (by decide) rfl (nI_pos (by omega)) ?_
  refine r_iload_n C 1 dX2_has_4 rfl rfl ?_
  refine r_aload_n C 0 dX2_has_5 rfl rfl ?_
  refine r_get (t := t) C koX2 h0 0 (by decide) q318 rfl rfl dX2_has_6 rfl ?_
  refine r_blen (t := (t + 1)) C h1 dX2_has_9 rfl ?_
  refine r_icmp_ge_f (tgt := 17) C dX2_has_10 (by decide) rfl (fun z => absurd ((nI_leI (a := 73) (b := i) (by omega) (by omega)).mp z) (by omega)) ?_
  refine r_iconst C (nI 1) dX2_has_13 (by decide) rfl ?_
  refine r_goto (tgt := 18) C dX2_has_14 (by decide) ?_
  exact r_zret C rfl rfl (by decide) (by decide) dX2_has_18 ⟨rfl, rfl⟩

set_option maxHeartbeats 4000000 in
set_option maxRecDepth 20000 in
theorem c_has_n {l : Launch} {g : cx_G} {w : wd_T} {a t ab : Nat} {dy n : Int32} {f : Nat → Int32} (h0 : w t = some (a, ob 2 [.ref ab, .int dy, .int n])) (h1 : w (t + 1) = some (ab, aB g 73 f)) {x : Int32} (hx : x < 0 ∨ nI 73 ≤ x) : Mt l g yX2_has cX2_has 2 (some .boolean) 0 0 0 w [.ref a, .int x] (fun v w' => v = some (.int (nI 0)) ∧ w = w') := by
  refine mt_of RX2 "has" rfl rfl (by decide) (Nat.le_of_ble_eq_true rfl) [(0, .ref a), (1, .int x)] rfl ?_
  intro k hkl C hin
  subst hkl
  refine r_iload_n C 1 dX2_has_0 rfl rfl ?_
  refine r_if_lt (tgt := 17) C dX2_has_1 (by decide) rfl (fun hc1 => ?_) (fun hc1 => ?_)
  · refine r_iconst C (nI 0) dX2_has_17 (by decide) rfl ?_
    exact r_zret C rfl rfl (by decide) (by decide) dX2_has_18 ⟨rfl, rfl⟩
  · refine r_iload_n C 1 dX2_has_4 rfl rfl ?_
    refine r_aload_n C 0 dX2_has_5 rfl rfl ?_
    refine r_get (t := t) C koX2 h0 0 (by decide) q318 rfl rfl dX2_has_6 rfl ?_
    refine r_blen (t := (t + 1)) C h1 dX2_has_9 rfl ?_
    refine r_icmp_ge_t (tgt := 17) C dX2_has_10 (by decide) (by rcases hx with z | z; exact absurd z hc1; exact z) ?_
    refine r_iconst C (nI 0) dX2_has_17 (by decide) rfl ?_
    exact r_zret C rfl rfl (by decide) (by decide) dX2_has_18 ⟨rfl, rfl⟩

set_option maxHeartbeats 4000000 in
set_option maxRecDepth 20000 in
theorem c_val_y {l : Launch} {g : cx_G} {w : wd_T} {a t ab : Nat} {dy n : Int32} {f : Nat → Int32} (h0 : w t = some (a, ob 2 [.ref ab, .int dy, .int n])) (h1 : w (t + 1) = some (ab, aB g 73 f)) {i : Nat} (hi : i < 73) : Mt l g yX2_value cX2_value 2 (some .int) 1 0 0 w [.ref a, .int (nI i)] (fun v w' => v = some (.int (f i &&& nI 255)) ∧ w = w') := by
  refine mt_of RX2 "value" rfl rfl (by decide) (Nat.le_of_ble_eq_true rfl) [(0, .ref a), (1, .int (nI i))] rfl ?_
  intro k hkl C hin
  subst hkl
  refine r_aload_n C 0 dX2_value_0 rfl rfl ?_
  refine r_iload_n C 1 dX2_value_1 rfl rfl ?_
  refine r_callV (t := t) (As := [.int (nI i)]) (st := []) C koX2 h0 (c_has_y h0 h1 hi) q563 q560 q561 q562 q18 rfl ⟨by decide, by decide⟩ (show (parseMethodDescriptor yX2_has.desc).map (fun d => d.parameters.length) = some 1 by decide +kernel) (by decide) (by decide) (by decide) (by decide) (Nat.le_of_ble_eq_true rfl) rfl dX2_value_2 rfl ?_
  rintro v9 w1 ⟨rfl, rfl⟩
  show V g k 2 w 0 0 (kQ g k (fun v w' => v = some (.int (f i &&& nI 255)) ∧ w = w') 0 0) 5 [(0, .ref a), (1, .int (nI i))] [.int (nI 1)]
  refine r_if_eq_f (tgt := 21) C dX2_value_5 (by decide) rfl (fun z => absurd ((nI_eq (a := 1) (b := 0) (by omega) (by omega)).mp z) (by omega)) ?_
  refine r_aload_n C 0 dX2_value_8 rfl rfl ?_
  refine r_get (t := t) C koX2 h0 0 (by decide) q318 rfl rfl dX2_value_9 rfl ?_
  refine r_iload_n C 1 dX2_value_12 rfl rfl ?_
  refine r_bald (t := (t + 1)) C h1 i rfl (by omega) (by decide) dX2_value_13 rfl ?_
  refine r_sipush C (nI 255) dX2_value_14 (by decide) rfl ?_
  refine r_iand C dX2_value_17 rfl ?_
  refine r_goto (tgt := 22) C dX2_value_18 (by decide) ?_
  exact r_iret C rfl (by decide) (by decide) dX2_value_22 ⟨rfl, rfl⟩

set_option maxHeartbeats 4000000 in
set_option maxRecDepth 20000 in
theorem c_val_n {l : Launch} {g : cx_G} {w : wd_T} {a t ab : Nat} {dy n : Int32} {f : Nat → Int32} (h0 : w t = some (a, ob 2 [.ref ab, .int dy, .int n])) (h1 : w (t + 1) = some (ab, aB g 73 f)) {x : Int32} (hx : x < 0 ∨ nI 73 ≤ x) : Mt l g yX2_value cX2_value 2 (some .int) 1 0 0 w [.ref a, .int x] (fun v w' => v = some (.int (-1)) ∧ w = w') := by
  refine mt_of RX2 "value" rfl rfl (by decide) (Nat.le_of_ble_eq_true rfl) [(0, .ref a), (1, .int x)] rfl ?_
  intro k hkl C hin
  subst hkl
  refine r_aload_n C 0 dX2_value_0 rfl rfl ?_
  refine r_iload_n C 1 dX2_value_1 rfl rfl ?_
  refine r_callV (t := t) (As := [.int x]) (st := []) C koX2 h0 (c_has_n h0 h1 hx) q563 q560 q561 q562 q18 rfl ⟨by decide, by decide⟩ (show (parseMethodDescriptor yX2_has.desc).map (fun d => d.parameters.length) = some 1 by decide +kernel) (by decide) (by decide) (by decide) (by decide) (Nat.le_of_ble_eq_true rfl) rfl dX2_value_2 rfl ?_
  rintro v9 w1 ⟨rfl, rfl⟩
  show V g k 2 w 0 0 (kQ g k (fun v w' => v = some (.int (-1)) ∧ w = w') 0 0) 5 [(0, .ref a), (1, .int x)] [.int (nI 0)]
  refine r_if_eq_t (tgt := 21) C dX2_value_5 (by decide) ((nI_eq (a := 0) (b := 0) (by omega) (by omega)).mpr (by omega)) ?_
  refine r_iconst C ((-1)) dX2_value_21 (by decide) rfl ?_
  exact r_iret C rfl (by decide) (by decide) dX2_value_22 ⟨rfl, rfl⟩

set_option maxHeartbeats 4000000 in
set_option maxRecDepth 20000 in
theorem c_chg_y {l : Launch} {g : cx_G} {w : wd_T} {a t ab : Nat} {dy n : Int32} {f : Nat → Int32} (h0 : w t = some (a, ob 2 [.ref ab, .int dy, .int n])) (h1 : w (t + 1) = some (ab, aB g 73 f)) {i : Nat} {mk : Int32} (hi : i < 73) : Mt l g yX2_change cX2_change 3 (some .boolean) 1 0 0 w [.ref a, .int (nI i), .int mk] (fun v w' => v = some (.int (nI 1)) ∧ w' (t + 1) = some (ab, aB g 73 (upd f i (f i ^^^ mk).toInt8.toInt32)) ∧ Fr w w' (t + 1) (t + 2)) := by
  refine mt_of RX2 "change" rfl rfl (by decide) (Nat.le_of_ble_eq_true rfl) [(0, .ref a), (1, .int (nI i)), (2, .int mk)] rfl ?_
  intro k hkl C hin
  subst hkl
  refine r_aload_n C 0 dX2_change_0 rfl rfl ?_
  refine r_iload_n C 1 dX2_change_1 rfl rfl ?_
  refine r_callV (t := t) (As := [.int (nI i)]) (st := []) C koX2 h0 (c_has_y h0 h1 hi) q563 q560 q561 q562 q18 rfl ⟨by decide, by decide⟩ (show (parseMethodDescriptor yX2_has.desc).map (fun d => d.parameters.length) = some 1 by decide +kernel) (by decide) (by decide) (by decide) (by decide) (Nat.le_of_ble_eq_true rfl) rfl dX2_change_2 rfl ?_
  rintro v9 w1 ⟨rfl, rfl⟩
  show V g k 3 w 0 0 (kQ g k (fun v w' => v = some (.int (nI 1)) ∧ w' (t + 1) = some (ab, aB g 73 (upd f i (f i ^^^ mk).toInt8.toInt32)) ∧ Fr w w' (t + 1) (t + 2)) 0 0) 5 [(0, .ref a), (1, .int (nI i)), (2, .int mk)] [.int (nI 1)]
  refine r_if_ne_t (tgt := 10) C dX2_change_5 (by decide) (fun z => absurd ((nI_eq (a := 1) (b := 0) (by omega) (by omega)).mp z) (by omega)) ?_
  refine r_aload_n C 0 dX2_change_10 rfl rfl ?_
  refine r_get (t := t) C koX2 h0 0 (by decide) q318 rfl rfl dX2_change_11 rfl ?_
  refine r_iload_n C 1 dX2_change_14 rfl rfl ?_
  refine r_aload_n C 0 dX2_change_15 rfl rfl ?_
  refine r_get (t := t) C koX2 h0 0 (by decide) q318 rfl rfl dX2_change_16 rfl ?_
  refine r_iload_n C 1 dX2_change_19 rfl rfl ?_
  refine r_bald (t := (t + 1)) C h1 i rfl (by omega) (by decide) dX2_change_20 rfl ?_
  refine r_iload_n C 2 dX2_change_21 rfl rfl ?_
  refine r_ixor C dX2_change_22 rfl ?_
  refine r_i2b C dX2_change_23 rfl ?_
  refine r_bast8 (t := (t + 1)) (w' := wd_set w (t + 1) ab (aB g 73 (upd f i ((f i) ^^^ mk).toInt8.toInt32))) C h1 i rfl (by omega) (by decide) dX2_change_24 rfl rfl ?_
  refine r_iconst C (nI 1) dX2_change_25 (by decide) rfl ?_
  exact r_zret C rfl rfl (by decide) (by decide) dX2_change_26 ⟨rfl, wd_eq, Fr.set (by omega) (by omega)⟩

set_option maxHeartbeats 4000000 in
set_option maxRecDepth 20000 in
theorem c_chg_n {l : Launch} {g : cx_G} {w : wd_T} {a t ab : Nat} {dy n : Int32} {f : Nat → Int32} (h0 : w t = some (a, ob 2 [.ref ab, .int dy, .int n])) (h1 : w (t + 1) = some (ab, aB g 73 f)) {x mk : Int32} (hx : x < 0 ∨ nI 73 ≤ x) : Mt l g yX2_change cX2_change 3 (some .boolean) 1 0 0 w [.ref a, .int x, .int mk] (fun v w' => v = some (.int (nI 0)) ∧ w = w') := by
  refine mt_of RX2 "change" rfl rfl (by decide) (Nat.le_of_ble_eq_true rfl) [(0, .ref a), (1, .int x), (2, .int mk)] rfl ?_
  intro k hkl C hin
  subst hkl
  refine r_aload_n C 0 dX2_change_0 rfl rfl ?_
  refine r_iload_n C 1 dX2_change_1 rfl rfl ?_
  refine r_callV (t := t) (As := [.int x]) (st := []) C koX2 h0 (c_has_n h0 h1 hx) q563 q560 q561 q562 q18 rfl ⟨by decide, by decide⟩ (show (parseMethodDescriptor yX2_has.desc).map (fun d => d.parameters.length) = some 1 by decide +kernel) (by decide) (by decide) (by decide) (by decide) (Nat.le_of_ble_eq_true rfl) rfl dX2_change_2 rfl ?_
  rintro v9 w1 ⟨rfl, rfl⟩
  show V g k 3 w 0 0 (kQ g k (fun v w' => v = some (.int (nI 0)) ∧ w = w') 0 0) 5 [(0, .ref a), (1, .int x), (2, .int mk)] [.int (nI 0)]
  refine r_if_ne_f (tgt := 10) C dX2_change_5 (by decide) rfl ((nI_eq (a := 0) (b := 0) (by omega) (by omega)).mpr (by omega)) ?_
  refine r_iconst C (nI 0) dX2_change_8 (by decide) rfl ?_
  exact r_zret C rfl rfl (by decide) (by decide) dX2_change_9 ⟨rfl, rfl⟩

set_option maxHeartbeats 4000000 in
set_option maxRecDepth 20000 in
theorem c_TareInit {l : Launch} {g : cx_G} {w : wd_T} {a t : Nat} {dy vh : Int32} {wt : Int64} (h0 : w t = some (a, ob 4 [.int 0, .int 0, .long 0])) : Mt l g yX4_init cX4_init 5 none 1 0 0 w [.ref a, .int dy, .int vh, .long wt] (fun v w' => v = none ∧ w' t = some (a, ob 4 [.int dy, .int vh, .long wt]) ∧ Fr w w' t (t + 1)) := by
  refine mt_of RX4 "<init>" rfl rfl (by decide) (Nat.le_of_ble_eq_true rfl) [(0, .ref a), (1, .int dy), (2, .int vh), (3, .long wt)] rfl ?_
  intro k hkl C hin
  subst hkl
  refine r_aload_n C 0 dX4_init_0 rfl rfl ?_
  refine r_objI C q195 q33 q34 (by decide) (Nat.le_of_ble_eq_true rfl) dX4_init_1 rfl ?_
  refine r_aload_n C 0 dX4_init_4 rfl rfl ?_
  refine r_iload_n C 1 dX4_init_5 rfl rfl ?_
  refine r_putF (t := t) (w' := wd_set w t a (ob 4 [.int dy, .int 0, .long 0])) C koX4 h0 0 (by decide) q196 rfl rfl hin rfl rfl rfl (Nat.le_of_ble_eq_true rfl) dX4_init_6 rfl rfl ?_
  refine r_aload_n C 0 dX4_init_9 rfl rfl ?_
  refine r_iload_n C 2 dX4_init_10 rfl rfl ?_
  refine r_putF (t := t) (w' := wd_set w t a (ob 4 [.int dy, .int vh, .long 0])) C koX4 wd_eq 1 (by decide) q198 rfl rfl hin rfl rfl rfl (Nat.le_of_ble_eq_true rfl) dX4_init_11 rfl wd_ss ?_
  refine r_aload_n C 0 dX4_init_14 rfl rfl ?_
  refine r_lload_n C 3 dX4_init_15 rfl rfl ?_
  refine r_put (t := t) (w' := wd_set w t a (ob 4 [.int dy, .int vh, .long wt])) C koX4 wd_eq 2 (by decide) q200 rfl rfl rfl rfl (Nat.le_of_ble_eq_true rfl) dX4_init_16 rfl wd_ss ?_
  exact r_vret C rfl (by decide) (by decide) dX4_init_19 ⟨rfl, wd_eq, Fr.set (by omega) (by omega)⟩

set_option maxHeartbeats 4000000 in
set_option maxRecDepth 20000 in
theorem c_TkInit {l : Launch} {g : cx_G} {w : wd_T} {a t : Nat} {nu vh kd ps : Int32} {gr ta sc : Int64} (h0 : w t = some (a, ob 6 [.null, .null])) : Mt l g yX6_init cX6_init 11 none 1 2 17 w [.ref a, .int nu, .int vh, .int kd, .long gr, .long ta, .long sc, .int ps] (fun v w' => v = none ∧ (∃ (af aw : Nat) (ff : Nat → Int64), w' t = some (a, ob 6 [.ref af, .ref aw]) ∧ w' (t + 1) = some (af, aL g 9 ff) ∧ w' (t + 2) = some (aw, aL g 8 (fun _ => 0)) ∧ ff 0 = nu.toInt64 ∧ ff 1 = vh.toInt64 ∧ ff 2 = kd.toInt64 ∧ ff 3 = gr ∧ ff 4 = ta ∧ ff 5 = gr - ta ∧ ff 6 = sc ∧ ff 7 = ps.toInt64 ∧ ff 8 = 0) ∧ Fr w w' t (t + 3)) := by
  refine mt_of RX6 "<init>" rfl rfl (by decide) (Nat.le_of_ble_eq_true rfl) [(0, .ref a), (1, .int nu), (2, .int vh), (3, .int kd), (4, .long gr), (6, .long ta), (8, .long sc), (10, .int ps)] rfl ?_
  intro k hkl C hin
  subst hkl
  refine r_aload_n C 0 dX6_init_0 rfl rfl ?_
  refine r_objI C q294 q33 q34 (by decide) (Nat.le_of_ble_eq_true rfl) dX6_init_1 rfl ?_
  refine r_aload_n C 0 dX6_init_4 rfl rfl ?_
  refine r_bipush C (nI 9) dX6_init_5 (by decide) rfl ?_
  refine r_newl C 9 rfl (by decide) q302 (t + 1) (by decide) (by decide) dX6_init_7 rfl (fun af => ?_)
  refine r_putF (t := t) (w' := wd_set (wd_set w (t + 1) af (aL g 9 (fun _ => 0))) t a (ob 6 [.ref af, .null])) C koX6 ((wd_ne (by omega)).trans h0) 0 (by decide) q295 rfl rfl hin rfl rfl rfl (Nat.le_of_ble_eq_true rfl) dX6_init_9 rfl rfl ?_
  refine r_aload_n C 0 dX6_init_12 rfl rfl ?_
  refine r_bipush C (nI 8) dX6_init_13 (by decide) rfl ?_
  refine r_newl C 8 rfl (by decide) q302 (t + 2) (by decide) (by decide) dX6_init_15 rfl (fun aw => ?_)
  refine r_putF (t := t) (w' := wd_set (wd_set (wd_set w (t + 1) af (aL g 9 (fun _ => 0))) (t + 2) aw (aL g 8 (fun _ => 0))) t a (ob 6 [.ref af, .ref aw])) C koX6 ((wd_ne (by omega)).trans wd_eq) 1 (by decide) q296 rfl rfl hin rfl rfl rfl (Nat.le_of_ble_eq_true rfl) dX6_init_17 rfl (wd_pp wd_ss (by omega)) ?_
  refine r_aload_n C 0 dX6_init_20 rfl rfl ?_
  refine r_get (t := t) C koX6 wd_eq 0 (by decide) q295 rfl rfl dX6_init_21 rfl ?_
  refine r_iconst C (nI 0) dX6_init_24 (by decide) rfl ?_
  refine r_iload_n C 1 dX6_init_25 rfl rfl ?_
  refine r_i2l C dX6_init_26 rfl ?_
  refine r_last (t := (t + 1)) (w' := wd_set (wd_set (wd_set w (t + 2) aw (aL g 8 (fun _ => 0))) t a (ob 6 [.ref af, .ref aw])) (t + 1) af (aL g 9 (vp_updL (fun _ => 0) 0 nu.toInt64))) C ((wd_ne (by omega)).trans ((wd_ne (by omega)).trans wd_eq)) 0 rfl (by decide) (by decide) dX6_init_27 rfl (wd_pp (wd_pp wd_ss (by omega)) (by omega)) ?_
  refine r_aload_n C 0 dX6_init_28 rfl rfl ?_
  refine r_get (t := t) C koX6 ((wd_ne (by omega)).trans wd_eq) 0 (by decide) q295 rfl rfl dX6_init_29 rfl ?_
  refine r_iconst C (nI 1) dX6_init_32 (by decide) rfl ?_
  refine r_iload_n C 2 dX6_init_33 rfl rfl ?_
  refine r_i2l C dX6_init_34 rfl ?_
  refine r_last (t := (t + 1)) (w' := wd_set (wd_set (wd_set w (t + 2) aw (aL g 8 (fun _ => 0))) t a (ob 6 [.ref af, .ref aw])) (t + 1) af (aL g 9 (vp_updL (vp_updL (fun _ => 0) 0 nu.toInt64) 1 vh.toInt64))) C wd_eq 1 rfl (by decide) (by decide) dX6_init_35 rfl wd_ss ?_
  refine r_aload_n C 0 dX6_init_36 rfl rfl ?_
  refine r_get (t := t) C koX6 ((wd_ne (by omega)).trans wd_eq) 0 (by decide) q295 rfl rfl dX6_init_37 rfl ?_
  refine r_iconst C (nI 2) dX6_init_40 (by decide) rfl ?_
  refine r_iload_n C 3 dX6_init_41 rfl rfl ?_
  refine r_i2l C dX6_init_42 rfl ?_
  refine r_last (t := (t + 1)) (w' := wd_set (wd_set (wd_set w (t + 2) aw (aL g 8 (fun _ => 0))) t a (ob 6 [.ref af, .ref aw])) (t + 1) af (aL g 9 (vp_updL (vp_updL (vp_updL (fun _ => 0) 0 nu.toInt64) 1 vh.toInt64) 2 kd.toInt64))) C wd_eq 2 rfl (by decide) (by decide) dX6_init_43 rfl wd_ss ?_
  refine r_aload_n C 0 dX6_init_44 rfl rfl ?_
  refine r_get (t := t) C koX6 ((wd_ne (by omega)).trans wd_eq) 0 (by decide) q295 rfl rfl dX6_init_45 rfl ?_
  refine r_iconst C (nI 3) dX6_init_48 (by decide) rfl ?_
  refine r_lload C 4 dX6_init_49 rfl rfl ?_
  refine r_last (t := (t + 1)) (w' := wd_set (wd_set (wd_set w (t + 2) aw (aL g 8 (fun _ => 0))) t a (ob 6 [.ref af, .ref aw])) (t + 1) af (aL g 9 (vp_updL (vp_updL (vp_updL (vp_updL (fun _ => 0) 0 nu.toInt64) 1 vh.toInt64) 2 kd.toInt64) 3 gr))) C wd_eq 3 rfl (by decide) (by decide) dX6_init_51 rfl wd_ss ?_
  refine r_aload_n C 0 dX6_init_52 rfl rfl ?_
  refine r_get (t := t) C koX6 ((wd_ne (by omega)).trans wd_eq) 0 (by decide) q295 rfl rfl dX6_init_53 rfl ?_
  refine r_iconst C (nI 4) dX6_init_56 (by decide) rfl ?_
  refine r_lload C 5 dX6_init_57 rfl rfl ?_
  refine r_last (t := (t + 1)) (w' := wd_set (wd_set (wd_set w (t + 2) aw (aL g 8 (fun _ => 0))) t a (ob 6 [.ref af, .ref aw])) (t + 1) af (aL g 9 (vp_updL (vp_updL (vp_updL (vp_updL (vp_updL (fun _ => 0) 0 nu.toInt64) 1 vh.toInt64) 2 kd.toInt64) 3 gr) 4 ta))) C wd_eq 4 rfl (by decide) (by decide) dX6_init_59 rfl wd_ss ?_
  refine r_aload_n C 0 dX6_init_60 rfl rfl ?_
  refine r_get (t := t) C koX6 ((wd_ne (by omega)).trans wd_eq) 0 (by decide) q295 rfl rfl dX6_init_61 rfl ?_
  refine r_iconst C (nI 5) dX6_init_64 (by decide) rfl ?_
  refine r_lload C 4 dX6_init_65 rfl rfl ?_
  refine r_lload C 5 dX6_init_67 rfl rfl ?_
  refine r_lsub C dX6_init_69 rfl ?_
  refine r_last (t := (t + 1)) (w' := wd_set (wd_set (wd_set w (t + 2) aw (aL g 8 (fun _ => 0))) t a (ob 6 [.ref af, .ref aw])) (t + 1) af (aL g 9 (vp_updL (vp_updL (vp_updL (vp_updL (vp_updL (vp_updL (fun _ => 0) 0 nu.toInt64) 1 vh.toInt64) 2 kd.toInt64) 3 gr) 4 ta) 5 (gr - ta)))) C wd_eq 5 rfl (by decide) (by decide) dX6_init_70 rfl wd_ss ?_
  refine r_aload_n C 0 dX6_init_71 rfl rfl ?_
  refine r_get (t := t) C koX6 ((wd_ne (by omega)).trans wd_eq) 0 (by decide) q295 rfl rfl dX6_init_72 rfl ?_
  refine r_bipush C (nI 6) dX6_init_75 (by decide) rfl ?_
  refine r_lload C 6 dX6_init_77 rfl rfl ?_
  refine r_last (t := (t + 1)) (w' := wd_set (wd_set (wd_set w (t + 2) aw (aL g 8 (fun _ => 0))) t a (ob 6 [.ref af, .ref aw])) (t + 1) af (aL g 9 (vp_updL (vp_updL (vp_updL (vp_updL (vp_updL (vp_updL (vp_updL (fun _ => 0) 0 nu.toInt64) 1 vh.toInt64) 2 kd.toInt64) 3 gr) 4 ta) 5 (gr - ta)) 6 sc))) C wd_eq 6 rfl (by decide) (by decide) dX6_init_79 rfl wd_ss ?_
  refine r_aload_n C 0 dX6_init_80 rfl rfl ?_
  refine r_get (t := t) C koX6 ((wd_ne (by omega)).trans wd_eq) 0 (by decide) q295 rfl rfl dX6_init_81 rfl ?_
  refine r_bipush C (nI 7) dX6_init_84 (by decide) rfl ?_
  refine r_iload C 7 dX6_init_86 rfl rfl ?_
  refine r_i2l C dX6_init_88 rfl ?_
  refine r_last (t := (t + 1)) (w' := wd_set (wd_set (wd_set w (t + 2) aw (aL g 8 (fun _ => 0))) t a (ob 6 [.ref af, .ref aw])) (t + 1) af (aL g 9 (vp_updL (vp_updL (vp_updL (vp_updL (vp_updL (vp_updL (vp_updL (vp_updL (fun _ => 0) 0 nu.toInt64) 1 vh.toInt64) 2 kd.toInt64) 3 gr) 4 ta) 5 (gr - ta)) 6 sc) 7 ps.toInt64))) C wd_eq 7 rfl (by decide) (by decide) dX6_init_89 rfl wd_ss ?_
  refine r_vret C rfl (by decide) (by decide) dX6_init_90 ⟨rfl, ⟨_, _, _, ((wd_ne (by omega)).trans wd_eq), wd_eq, ((wd_ne (by omega)).trans ((wd_ne (by omega)).trans wd_eq)), rfl, rfl, rfl, rfl, rfl, rfl, rfl, rfl, rfl⟩, fun u hu => ?_⟩
  simp only [wd_set]
  rw [if_neg (by omega), if_neg (by omega), if_neg (by omega)]

set_option maxHeartbeats 4000000 in
set_option maxRecDepth 20000 in
theorem c_fld_y {l : Launch} {g : cx_G} {w : wd_T} {a t af aw : Nat} {ff : Nat → Int64} (h0 : w t = some (a, ob 6 [.ref af, .ref aw])) (h1 : w (t + 1) = some (af, aL g 9 ff)) {i : Nat} (hi : i < 9) : Mt l g yX6_field cX6_field 2 (some .long) 0 0 0 w [.ref a, .int (nI i)] (fun v w' => v = some (.long (ff i)) ∧ w = w') := by
  refine mt_of RX6 "field" rfl rfl (by decide) (Nat.le_of_ble_eq_true rfl) [(0, .ref a), (1, .int (nI i))] rfl ?_
  intro k hkl C hin
  subst hkl
  refine r_iload_n C 1 dX6_field_0 rfl rfl ?_
  refine r_if_lt_f (tgt := 22) C dX6_field_1 (by decide) rfl (nI_pos (by omega)) ?_
  refine r_iload_n C 1 dX6_field_4 rfl rfl ?_
  refine r_aload_n C 0 dX6_field_5 rfl rfl ?_
  refine r_get (t := t) C koX6 h0 0 (by decide) q295 rfl rfl dX6_field_6 rfl ?_
  refine r_llen (t := (t + 1)) C h1 dX6_field_9 rfl ?_
  refine r_icmp_ge_f (tgt := 22) C dX6_field_10 (by decide) rfl (fun z => absurd ((nI_leI (a := 9) (b := i) (by omega) (by omega)).mp z) (by omega)) ?_
  refine r_aload_n C 0 dX6_field_13 rfl rfl ?_
  refine r_get (t := t) C koX6 h0 0 (by decide) q295 rfl rfl dX6_field_14 rfl ?_
  refine r_iload_n C 1 dX6_field_17 rfl rfl ?_
  refine r_lald (t := (t + 1)) C h1 i rfl (by omega) (by decide) dX6_field_18 rfl ?_
  refine r_goto (tgt := 25) C dX6_field_19 (by decide) ?_
  exact r_lret C rfl (by decide) (by decide) dX6_field_25 ⟨rfl, rfl⟩

set_option maxHeartbeats 4000000 in
set_option maxRecDepth 20000 in
theorem c_fld_n {l : Launch} {g : cx_G} {w : wd_T} {a t af aw : Nat} {ff : Nat → Int64} (h0 : w t = some (a, ob 6 [.ref af, .ref aw])) (h1 : w (t + 1) = some (af, aL g 9 ff)) {x : Int32} (hx : x < 0 ∨ nI 9 ≤ x) : Mt l g yX6_field cX6_field 2 (some .long) 0 0 0 w [.ref a, .int x] (fun v w' => v = some (.long (-1)) ∧ w = w') := by
  refine mt_of RX6 "field" rfl rfl (by decide) (Nat.le_of_ble_eq_true rfl) [(0, .ref a), (1, .int x)] rfl ?_
  intro k hkl C hin
  subst hkl
  refine r_iload_n C 1 dX6_field_0 rfl rfl ?_
  refine r_if_lt (tgt := 22) C dX6_field_1 (by decide) rfl (fun hc1 => ?_) (fun hc1 => ?_)
  · refine r_ldc2 (v := (-1)) C dX6_field_22 q313 rfl ?_
    exact r_lret C rfl (by decide) (by decide) dX6_field_25 ⟨rfl, rfl⟩
  · refine r_iload_n C 1 dX6_field_4 rfl rfl ?_
    refine r_aload_n C 0 dX6_field_5 rfl rfl ?_
    refine r_get (t := t) C koX6 h0 0 (by decide) q295 rfl rfl dX6_field_6 rfl ?_
    refine r_llen (t := (t + 1)) C h1 dX6_field_9 rfl ?_
    refine r_icmp_ge_t (tgt := 22) C dX6_field_10 (by decide) (by rcases hx with z | z; exact absurd z hc1; exact z) ?_
    refine r_ldc2 (v := (-1)) C dX6_field_22 q313 rfl ?_
    exact r_lret C rfl (by decide) (by decide) dX6_field_25 ⟨rfl, rfl⟩

set_option maxHeartbeats 4000000 in
set_option maxRecDepth 20000 in
theorem c_isv_y {l : Launch} {g : cx_G} {w : wd_T} {a t af aw : Nat} {ff : Nat → Int64} (h0 : w t = some (a, ob 6 [.ref af, .ref aw])) (h1 : w (t + 1) = some (af, aL g 9 ff)) (hv : ¬ ff 8 = lN 0) : Mt l g yX6_isVoid cX6_isVoid 1 (some .boolean) 0 0 0 w [.ref a] (fun v w' => v = some (.int (nI 1)) ∧ w = w') := by
  refine mt_of RX6 "isVoid" rfl rfl (by decide) (Nat.le_of_ble_eq_true rfl) [(0, .ref a)] rfl ?_
  intro k hkl C hin
  subst hkl
  refine r_aload_n C 0 dX6_isVoid_0 rfl rfl ?_
  refine r_get (t := t) C koX6 h0 0 (by decide) q295 rfl rfl dX6_isVoid_1 rfl ?_
  refine r_bipush C (nI 8) dX6_isVoid_4 (by decide) rfl ?_
  refine r_lald (t := (t + 1)) C h1 8 rfl (by decide) (by decide) dX6_isVoid_6 rfl ?_
  refine r_lconst C (lN 0) dX6_isVoid_7 (by decide) rfl ?_
  refine r_lcmp_eq (tgt := 16) C dX6_isVoid_8 rfl dX6_isVoid_9 (by decide) rfl (fun hz1 => absurd (hv) (by first | exact hz1 | exact fun zz => zz hz1)) (fun _ => ?_)
  refine r_iconst C (nI 1) dX6_isVoid_12 (by decide) rfl ?_
  refine r_goto (tgt := 17) C dX6_isVoid_13 (by decide) ?_
  exact r_zret C rfl rfl (by decide) (by decide) dX6_isVoid_17 ⟨rfl, rfl⟩

set_option maxHeartbeats 4000000 in
set_option maxRecDepth 20000 in
theorem c_isv_n {l : Launch} {g : cx_G} {w : wd_T} {a t af aw : Nat} {ff : Nat → Int64} (h0 : w t = some (a, ob 6 [.ref af, .ref aw])) (h1 : w (t + 1) = some (af, aL g 9 ff)) (hv : ff 8 = lN 0) : Mt l g yX6_isVoid cX6_isVoid 1 (some .boolean) 0 0 0 w [.ref a] (fun v w' => v = some (.int (nI 0)) ∧ w = w') := by
  refine mt_of RX6 "isVoid" rfl rfl (by decide) (Nat.le_of_ble_eq_true rfl) [(0, .ref a)] rfl ?_
  intro k hkl C hin
  subst hkl
  refine r_aload_n C 0 dX6_isVoid_0 rfl rfl ?_
  refine r_get (t := t) C koX6 h0 0 (by decide) q295 rfl rfl dX6_isVoid_1 rfl ?_
  refine r_bipush C (nI 8) dX6_isVoid_4 (by decide) rfl ?_
  refine r_lald (t := (t + 1)) C h1 8 rfl (by decide) (by decide) dX6_isVoid_6 rfl ?_
  refine r_lconst C (lN 0) dX6_isVoid_7 (by decide) rfl ?_
  refine r_lcmp_eq (tgt := 16) C dX6_isVoid_8 rfl dX6_isVoid_9 (by decide) rfl (fun _ => ?_) (fun hz1 => absurd (hv) (by first | exact hz1 | exact fun zz => zz hz1))
  refine r_iconst C (nI 0) dX6_isVoid_16 (by decide) rfl ?_
  exact r_zret C rfl rfl (by decide) (by decide) dX6_isVoid_17 ⟨rfl, rfl⟩

def gross9 (x : Int32) (v : Int64) (ff : Nat → Int64) : Int64 := if x = nI 3 then v else ff 3
def tare9 (x : Int32) (v : Int64) (ff : Nat → Int64) : Int64 := if x = nI 4 then v else ff 4
set_option maxHeartbeats 4000000 in
set_option maxRecDepth 20000 in
theorem c_kn_y {l : Launch} {g : cx_G} {w : wd_T} {a t af aw : Nat} {ff : Nat → Int64} (h0 : w t = some (a, ob 6 [.ref af, .ref aw])) (h1 : w (t + 1) = some (af, aL g 9 ff)) {x : Int32} {v : Int64} (hv : tare9 x v ff ≤ gross9 x v ff) : Mt l g yX6_keepsNet cX6_keepsNet 8 (some .boolean) 0 0 0 w [.ref a, .int x, .long v] (fun v9 w' => v9 = some (.int (nI 1)) ∧ w = w') := by
  refine mt_of RX6 "keepsNet" rfl rfl (by decide) (Nat.le_of_ble_eq_true rfl) [(0, .ref a), (1, .int x), (2, .long v)] rfl ?_
  intro k hkl C hin
  subst hkl
  have fin : ∀ lv9 : List (Nat × Value), lv9 = [(6, .long (tare9 x v ff)), (4, .long (gross9 x v ff)), (0, .ref a), (1, .int x), (2, .long v)] → V g k 8 w 0 0 (kQ g k (fun v9 w' => v9 = some (.int (nI 1)) ∧ w = w') 0 0) 34 lv9 [] := by
    intro lv9 h9; subst h9
    refine r_lload C 1 dX6_keepsNet_34 rfl rfl ?_
    refine r_lload C 0 dX6_keepsNet_36 rfl rfl ?_
    refine r_lcmp_lt (tgt := 46) C dX6_keepsNet_38 rfl dX6_keepsNet_39 (by decide) rfl (fun hz1 => absurd (Int64.not_lt.mpr hv) (by first | exact hz1 | exact fun zz => zz hz1)) (fun _ => ?_)
    refine r_iconst C (nI 1) dX6_keepsNet_42 (by decide) rfl ?_
    refine r_goto (tgt := 47) C dX6_keepsNet_43 (by decide) ?_
    exact r_zret C rfl rfl (by decide) (by decide) dX6_keepsNet_47 ⟨rfl, rfl⟩
  refine r_iload_n C 1 dX6_keepsNet_0 rfl rfl ?_
  refine r_iconst C (nI 3) dX6_keepsNet_1 (by decide) rfl ?_
  refine r_icmp_ne (tgt := 9) C dX6_keepsNet_2 (by decide) rfl (fun hc1 => ?_) (fun hc1 => ?_)
  · refine r_aload_n C 0 dX6_keepsNet_9 rfl rfl ?_
    refine r_get (t := t) C koX6 h0 0 (by decide) q295 rfl rfl dX6_keepsNet_10 rfl ?_
    refine r_iconst C (nI 3) dX6_keepsNet_13 (by decide) rfl ?_
    refine r_lald (t := (t + 1)) C h1 3 rfl (by decide) (by decide) dX6_keepsNet_14 rfl ?_
    refine r_lstore (lv' := [(4, .long (ff 3)), (0, .ref a), (1, .int x), (2, .long v)]) C dX6_keepsNet_15 (by decide) rfl rfl ?_
    refine r_iload_n C 2 dX6_keepsNet_17 rfl rfl ?_
    refine r_iconst C (nI 4) dX6_keepsNet_18 (by decide) rfl ?_
    refine r_icmp_ne (tgt := 26) C dX6_keepsNet_19 (by decide) rfl (fun hc3 => ?_) (fun hc3 => ?_)
    · refine r_aload_n C 1 dX6_keepsNet_26 rfl rfl ?_
      refine r_get (t := t) C koX6 h0 0 (by decide) q295 rfl rfl dX6_keepsNet_27 rfl ?_
      refine r_iconst C (nI 4) dX6_keepsNet_30 (by decide) rfl ?_
      refine r_lald (t := (t + 1)) C h1 4 rfl (by decide) (by decide) dX6_keepsNet_31 rfl ?_
      refine r_lstore (lv' := [(6, .long (ff 4)), (4, .long (ff 3)), (0, .ref a), (1, .int x), (2, .long v)]) C dX6_keepsNet_32 (by decide) rfl rfl ?_
      refine r_sub (lv' := [(6, .long (ff 4)), (4, .long (ff 3)), (0, .ref a), (1, .int x), (2, .long v)]) [0, 1, 2, 3, 4] rfl ?_
      refine fin _ ?_
      unfold tare9 gross9; rw [if_neg hc1, if_neg hc3]
    · refine r_lload_n C 3 dX6_keepsNet_22 rfl rfl ?_
      refine r_goto (tgt := 32) C dX6_keepsNet_23 (by decide) ?_
      refine r_lstore (lv' := [(6, .long v), (4, .long (ff 3)), (0, .ref a), (1, .int x), (2, .long v)]) C dX6_keepsNet_32 (by decide) rfl rfl ?_
      refine r_sub (lv' := [(6, .long v), (4, .long (ff 3)), (0, .ref a), (1, .int x), (2, .long v)]) [0, 1, 2, 3, 4] rfl ?_
      refine fin _ ?_
      unfold tare9 gross9; rw [if_neg hc1, if_pos hc3]
  · refine r_lload_n C 2 dX6_keepsNet_5 rfl rfl ?_
    refine r_goto (tgt := 15) C dX6_keepsNet_6 (by decide) ?_
    refine r_lstore (lv' := [(4, .long v), (0, .ref a), (1, .int x), (2, .long v)]) C dX6_keepsNet_15 (by decide) rfl rfl ?_
    refine r_iload_n C 2 dX6_keepsNet_17 rfl rfl ?_
    refine r_iconst C (nI 4) dX6_keepsNet_18 (by decide) rfl ?_
    refine r_icmp_ne (tgt := 26) C dX6_keepsNet_19 (by decide) rfl (fun hc7 => ?_) (fun hc7 => ?_)
    · refine r_aload_n C 1 dX6_keepsNet_26 rfl rfl ?_
      refine r_get (t := t) C koX6 h0 0 (by decide) q295 rfl rfl dX6_keepsNet_27 rfl ?_
      refine r_iconst C (nI 4) dX6_keepsNet_30 (by decide) rfl ?_
      refine r_lald (t := (t + 1)) C h1 4 rfl (by decide) (by decide) dX6_keepsNet_31 rfl ?_
      refine r_lstore (lv' := [(6, .long (ff 4)), (4, .long v), (0, .ref a), (1, .int x), (2, .long v)]) C dX6_keepsNet_32 (by decide) rfl rfl ?_
      refine r_sub (lv' := [(6, .long (ff 4)), (4, .long v), (0, .ref a), (1, .int x), (2, .long v)]) [0, 1, 2, 3, 4] rfl ?_
      refine fin _ ?_
      unfold tare9 gross9; rw [if_pos hc1, if_neg hc7]
    · refine r_lload_n C 3 dX6_keepsNet_22 rfl rfl ?_
      refine r_goto (tgt := 32) C dX6_keepsNet_23 (by decide) ?_
      refine r_lstore (lv' := [(6, .long v), (4, .long v), (0, .ref a), (1, .int x), (2, .long v)]) C dX6_keepsNet_32 (by decide) rfl rfl ?_
      refine r_sub (lv' := [(6, .long v), (4, .long v), (0, .ref a), (1, .int x), (2, .long v)]) [0, 1, 2, 3, 4] rfl ?_
      refine fin _ ?_
      unfold tare9 gross9; rw [if_pos hc1, if_pos hc7]

set_option maxHeartbeats 4000000 in
set_option maxRecDepth 20000 in
theorem c_kn_n {l : Launch} {g : cx_G} {w : wd_T} {a t af aw : Nat} {ff : Nat → Int64} (h0 : w t = some (a, ob 6 [.ref af, .ref aw])) (h1 : w (t + 1) = some (af, aL g 9 ff)) {x : Int32} {v : Int64} (hv : ¬ tare9 x v ff ≤ gross9 x v ff) : Mt l g yX6_keepsNet cX6_keepsNet 8 (some .boolean) 0 0 0 w [.ref a, .int x, .long v] (fun v9 w' => v9 = some (.int (nI 0)) ∧ w = w') := by
  refine mt_of RX6 "keepsNet" rfl rfl (by decide) (Nat.le_of_ble_eq_true rfl) [(0, .ref a), (1, .int x), (2, .long v)] rfl ?_
  intro k hkl C hin
  subst hkl
  have fin : ∀ lv9 : List (Nat × Value), lv9 = [(6, .long (tare9 x v ff)), (4, .long (gross9 x v ff)), (0, .ref a), (1, .int x), (2, .long v)] → V g k 8 w 0 0 (kQ g k (fun v9 w' => v9 = some (.int (nI 0)) ∧ w = w') 0 0) 34 lv9 [] := by
    intro lv9 h9; subst h9
    refine r_lload C 1 dX6_keepsNet_34 rfl rfl ?_
    refine r_lload C 0 dX6_keepsNet_36 rfl rfl ?_
    refine r_lcmp_lt (tgt := 46) C dX6_keepsNet_38 rfl dX6_keepsNet_39 (by decide) rfl (fun _ => ?_) (fun hz1 => absurd (Int64.not_le.mp hv) (by first | exact hz1 | exact fun zz => zz hz1))
    refine r_iconst C (nI 0) dX6_keepsNet_46 (by decide) rfl ?_
    exact r_zret C rfl rfl (by decide) (by decide) dX6_keepsNet_47 ⟨rfl, rfl⟩
  refine r_iload_n C 1 dX6_keepsNet_0 rfl rfl ?_
  refine r_iconst C (nI 3) dX6_keepsNet_1 (by decide) rfl ?_
  refine r_icmp_ne (tgt := 9) C dX6_keepsNet_2 (by decide) rfl (fun hc1 => ?_) (fun hc1 => ?_)
  · refine r_aload_n C 0 dX6_keepsNet_9 rfl rfl ?_
    refine r_get (t := t) C koX6 h0 0 (by decide) q295 rfl rfl dX6_keepsNet_10 rfl ?_
    refine r_iconst C (nI 3) dX6_keepsNet_13 (by decide) rfl ?_
    refine r_lald (t := (t + 1)) C h1 3 rfl (by decide) (by decide) dX6_keepsNet_14 rfl ?_
    refine r_lstore (lv' := [(4, .long (ff 3)), (0, .ref a), (1, .int x), (2, .long v)]) C dX6_keepsNet_15 (by decide) rfl rfl ?_
    refine r_iload_n C 2 dX6_keepsNet_17 rfl rfl ?_
    refine r_iconst C (nI 4) dX6_keepsNet_18 (by decide) rfl ?_
    refine r_icmp_ne (tgt := 26) C dX6_keepsNet_19 (by decide) rfl (fun hc3 => ?_) (fun hc3 => ?_)
    · refine r_aload_n C 1 dX6_keepsNet_26 rfl rfl ?_
      refine r_get (t := t) C koX6 h0 0 (by decide) q295 rfl rfl dX6_keepsNet_27 rfl ?_
      refine r_iconst C (nI 4) dX6_keepsNet_30 (by decide) rfl ?_
      refine r_lald (t := (t + 1)) C h1 4 rfl (by decide) (by decide) dX6_keepsNet_31 rfl ?_
      refine r_lstore (lv' := [(6, .long (ff 4)), (4, .long (ff 3)), (0, .ref a), (1, .int x), (2, .long v)]) C dX6_keepsNet_32 (by decide) rfl rfl ?_
      refine r_sub (lv' := [(6, .long (ff 4)), (4, .long (ff 3)), (0, .ref a), (1, .int x), (2, .long v)]) [0, 1, 2, 3, 4] rfl ?_
      refine fin _ ?_
      unfold tare9 gross9; rw [if_neg hc1, if_neg hc3]
    · refine r_lload_n C 3 dX6_keepsNet_22 rfl rfl ?_
      refine r_goto (tgt := 32) C dX6_keepsNet_23 (by decide) ?_
      refine r_lstore (lv' := [(6, .long v), (4, .long (ff 3)), (0, .ref a), (1, .int x), (2, .long v)]) C dX6_keepsNet_32 (by decide) rfl rfl ?_
      refine r_sub (lv' := [(6, .long v), (4, .long (ff 3)), (0, .ref a), (1, .int x), (2, .long v)]) [0, 1, 2, 3, 4] rfl ?_
      refine fin _ ?_
      unfold tare9 gross9; rw [if_neg hc1, if_pos hc3]
  · refine r_lload_n C 2 dX6_keepsNet_5 rfl rfl ?_
    refine r_goto (tgt := 15) C dX6_keepsNet_6 (by decide) ?_
    refine r_lstore (lv' := [(4, .long v), (0, .ref a), (1, .int x), (2, .long v)]) C dX6_keepsNet_15 (by decide) rfl rfl ?_
    refine r_iload_n C 2 dX6_keepsNet_17 rfl rfl ?_
    refine r_iconst C (nI 4) dX6_keepsNet_18 (by decide) rfl ?_
    refine r_icmp_ne (tgt := 26) C dX6_keepsNet_19 (by decide) rfl (fun hc7 => ?_) (fun hc7 => ?_)
    · refine r_aload_n C 1 dX6_keepsNet_26 rfl rfl ?_
      refine r_get (t := t) C koX6 h0 0 (by decide) q295 rfl rfl dX6_keepsNet_27 rfl ?_
      refine r_iconst C (nI 4) dX6_keepsNet_30 (by decide) rfl ?_
      refine r_lald (t := (t + 1)) C h1 4 rfl (by decide) (by decide) dX6_keepsNet_31 rfl ?_
      refine r_lstore (lv' := [(6, .long (ff 4)), (4, .long v), (0, .ref a), (1, .int x), (2, .long v)]) C dX6_keepsNet_32 (by decide) rfl rfl ?_
      refine r_sub (lv' := [(6, .long (ff 4)), (4, .long v), (0, .ref a), (1, .int x), (2, .long v)]) [0, 1, 2, 3, 4] rfl ?_
      refine fin _ ?_
      unfold tare9 gross9; rw [if_pos hc1, if_neg hc7]
    · refine r_lload_n C 3 dX6_keepsNet_22 rfl rfl ?_
      refine r_goto (tgt := 32) C dX6_keepsNet_23 (by decide) ?_
      refine r_lstore (lv' := [(6, .long v), (4, .long v), (0, .ref a), (1, .int x), (2, .long v)]) C dX6_keepsNet_32 (by decide) rfl rfl ?_
      refine r_sub (lv' := [(6, .long v), (4, .long v), (0, .ref a), (1, .int x), (2, .long v)]) [0, 1, 2, 3, 4] rfl ?_
      refine fin _ ?_
      unfold tare9 gross9; rw [if_pos hc1, if_pos hc7]
end
