-- ===== PART A: goes FIRST, ahead of the names: the tables' words, and 'selects' of the private methods out of them =====
/-- a private method of a class that the tables say can be made, by its rows of tables_1 -/
def lw_okq (q : MethodName × Nat) : Prop := (q.1.cls ≠ "java/lang/invoke/MethodHandle" ∧ q.1.cls ≠ "java/lang/invoke/VarHandle") ∧ Cond.instantiable q.1.cls q.2 ∈ tables_1 ∧ Cond.privateMethod q.1 ∈ tables_1 ∧ Cond.instanceMethod q.1 ∈ tables_1
theorem lw_p0 : lw_okq (⟨"PagePairs$State", "settingOrSlowness", "(I)I"⟩, 11) := ⟨⟨by decide +kernel, by decide +kernel⟩, List.mem_of_getElem? (i := 22) (by decide +kernel), List.mem_of_getElem? (i := 307) (by decide +kernel), List.mem_of_getElem? (i := 308) (by decide +kernel)⟩
theorem lw_p1 : lw_okq (⟨"PagePairs$History", "stateAt", "(I)LPagePairs$State;"⟩, 2) := ⟨⟨by decide +kernel, by decide +kernel⟩, List.mem_of_getElem? (i := 189) (by decide +kernel), List.mem_of_getElem? (i := 322) (by decide +kernel), List.mem_of_getElem? (i := 323) (by decide +kernel)⟩
theorem lw_p2 : lw_okq (⟨"PagePairs$Requests", "move", "(II)V"⟩, 5) := ⟨⟨by decide +kernel, by decide +kernel⟩, List.mem_of_getElem? (i := 48) (by decide +kernel), List.mem_of_getElem? (i := 458) (by decide +kernel), List.mem_of_getElem? (i := 459) (by decide +kernel)⟩
theorem lw_p3 : lw_okq (⟨"PagePairs$Requests", "put", "(IIIII)V"⟩, 5) := ⟨⟨by decide +kernel, by decide +kernel⟩, List.mem_of_getElem? (i := 48) (by decide +kernel), List.mem_of_getElem? (i := 462) (by decide +kernel), List.mem_of_getElem? (i := 463) (by decide +kernel)⟩
theorem lw_p4 : lw_okq (⟨"PagePairs", "keepChange", "(I)I"⟩, 5) := ⟨⟨by decide +kernel, by decide +kernel⟩, List.mem_of_getElem? (i := 14) (by decide +kernel), List.mem_of_getElem? (i := 466) (by decide +kernel), List.mem_of_getElem? (i := 467) (by decide +kernel)⟩
theorem lw_p5 : lw_okq (⟨"PagePairs$History", "dropOldest", "()V"⟩, 2) := ⟨⟨by decide +kernel, by decide +kernel⟩, List.mem_of_getElem? (i := 189) (by decide +kernel), List.mem_of_getElem? (i := 474) (by decide +kernel), List.mem_of_getElem? (i := 475) (by decide +kernel)⟩
theorem lw_p6 : lw_okq (⟨"PagePairs$State", "takeRequests", "()V"⟩, 11) := ⟨⟨by decide +kernel, by decide +kernel⟩, List.mem_of_getElem? (i := 22) (by decide +kernel), List.mem_of_getElem? (i := 490) (by decide +kernel), List.mem_of_getElem? (i := 491) (by decide +kernel)⟩
theorem lw_p7 : lw_okq (⟨"PagePairs$State", "isFull", "()Z"⟩, 11) := ⟨⟨by decide +kernel, by decide +kernel⟩, List.mem_of_getElem? (i := 22) (by decide +kernel), List.mem_of_getElem? (i := 494) (by decide +kernel), List.mem_of_getElem? (i := 495) (by decide +kernel)⟩
theorem lw_p8 : lw_okq (⟨"PagePairs$State", "isOutdated", "()Z"⟩, 11) := ⟨⟨by decide +kernel, by decide +kernel⟩, List.mem_of_getElem? (i := 22) (by decide +kernel), List.mem_of_getElem? (i := 498) (by decide +kernel), List.mem_of_getElem? (i := 499) (by decide +kernel)⟩
theorem lw_p9 : lw_okq (⟨"PagePairs$State", "beginWriting", "()V"⟩, 11) := ⟨⟨by decide +kernel, by decide +kernel⟩, List.mem_of_getElem? (i := 22) (by decide +kernel), List.mem_of_getElem? (i := 506) (by decide +kernel), List.mem_of_getElem? (i := 507) (by decide +kernel)⟩
theorem lw_p10 : lw_okq (⟨"PagePairs$State", "goOn", "(I)V"⟩, 11) := ⟨⟨by decide +kernel, by decide +kernel⟩, List.mem_of_getElem? (i := 22) (by decide +kernel), List.mem_of_getElem? (i := 533) (by decide +kernel), List.mem_of_getElem? (i := 534) (by decide +kernel)⟩
theorem lw_p11 : lw_okq (⟨"PagePairs$State", "finishWriting", "()V"⟩, 11) := ⟨⟨by decide +kernel, by decide +kernel⟩, List.mem_of_getElem? (i := 22) (by decide +kernel), List.mem_of_getElem? (i := 545) (by decide +kernel), List.mem_of_getElem? (i := 546) (by decide +kernel)⟩
theorem lw_p12 : lw_okq (⟨"PagePairs$State", "tearWriting", "()V"⟩, 11) := ⟨⟨by decide +kernel, by decide +kernel⟩, List.mem_of_getElem? (i := 22) (by decide +kernel), List.mem_of_getElem? (i := 573) (by decide +kernel), List.mem_of_getElem? (i := 574) (by decide +kernel)⟩
theorem lw_p13 : lw_okq (⟨"PagePairs$State", "askForCopy", "(II)V"⟩, 11) := ⟨⟨by decide +kernel, by decide +kernel⟩, List.mem_of_getElem? (i := 22) (by decide +kernel), List.mem_of_getElem? (i := 595) (by decide +kernel), List.mem_of_getElem? (i := 596) (by decide +kernel)⟩
theorem lw_p14 : lw_okq (⟨"PagePairs$Text", "sign", "()I"⟩, 6) := ⟨⟨by decide +kernel, by decide +kernel⟩, List.mem_of_getElem? (i := 205) (by decide +kernel), List.mem_of_getElem? (i := 716) (by decide +kernel), List.mem_of_getElem? (i := 717) (by decide +kernel)⟩
theorem lw_p15 : lw_okq (⟨"PagePairs$Text", "readNumber", "()I"⟩, 6) := ⟨⟨by decide +kernel, by decide +kernel⟩, List.mem_of_getElem? (i := 205) (by decide +kernel), List.mem_of_getElem? (i := 724) (by decide +kernel), List.mem_of_getElem? (i := 725) (by decide +kernel)⟩
def lw_privs_1 : List (MethodName × Nat) := [(⟨"PagePairs$State", "settingOrSlowness", "(I)I"⟩, 11), (⟨"PagePairs$History", "stateAt", "(I)LPagePairs$State;"⟩, 2), (⟨"PagePairs$Requests", "move", "(II)V"⟩, 5), (⟨"PagePairs$Requests", "put", "(IIIII)V"⟩, 5), (⟨"PagePairs", "keepChange", "(I)I"⟩, 5), (⟨"PagePairs$History", "dropOldest", "()V"⟩, 2), (⟨"PagePairs$State", "takeRequests", "()V"⟩, 11), (⟨"PagePairs$State", "isFull", "()Z"⟩, 11), (⟨"PagePairs$State", "isOutdated", "()Z"⟩, 11), (⟨"PagePairs$State", "beginWriting", "()V"⟩, 11), (⟨"PagePairs$State", "goOn", "(I)V"⟩, 11), (⟨"PagePairs$State", "finishWriting", "()V"⟩, 11), (⟨"PagePairs$State", "tearWriting", "()V"⟩, 11), (⟨"PagePairs$State", "askForCopy", "(II)V"⟩, 11), (⟨"PagePairs$Text", "sign", "()I"⟩, 6), (⟨"PagePairs$Text", "readNumber", "()I"⟩, 6)]
theorem lw_r1 : ∀ q ∈ lw_privs_1, lw_okq q := List.forall_mem_cons.mpr ⟨lw_p0, List.forall_mem_cons.mpr ⟨lw_p1, List.forall_mem_cons.mpr ⟨lw_p2, List.forall_mem_cons.mpr ⟨lw_p3, List.forall_mem_cons.mpr ⟨lw_p4, List.forall_mem_cons.mpr ⟨lw_p5, List.forall_mem_cons.mpr ⟨lw_p6, List.forall_mem_cons.mpr ⟨lw_p7, List.forall_mem_cons.mpr ⟨lw_p8, List.forall_mem_cons.mpr ⟨lw_p9, List.forall_mem_cons.mpr ⟨lw_p10, List.forall_mem_cons.mpr ⟨lw_p11, List.forall_mem_cons.mpr ⟨lw_p12, List.forall_mem_cons.mpr ⟨lw_p13, List.forall_mem_cons.mpr ⟨lw_p14, List.forall_mem_cons.mpr ⟨lw_p15, fun _ h => absurd h List.not_mem_nil⟩⟩⟩⟩⟩⟩⟩⟩⟩⟩⟩⟩⟩⟩⟩⟩
theorem lw_p16 : lw_okq (⟨"PagePairs$Text", "readSign", "(I)Z"⟩, 6) := ⟨⟨by decide +kernel, by decide +kernel⟩, List.mem_of_getElem? (i := 205) (by decide +kernel), List.mem_of_getElem? (i := 728) (by decide +kernel), List.mem_of_getElem? (i := 729) (by decide +kernel)⟩
theorem lw_p17 : lw_okq (⟨"PagePairs$Script", "tellFault", "(II)V"⟩, 5) := ⟨⟨by decide +kernel, by decide +kernel⟩, List.mem_of_getElem? (i := 234) (by decide +kernel), List.mem_of_getElem? (i := 732) (by decide +kernel), List.mem_of_getElem? (i := 733) (by decide +kernel)⟩
def lw_privs_2 : List (MethodName × Nat) := [(⟨"PagePairs$Text", "readSign", "(I)Z"⟩, 6), (⟨"PagePairs$Script", "tellFault", "(II)V"⟩, 5)]
theorem lw_r2 : ∀ q ∈ lw_privs_2, lw_okq q := List.forall_mem_cons.mpr ⟨lw_p16, List.forall_mem_cons.mpr ⟨lw_p17, fun _ h => absurd h List.not_mem_nil⟩⟩
def lw_privs : List (MethodName × Nat) := lw_privs_1 ++ (lw_privs_2)
def lw_tbl : List Cond := k2_sels lw_privs ++ tables_1
theorem lw_privs_ok : ∀ q ∈ lw_privs, lw_okq q := by
  show ∀ q ∈ lw_privs_1 ++ (lw_privs_2), lw_okq q
  exact List.forall_mem_append.mpr ⟨lw_r1, lw_r2⟩
def RX0 : String := "PagePairs$Cells"
def TX0 : u_T := fun k => match k with
  | 0 => ("PagePairs$Cells", "kinds", "[I", true)
  | 1 => ("PagePairs$Cells", "keys", "[I", true)
  | 2 => ("PagePairs$Cells", "values", "[I", true)
  | _ => ("PagePairs$Cells", "stamps", "[I", true)
def tyX0 : Nat → FieldType := fun k => match k with
  | 0 => .array .int
  | 1 => .array .int
  | 2 => .array .int
  | _ => .array .int
theorem nmX0 : ∀ a, a < 4 → ∀ b, b < 4 → a ≠ b → (TX0 a).2.1 ≠ (TX0 b).2.1 := by decide +kernel
theorem tyX0_ok : ∀ k, k < 4 → parseFieldDescriptor (TX0 k).2.2.1 = some (tyX0 k) := by decide +kernel
abbrev cX0_init : ByteArray := prog_2_method_1_code
def yX0_init : MethodName := ⟨RX0, "<init>", "()V"⟩
abbrev cX0_copyFrom : ByteArray := prog_2_method_2_code
def yX0_copyFrom : MethodName := ⟨RX0, "copyFrom", "(LPagePairs$Cells;)V"⟩
abbrev cX0_kind : ByteArray := prog_2_method_3_code
def yX0_kind : MethodName := ⟨RX0, "kind", "(I)I"⟩
abbrev cX0_key : ByteArray := prog_2_method_4_code
def yX0_key : MethodName := ⟨RX0, "key", "(I)I"⟩
abbrev cX0_value : ByteArray := prog_2_method_5_code
def yX0_value : MethodName := ⟨RX0, "value", "(I)I"⟩
abbrev cX0_stamp : ByteArray := prog_2_method_6_code
def yX0_stamp : MethodName := ⟨RX0, "stamp", "(I)I"⟩
abbrev cX0_fact : ByteArray := prog_2_method_7_code
def yX0_fact : MethodName := ⟨RX0, "fact", "(II)I"⟩
abbrev cX0_begin : ByteArray := prog_2_method_8_code
def yX0_begin : MethodName := ⟨RX0, "begin", "(IIII)V"⟩
abbrev cX0_beginBackup : ByteArray := prog_2_method_9_code
def yX0_beginBackup : MethodName := ⟨RX0, "beginBackup", "(II)V"⟩
abbrev cX0_mark : ByteArray := prog_2_method_10_code
def yX0_mark : MethodName := ⟨RX0, "mark", "(II)V"⟩
abbrev cX0_blankBlock : ByteArray := prog_2_method_11_code
def yX0_blankBlock : MethodName := ⟨RX0, "blankBlock", "(I)V"⟩
abbrev cX0_isBlankBlock : ByteArray := prog_2_method_12_code
def yX0_isBlankBlock : MethodName := ⟨RX0, "isBlankBlock", "(I)Z"⟩
abbrev cX0_place : ByteArray := prog_2_method_13_code
def yX0_place : MethodName := ⟨RX0, "place", "(I)I"⟩
abbrev cX0_isPlace : ByteArray := prog_2_method_14_code
def yX0_isPlace : MethodName := ⟨RX0, "isPlace", "(I)Z"⟩
abbrev cX0_placeStamp : ByteArray := prog_2_method_15_code
def yX0_placeStamp : MethodName := ⟨RX0, "placeStamp", "(I)I"⟩
abbrev cX0_placesInBlock : ByteArray := prog_2_method_16_code
def yX0_placesInBlock : MethodName := ⟨RX0, "placesInBlock", "(I)I"⟩
abbrev cX0_tornPages : ByteArray := prog_2_method_17_code
def yX0_tornPages : MethodName := ⟨RX0, "tornPages", "()I"⟩
abbrev cX0_keysWithPlace : ByteArray := prog_2_method_18_code
def yX0_keysWithPlace : MethodName := ⟨RX0, "keysWithPlace", "()I"⟩
def RX1 : String := "PagePairs$History"
def TX1 : u_T := fun k => match k with
  | 0 => ("PagePairs$History", "states", "[LPagePairs$State;", true)
  | _ => ("PagePairs$History", "size", "I", false)
def tyX1 : Nat → FieldType := fun k => match k with
  | 0 => .array (.object "PagePairs$State")
  | _ => .int
theorem nmX1 : ∀ a, a < 2 → ∀ b, b < 2 → a ≠ b → (TX1 a).2.1 ≠ (TX1 b).2.1 := by decide +kernel
theorem tyX1_ok : ∀ k, k < 2 → parseFieldDescriptor (TX1 k).2.2.1 = some (tyX1 k) := by decide +kernel
abbrev cX1_init : ByteArray := prog_3_method_1_code
def yX1_init : MethodName := ⟨RX1, "<init>", "()V"⟩
abbrev cX1_size : ByteArray := prog_3_method_2_code
def yX1_size : MethodName := ⟨RX1, "size", "()I"⟩
abbrev cX1_note : ByteArray := prog_3_method_3_code
def yX1_note : MethodName := ⟨RX1, "note", "(LPagePairs$State;)V"⟩
abbrev cX1_keep : ByteArray := prog_3_method_4_code
def yX1_keep : MethodName := ⟨RX1, "keep", "()V"⟩
abbrev cX1_restore : ByteArray := prog_3_method_5_code
def yX1_restore : MethodName := ⟨RX1, "restore", "(LPagePairs$State;)I"⟩
abbrev cX1_stateAt : ByteArray := prog_3_method_6_code
def yX1_stateAt : MethodName := ⟨RX1, "stateAt", "(I)LPagePairs$State;"⟩
abbrev cX1_dropOldest : ByteArray := prog_3_method_7_code
def yX1_dropOldest : MethodName := ⟨RX1, "dropOldest", "()V"⟩
def RX2 : String := "PagePairs$Requests"
def TX2 : u_T := fun k => match k with
  | 0 => ("PagePairs$Requests", "keys", "[I", true)
  | 1 => ("PagePairs$Requests", "values", "[I", true)
  | 2 => ("PagePairs$Requests", "urgencies", "[I", true)
  | 3 => ("PagePairs$Requests", "stamps", "[I", true)
  | _ => ("PagePairs$Requests", "size", "I", false)
def tyX2 : Nat → FieldType := fun k => match k with
  | 0 => .array .int
  | 1 => .array .int
  | 2 => .array .int
  | 3 => .array .int
  | _ => .int
theorem nmX2 : ∀ a, a < 5 → ∀ b, b < 5 → a ≠ b → (TX2 a).2.1 ≠ (TX2 b).2.1 := by decide +kernel
theorem tyX2_ok : ∀ k, k < 5 → parseFieldDescriptor (TX2 k).2.2.1 = some (tyX2 k) := by decide +kernel
abbrev cX2_init : ByteArray := prog_4_method_1_code
def yX2_init : MethodName := ⟨RX2, "<init>", "()V"⟩
abbrev cX2_copyFrom : ByteArray := prog_4_method_2_code
def yX2_copyFrom : MethodName := ⟨RX2, "copyFrom", "(LPagePairs$Requests;)V"⟩
abbrev cX2_size : ByteArray := prog_4_method_3_code
def yX2_size : MethodName := ⟨RX2, "size", "()I"⟩
abbrev cX2_key : ByteArray := prog_4_method_4_code
def yX2_key : MethodName := ⟨RX2, "key", "(I)I"⟩
abbrev cX2_value : ByteArray := prog_4_method_5_code
def yX2_value : MethodName := ⟨RX2, "value", "(I)I"⟩
abbrev cX2_urgency : ByteArray := prog_4_method_6_code
def yX2_urgency : MethodName := ⟨RX2, "urgency", "(I)I"⟩
abbrev cX2_stamp : ByteArray := prog_4_method_7_code
def yX2_stamp : MethodName := ⟨RX2, "stamp", "(I)I"⟩
abbrev cX2_add : ByteArray := prog_4_method_8_code
def yX2_add : MethodName := ⟨RX2, "add", "(IIII)V"⟩
abbrev cX2_dropFirst : ByteArray := prog_4_method_9_code
def yX2_dropFirst : MethodName := ⟨RX2, "dropFirst", "()V"⟩
abbrev cX2_makeEmpty : ByteArray := prog_4_method_10_code
def yX2_makeEmpty : MethodName := ⟨RX2, "makeEmpty", "()V"⟩
abbrev cX2_move : ByteArray := prog_4_method_11_code
def yX2_move : MethodName := ⟨RX2, "move", "(II)V"⟩
abbrev cX2_put : ByteArray := prog_4_method_12_code
def yX2_put : MethodName := ⟨RX2, "put", "(IIIII)V"⟩
def RX3 : String := "PagePairs$Script"
def TX3 : u_T := fun k => match k with
  | 0 => ("PagePairs$Script", "done", "I", false)
  | 1 => ("PagePairs$Script", "faulty", "Z", false)
  | 2 => ("PagePairs$Script", "position", "I", false)
  | 3 => ("PagePairs$Script", "reason", "I", false)
  | _ => ("PagePairs$Script", "cause", "I", false)
def tyX3 : Nat → FieldType := fun k => match k with
  | 0 => .int
  | 1 => .boolean
  | 2 => .int
  | 3 => .int
  | _ => .int
theorem nmX3 : ∀ a, a < 5 → ∀ b, b < 5 → a ≠ b → (TX3 a).2.1 ≠ (TX3 b).2.1 := by decide +kernel
theorem tyX3_ok : ∀ k, k < 5 → parseFieldDescriptor (TX3 k).2.2.1 = some (tyX3 k) := by decide +kernel
abbrev cX3_init : ByteArray := prog_5_method_1_code
def yX3_init : MethodName := ⟨RX3, "<init>", "()V"⟩
abbrev cX3_run : ByteArray := prog_5_method_2_code
def yX3_run : MethodName := ⟨RX3, "run", "(LPagePairs$Text;LPagePairs$State;)V"⟩
abbrev cX3_hasFault : ByteArray := prog_5_method_3_code
def yX3_hasFault : MethodName := ⟨RX3, "hasFault", "()Z"⟩
abbrev cX3_commandsDone : ByteArray := prog_5_method_4_code
def yX3_commandsDone : MethodName := ⟨RX3, "commandsDone", "()I"⟩
abbrev cX3_faultFact : ByteArray := prog_5_method_5_code
def yX3_faultFact : MethodName := ⟨RX3, "faultFact", "(I)I"⟩
abbrev cX3_tellFault : ByteArray := prog_5_method_6_code
def yX3_tellFault : MethodName := ⟨RX3, "tellFault", "(II)V"⟩
abbrev cX3_perform : ByteArray := prog_5_method_7_code
def yX3_perform : MethodName := ⟨RX3, "perform", "(LPagePairs$Text;LPagePairs$State;)I"⟩
def RX4 : String := "PagePairs$State"
def TX4 : u_T := fun k => match k with
  | 0 => ("PagePairs$State", "cells", "LPagePairs$Cells;", true)
  | 1 => ("PagePairs$State", "requests", "LPagePairs$Requests;", true)
  | 2 => ("PagePairs$State", "writing", "LPagePairs$Writing;", true)
  | 3 => ("PagePairs$State", "tallies", "LPagePairs$Tallies;", true)
  | 4 => ("PagePairs$State", "settings", "[I", true)
  | 5 => ("PagePairs$State", "slowness", "[I", true)
  | 6 => ("PagePairs$State", "erased", "[I", true)
  | 7 => ("PagePairs$State", "stampsAhead", "[I", true)
  | 8 => ("PagePairs$State", "power", "Z", false)
  | 9 => ("PagePairs$State", "active", "I", false)
  | _ => ("PagePairs$State", "next", "I", false)
def tyX4 : Nat → FieldType := fun k => match k with
  | 0 => .object "PagePairs$Cells"
  | 1 => .object "PagePairs$Requests"
  | 2 => .object "PagePairs$Writing"
  | 3 => .object "PagePairs$Tallies"
  | 4 => .array .int
  | 5 => .array .int
  | 6 => .array .int
  | 7 => .array .int
  | 8 => .boolean
  | 9 => .int
  | _ => .int
theorem nmX4 : ∀ a, a < 11 → ∀ b, b < 11 → a ≠ b → (TX4 a).2.1 ≠ (TX4 b).2.1 := by decide +kernel
theorem tyX4_ok : ∀ k, k < 11 → parseFieldDescriptor (TX4 k).2.2.1 = some (tyX4 k) := by decide +kernel
abbrev cX4_init : ByteArray := prog_6_method_1_code
def yX4_init : MethodName := ⟨RX4, "<init>", "()V"⟩
abbrev cX4_copyFrom : ByteArray := prog_6_method_2_code
def yX4_copyFrom : MethodName := ⟨RX4, "copyFrom", "(LPagePairs$State;)V"⟩
abbrev cX4_askFor : ByteArray := prog_6_method_4_code
def yX4_askFor : MethodName := ⟨RX4, "askFor", "(III)I"⟩
abbrev cX4_letTicks : ByteArray := prog_6_method_5_code
def yX4_letTicks : MethodName := ⟨RX4, "letTicks", "(I)I"⟩
abbrev cX4_pass : ByteArray := prog_6_method_6_code
def yX4_pass : MethodName := ⟨RX4, "pass", "(I)V"⟩
abbrev cX4_isFull : ByteArray := prog_6_method_8_code
def yX4_isFull : MethodName := ⟨RX4, "isFull", "()Z"⟩
abbrev cX4_takeRequests : ByteArray := prog_6_method_9_code
def yX4_takeRequests : MethodName := ⟨RX4, "takeRequests", "()V"⟩
abbrev cX4_isOutdated : ByteArray := prog_6_method_10_code
def yX4_isOutdated : MethodName := ⟨RX4, "isOutdated", "()Z"⟩
abbrev cX4_beginWriting : ByteArray := prog_6_method_11_code
def yX4_beginWriting : MethodName := ⟨RX4, "beginWriting", "()V"⟩
abbrev cX4_goOn : ByteArray := prog_6_method_12_code
def yX4_goOn : MethodName := ⟨RX4, "goOn", "(I)V"⟩
abbrev cX4_finishWriting : ByteArray := prog_6_method_13_code
def yX4_finishWriting : MethodName := ⟨RX4, "finishWriting", "()V"⟩
abbrev cX4_cutPower : ByteArray := prog_6_method_14_code
def yX4_cutPower : MethodName := ⟨RX4, "cutPower", "()I"⟩
abbrev cX4_loseByCut : ByteArray := prog_6_method_15_code
def yX4_loseByCut : MethodName := ⟨RX4, "loseByCut", "()I"⟩
abbrev cX4_tearWriting : ByteArray := prog_6_method_16_code
def yX4_tearWriting : MethodName := ⟨RX4, "tearWriting", "()V"⟩
abbrev cX4_restorePower : ByteArray := prog_6_method_17_code
def yX4_restorePower : MethodName := ⟨RX4, "restorePower", "()I"⟩
abbrev cX4_askForCopy : ByteArray := prog_6_method_18_code
def yX4_askForCopy : MethodName := ⟨RX4, "askForCopy", "(II)V"⟩
abbrev cX4_turnToOther : ByteArray := prog_6_method_19_code
def yX4_turnToOther : MethodName := ⟨RX4, "turnToOther", "()I"⟩
abbrev cX4_cleanBlock : ByteArray := prog_6_method_20_code
def yX4_cleanBlock : MethodName := ⟨RX4, "cleanBlock", "(I)I"⟩
abbrev cX4_eraseBlock : ByteArray := prog_6_method_21_code
def yX4_eraseBlock : MethodName := ⟨RX4, "eraseBlock", "(I)I"⟩
abbrev cX4_changeSlowness : ByteArray := prog_6_method_22_code
def yX4_changeSlowness : MethodName := ⟨RX4, "changeSlowness", "(II)I"⟩
abbrev cX4_changeSetting : ByteArray := prog_6_method_23_code
def yX4_changeSetting : MethodName := ⟨RX4, "changeSetting", "(II)I"⟩
abbrev cX4_placeFact : ByteArray := prog_6_method_25_code
def yX4_placeFact : MethodName := ⟨RX4, "placeFact", "(II)I"⟩
abbrev cX4_pageFact : ByteArray := prog_6_method_26_code
def yX4_pageFact : MethodName := ⟨RX4, "pageFact", "(III)I"⟩
abbrev cX4_backupFact : ByteArray := prog_6_method_27_code
def yX4_backupFact : MethodName := ⟨RX4, "backupFact", "(III)I"⟩
abbrev cX4_requestFact : ByteArray := prog_6_method_28_code
def yX4_requestFact : MethodName := ⟨RX4, "requestFact", "(II)I"⟩
abbrev cX4_numberOf : ByteArray := prog_6_method_29_code
def yX4_numberOf : MethodName := ⟨RX4, "numberOf", "(I)I"⟩
abbrev cX4_settingOrSlowness : ByteArray := prog_6_method_30_code
def yX4_settingOrSlowness : MethodName := ⟨RX4, "settingOrSlowness", "(I)I"⟩
def RX5 : String := "PagePairs$Tallies"
def TX5 : u_T := fun k => match k with
  | 0 => ("PagePairs$Tallies", "time", "I", false)
  | 1 => ("PagePairs$Tallies", "stamps", "I", false)
  | 2 => ("PagePairs$Tallies", "acknowledged", "I", false)
  | 3 => ("PagePairs$Tallies", "goneByCuts", "I", false)
  | 4 => ("PagePairs$Tallies", "lostKeys", "I", false)
  | 5 => ("PagePairs$Tallies", "cuts", "I", false)
  | _ => ("PagePairs$Tallies", "backups", "I", false)
def tyX5 : Nat → FieldType := fun k => match k with
  | 0 => .int
  | 1 => .int
  | 2 => .int
  | 3 => .int
  | 4 => .int
  | 5 => .int
  | _ => .int
theorem nmX5 : ∀ a, a < 7 → ∀ b, b < 7 → a ≠ b → (TX5 a).2.1 ≠ (TX5 b).2.1 := by decide +kernel
theorem tyX5_ok : ∀ k, k < 7 → parseFieldDescriptor (TX5 k).2.2.1 = some (tyX5 k) := by decide +kernel
abbrev cX5_init : ByteArray := prog_7_method_1_code
def yX5_init : MethodName := ⟨RX5, "<init>", "()V"⟩
abbrev cX5_copyFrom : ByteArray := prog_7_method_2_code
def yX5_copyFrom : MethodName := ⟨RX5, "copyFrom", "(LPagePairs$Tallies;)V"⟩
def RX6 : String := "PagePairs$Text"
def TX6 : u_T := fun k => match k with
  | 0 => ("PagePairs$Text", "signs", "[I", true)
  | 1 => ("PagePairs$Text", "length", "I", false)
  | 2 => ("PagePairs$Text", "cursor", "I", false)
  | 3 => ("PagePairs$Text", "command", "I", false)
  | 4 => ("PagePairs$Text", "first", "I", false)
  | _ => ("PagePairs$Text", "second", "I", false)
def tyX6 : Nat → FieldType := fun k => match k with
  | 0 => .array .int
  | 1 => .int
  | 2 => .int
  | 3 => .int
  | 4 => .int
  | _ => .int
theorem nmX6 : ∀ a, a < 6 → ∀ b, b < 6 → a ≠ b → (TX6 a).2.1 ≠ (TX6 b).2.1 := by decide +kernel
theorem tyX6_ok : ∀ k, k < 6 → parseFieldDescriptor (TX6 k).2.2.1 = some (tyX6 k) := by decide +kernel
abbrev cX6_init : ByteArray := prog_8_method_1_code
def yX6_init : MethodName := ⟨RX6, "<init>", "()V"⟩
abbrev cX6_length : ByteArray := prog_8_method_2_code
def yX6_length : MethodName := ⟨RX6, "length", "()I"⟩
abbrev cX6_append : ByteArray := prog_8_method_3_code
def yX6_append : MethodName := ⟨RX6, "append", "(I)I"⟩
abbrev cX6_makeEmpty : ByteArray := prog_8_method_4_code
def yX6_makeEmpty : MethodName := ⟨RX6, "makeEmpty", "()I"⟩
abbrev cX6_rewind : ByteArray := prog_8_method_5_code
def yX6_rewind : MethodName := ⟨RX6, "rewind", "()V"⟩
abbrev cX6_hasMore : ByteArray := prog_8_method_6_code
def yX6_hasMore : MethodName := ⟨RX6, "hasMore", "()Z"⟩
abbrev cX6_readCommand : ByteArray := prog_8_method_7_code
def yX6_readCommand : MethodName := ⟨RX6, "readCommand", "()Z"⟩
abbrev cX6_numbersOf : ByteArray := prog_8_method_8_code
def yX6_numbersOf : MethodName := ⟨RX6, "numbersOf", "(I)I"⟩
abbrev cX6_readNumber : ByteArray := prog_8_method_9_code
def yX6_readNumber : MethodName := ⟨RX6, "readNumber", "()I"⟩
abbrev cX6_readSign : ByteArray := prog_8_method_10_code
def yX6_readSign : MethodName := ⟨RX6, "readSign", "(I)Z"⟩
abbrev cX6_sign : ByteArray := prog_8_method_11_code
def yX6_sign : MethodName := ⟨RX6, "sign", "()I"⟩
def RX7 : String := "PagePairs$Writing"
def TX7 : u_T := fun k => match k with
  | 0 => ("PagePairs$Writing", "busy", "Z", false)
  | 1 => ("PagePairs$Writing", "late", "Z", false)
  | 2 => ("PagePairs$Writing", "urgency", "I", false)
  | 3 => ("PagePairs$Writing", "pageCell", "I", false)
  | 4 => ("PagePairs$Writing", "earlyCell", "I", false)
  | 5 => ("PagePairs$Writing", "backupCell", "I", false)
  | 6 => ("PagePairs$Writing", "ownTicks", "I", false)
  | _ => ("PagePairs$Writing", "left", "I", false)
def tyX7 : Nat → FieldType := fun k => match k with
  | 0 => .boolean
  | 1 => .boolean
  | 2 => .int
  | 3 => .int
  | 4 => .int
  | 5 => .int
  | 6 => .int
  | _ => .int
theorem nmX7 : ∀ a, a < 8 → ∀ b, b < 8 → a ≠ b → (TX7 a).2.1 ≠ (TX7 b).2.1 := by decide +kernel
theorem tyX7_ok : ∀ k, k < 8 → parseFieldDescriptor (TX7 k).2.2.1 = some (tyX7 k) := by decide +kernel
abbrev cX7_init : ByteArray := prog_9_method_1_code
def yX7_init : MethodName := ⟨RX7, "<init>", "()V"⟩
abbrev cX7_copyFrom : ByteArray := prog_9_method_2_code
def yX7_copyFrom : MethodName := ⟨RX7, "copyFrom", "(LPagePairs$Writing;)V"⟩
abbrev cX7_isBehindBackup : ByteArray := prog_9_method_3_code
def yX7_isBehindBackup : MethodName := ⟨RX7, "isBehindBackup", "()Z"⟩
abbrev cX7_hasBegunItself : ByteArray := prog_9_method_4_code
def yX7_hasBegunItself : MethodName := ⟨RX7, "hasBegunItself", "()Z"⟩
abbrev cX7_isAskedFor : ByteArray := prog_9_method_5_code
def yX7_isAskedFor : MethodName := ⟨RX7, "isAskedFor", "()Z"⟩
def RX8 : String := "PagePairs"
def TX8 : u_T := fun k => match k with
  | 0 => ("PagePairs", "now", "LPagePairs$State;", true)
  | 1 => ("PagePairs", "trial", "LPagePairs$State;", true)
  | 2 => ("PagePairs", "history", "LPagePairs$History;", true)
  | 3 => ("PagePairs", "text", "LPagePairs$Text;", true)
  | _ => ("PagePairs", "script", "LPagePairs$Script;", true)
def tyX8 : Nat → FieldType := fun k => match k with
  | 0 => .object "PagePairs$State"
  | 1 => .object "PagePairs$State"
  | 2 => .object "PagePairs$History"
  | 3 => .object "PagePairs$Text"
  | _ => .object "PagePairs$Script"
theorem nmX8 : ∀ a, a < 5 → ∀ b, b < 5 → a ≠ b → (TX8 a).2.1 ≠ (TX8 b).2.1 := by decide +kernel
theorem tyX8_ok : ∀ k, k < 5 → parseFieldDescriptor (TX8 k).2.2.1 = some (tyX8 k) := by decide +kernel
abbrev cX8_init : ByteArray := prog_1_method_1_code
def yX8_init : MethodName := ⟨RX8, "<init>", "()V"⟩
abbrev cX8_write : ByteArray := prog_1_method_2_code
def yX8_write : MethodName := ⟨RX8, "write", "(III)I"⟩
abbrev cX8_tick : ByteArray := prog_1_method_3_code
def yX8_tick : MethodName := ⟨RX8, "tick", "(I)I"⟩
abbrev cX8_cut : ByteArray := prog_1_method_4_code
def yX8_cut : MethodName := ⟨RX8, "cut", "()I"⟩
abbrev cX8_on : ByteArray := prog_1_method_5_code
def yX8_on : MethodName := ⟨RX8, "on", "()I"⟩
abbrev cX8_turn : ByteArray := prog_1_method_6_code
def yX8_turn : MethodName := ⟨RX8, "turn", "()I"⟩
abbrev cX8_clean : ByteArray := prog_1_method_7_code
def yX8_clean : MethodName := ⟨RX8, "clean", "(I)I"⟩
abbrev cX8_erase : ByteArray := prog_1_method_8_code
def yX8_erase : MethodName := ⟨RX8, "erase", "(I)I"⟩
abbrev cX8_slow : ByteArray := prog_1_method_9_code
def yX8_slow : MethodName := ⟨RX8, "slow", "(II)I"⟩
abbrev cX8_set : ByteArray := prog_1_method_10_code
def yX8_set : MethodName := ⟨RX8, "set", "(II)I"⟩
abbrev cX8_placeOf : ByteArray := prog_1_method_12_code
def yX8_placeOf : MethodName := ⟨RX8, "placeOf", "(II)I"⟩
abbrev cX8_pageOf : ByteArray := prog_1_method_13_code
def yX8_pageOf : MethodName := ⟨RX8, "pageOf", "(III)I"⟩
abbrev cX8_backupOf : ByteArray := prog_1_method_14_code
def yX8_backupOf : MethodName := ⟨RX8, "backupOf", "(III)I"⟩
abbrev cX8_waits : ByteArray := prog_1_method_15_code
def yX8_waits : MethodName := ⟨RX8, "waits", "(II)I"⟩
abbrev cX8_count : ByteArray := prog_1_method_16_code
def yX8_count : MethodName := ⟨RX8, "count", "(I)I"⟩
abbrev cX8_undo : ByteArray := prog_1_method_19_code
def yX8_undo : MethodName := ⟨RX8, "undo", "()I"⟩
abbrev cX8_type : ByteArray := prog_1_method_20_code
def yX8_type : MethodName := ⟨RX8, "type", "(I)I"⟩
abbrev cX8_clearText : ByteArray := prog_1_method_21_code
def yX8_clearText : MethodName := ⟨RX8, "clearText", "()I"⟩
abbrev cX8_fault : ByteArray := prog_1_method_22_code
def yX8_fault : MethodName := ⟨RX8, "fault", "(I)I"⟩
abbrev cX8_play : ByteArray := prog_1_method_23_code
def yX8_play : MethodName := ⟨RX8, "play", "()I"⟩
abbrev cX8_keepChange : ByteArray := prog_1_method_24_code
def yX8_keepChange : MethodName := ⟨RX8, "keepChange", "(I)I"⟩
abbrev cX8_isIn : ByteArray := prog_1_method_25_code
def yX8_isIn : MethodName := ⟨RX8, "isIn", "(III)Z"⟩
abbrev cX8_valueAt : ByteArray := prog_1_method_26_code
def yX8_valueAt : MethodName := ⟨RX8, "valueAt", "([II)I"⟩
abbrev cX8_putAt : ByteArray := prog_1_method_27_code
def yX8_putAt : MethodName := ⟨RX8, "putAt", "([III)V"⟩
abbrev cX8_copyRow : ByteArray := prog_1_method_28_code
def yX8_copyRow : MethodName := ⟨RX8, "copyRow", "([I[I)V"⟩
abbrev cX8_quotient : ByteArray := prog_1_method_29_code
def yX8_quotient : MethodName := ⟨RX8, "quotient", "(II)I"⟩
abbrev cX8_cellOf : ByteArray := prog_1_method_30_code
def yX8_cellOf : MethodName := ⟨RX8, "cellOf", "(II)I"⟩
abbrev cX8_earlyPosition : ByteArray := prog_1_method_31_code
def yX8_earlyPosition : MethodName := ⟨RX8, "earlyPosition", "(I)I"⟩
def RX9 : String := "PagePairsModel"
def TX9 : u_T := fun k => match k with
  | _ => ("", "", "", false)
def tyX9 : Nat → FieldType := fun k => match k with
  | _ => .int
theorem nmX9 : ∀ a, a < 0 → ∀ b, b < 0 → a ≠ b → (TX9 a).2.1 ≠ (TX9 b).2.1 := by decide +kernel
theorem tyX9_ok : ∀ k, k < 0 → parseFieldDescriptor (TX9 k).2.2.1 = some (tyX9 k) := by decide +kernel
def RJ6 : String := "java/lang/Integer"
def TJ6 : u_T := fun k => match k with
  | _ => ("", "", "", false)
def tyJ6 : Nat → FieldType := fun k => match k with
  | _ => .int
theorem nmJ6 : ∀ a, a < 0 → ∀ b, b < 0 → a ≠ b → (TJ6 a).2.1 ≠ (TJ6 b).2.1 := by decide +kernel
theorem tyJ6_ok : ∀ k, k < 0 → parseFieldDescriptor (TJ6 k).2.2.1 = some (tyJ6 k) := by decide +kernel
abbrev cJ6_bitCount_0f7a4 : ByteArray := prog_12_method_49_code
def yJ6_bitCount_0f7a4 : MethodName := ⟨RJ6, "bitCount", "(I)I"⟩
def RJ9 : String := "java/lang/Math"
def TJ9 : u_T := fun k => match k with
  | _ => ("", "", "", false)
def tyJ9 : Nat → FieldType := fun k => match k with
  | _ => .int
theorem nmJ9 : ∀ a, a < 0 → ∀ b, b < 0 → a ≠ b → (TJ9 a).2.1 ≠ (TJ9 b).2.1 := by decide +kernel
theorem tyJ9_ok : ∀ k, k < 0 → parseFieldDescriptor (TJ9 k).2.2.1 = some (tyJ9 k) := by decide +kernel
abbrev cJ9_max_7cf53 : ByteArray := prog_13_method_65_code
def yJ9_max_7cf53 : MethodName := ⟨RJ9, "max", "(II)I"⟩
abbrev cJ9_min_7cf53 : ByteArray := prog_13_method_69_code
def yJ9_min_7cf53 : MethodName := ⟨RJ9, "min", "(II)I"⟩
def RJ10 : String := "java/lang/System"
def TJ10 : u_T := fun k => match k with
  | _ => ("", "", "", false)
def tyJ10 : Nat → FieldType := fun k => match k with
  | _ => .int
theorem nmJ10 : ∀ a, a < 0 → ∀ b, b < 0 → a ≠ b → (TJ10 a).2.1 ≠ (TJ10 b).2.1 := by decide +kernel
theorem tyJ10_ok : ∀ k, k < 0 → parseFieldDescriptor (TJ10 k).2.2.1 = some (tyJ10 k) := by decide +kernel
def RL : String := "PagePairsLaw"
abbrev cL_lot : ByteArray := method_2_code
def yL_lot : MethodName := ⟨RL, "lot", "([II)I"⟩
abbrev cL_low : ByteArray := method_3_code
def yL_low : MethodName := ⟨RL, "low", "(II)I"⟩
abbrev cL_digest : ByteArray := method_4_code
def yL_digest : MethodName := ⟨RL, "digest", "(LPagePairs;)J"⟩
abbrev cL_holds : ByteArray := method_5_code
def yL_holds : MethodName := ⟨RL, "holds", "(LPagePairs;)Z"⟩
abbrev cL_digits : ByteArray := method_6_code
def yL_digits : MethodName := ⟨RL, "digits", "(LPagePairs;I)Z"⟩
abbrev cL_types : ByteArray := method_7_code
def yL_types : MethodName := ⟨RL, "types", "(LPagePairs;I)Z"⟩
abbrev cL_reads : ByteArray := method_8_code
def yL_reads : MethodName := ⟨RL, "reads", "(LPagePairs;)Z"⟩
abbrev cL_acts : ByteArray := method_9_code
def yL_acts : MethodName := ⟨RL, "acts", "(LPagePairs;II)Z"⟩
abbrev cL_law : ByteArray := code
def yL_law : MethodName := ⟨RL, "law", "([I)Z"⟩
abbrev vwCl : List vw_C := [(RX0, TX0, 4), (RX1, TX1, 2), (RX2, TX2, 5), (RX3, TX3, 5), (RX4, TX4, 11), (RX5, TX5, 7), (RX6, TX6, 6), (RX7, TX7, 8), (RX8, TX8, 5)]
