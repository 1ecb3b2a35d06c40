section
-- ===== PART A: goes FIRST, ahead of the names: the tables' words, and 'selects' of the private methods out of them =====
/-- a private method of a class that the tables say can be made, by its rows of tables_1 -/
def lw_okq (q : MethodName × Nat) : Prop := (q.1.cls ≠ "java/lang/invoke/MethodHandle" ∧ q.1.cls ≠ "java/lang/invoke/VarHandle") ∧ Cond.instantiable q.1.cls q.2 ∈ tables_1 ∧ Cond.privateMethod q.1 ∈ tables_1 ∧ Cond.instanceMethod q.1 ∈ tables_1
theorem lw_p0 : lw_okq (⟨"PagePairs$State", "settingOrSlowness", "(I)I"⟩, 11) := ⟨⟨by decide +kernel, by decide +kernel⟩, List.mem_of_getElem? (i := 22) (by decide +kernel), List.mem_of_getElem? (i := 307) (by decide +kernel), List.mem_of_getElem? (i := 308) (by decide +kernel)⟩
theorem lw_p1 : lw_okq (⟨"PagePairs$History", "stateAt", "(I)LPagePairs$State;"⟩, 2) := ⟨⟨by decide +kernel, by decide +kernel⟩, List.mem_of_getElem? (i := 189) (by decide +kernel), List.mem_of_getElem? (i := 322) (by decide +kernel), List.mem_of_getElem? (i := 323) (by decide +kernel)⟩
theorem lw_p2 : lw_okq (⟨"PagePairs$Requests", "move", "(II)V"⟩, 5) := ⟨⟨by decide +kernel, by decide +kernel⟩, List.mem_of_getElem? (i := 48) (by decide +kernel), List.mem_of_getElem? (i := 458) (by decide +kernel), List.mem_of_getElem? (i := 459) (by decide +kernel)⟩
theorem lw_p3 : lw_okq (⟨"PagePairs$Requests", "put", "(IIIII)V"⟩, 5) := ⟨⟨by decide +kernel, by decide +kernel⟩, List.mem_of_getElem? (i := 48) (by decide +kernel), List.mem_of_getElem? (i := 462) (by decide +kernel), List.mem_of_getElem? (i := 463) (by decide +kernel)⟩
theorem lw_p4 : lw_okq (⟨"PagePairs", "keepChange", "(I)I"⟩, 5) := ⟨⟨by decide +kernel, by decide +kernel⟩, List.mem_of_getElem? (i := 14) (by decide +kernel), List.mem_of_getElem? (i := 466) (by decide +kernel), List.mem_of_getElem? (i := 467) (by decide +kernel)⟩
theorem lw_p5 : lw_okq (⟨"PagePairs$History", "dropOldest", "()V"⟩, 2) := ⟨⟨by decide +kernel, by decide +kernel⟩, List.mem_of_getElem? (i := 189) (by decide +kernel), List.mem_of_getElem? (i := 474) (by decide +kernel), List.mem_of_getElem? (i := 475) (by decide +kernel)⟩
theorem lw_p6 : lw_okq (⟨"PagePairs$State", "takeRequests", "()V"⟩, 11) := ⟨⟨by decide +kernel, by decide +kernel⟩, List.mem_of_getElem? (i := 22) (by decide +kernel), List.mem_of_getElem? (i := 490) (by decide +kernel), List.mem_of_getElem? (i := 491) (by decide +kernel)⟩
theorem lw_p7 : lw_okq (⟨"PagePairs$State", "isFull", "()Z"⟩, 11) := ⟨⟨by decide +kernel, by decide +kernel⟩, List.mem_of_getElem? (i := 22) (by decide +kernel), List.mem_of_getElem? (i := 494) (by decide +kernel), List.mem_of_getElem? (i := 495) (by decide +kernel)⟩
theorem lw_p8 : lw_okq (⟨"PagePairs$State", "isOutdated", "()Z"⟩, 11) := ⟨⟨by decide +kernel, by decide +kernel⟩, List.mem_of_getElem? (i := 22) (by decide +kernel), List.mem_of_getElem? (i := 498) (by decide +kernel), List.mem_of_getElem? (i := 499) (by decide +kernel)⟩
theorem lw_p9 : lw_okq (⟨"PagePairs$State", "beginWriting", "()V"⟩, 11) := ⟨⟨by decide +kernel, by decide +kernel⟩, List.mem_of_getElem? (i := 22) (by decide +kernel), List.mem_of_getElem? (i := 506) (by decide +kernel), List.mem_of_getElem? (i := 507) (by decide +kernel)⟩
theorem lw_p10 : lw_okq (⟨"PagePairs$State", "goOn", "(I)V"⟩, 11) := ⟨⟨by decide +kernel, by decide +kernel⟩, List.mem_of_getElem? (i := 22) (by decide +kernel), List.mem_of_getElem? (i := 533) (by decide +kernel), List.mem_of_getElem? (i := 534) (by decide +kernel)⟩
theorem lw_p11 : lw_okq (⟨"PagePairs$State", "finishWriting", "()V"⟩, 11) := ⟨⟨by decide +kernel, by decide +kernel⟩, List.mem_of_getElem? (i := 22) (by decide +kernel), List.mem_of_getElem? (i := 545) (by decide +kernel), List.mem_of_getElem? (i := 546) (by decide +kernel)⟩
theorem lw_p12 : lw_okq (⟨"PagePairs$State", "tearWriting", "()V"⟩, 11) := ⟨⟨by decide +kernel, by decide +kernel⟩, List.mem_of_getElem? (i := 22) (by decide +kernel), List.mem_of_getElem? (i := 573) (by decide +kernel), List.mem_of_getElem? (i := 574) (by decide +kernel)⟩
theorem lw_p13 : lw_okq (⟨"PagePairs$State", "askForCopy", "(II)V"⟩, 11) := ⟨⟨by decide +kernel, by decide +kernel⟩, List.mem_of_getElem? (i := 22) (by decide +kernel), List.mem_of_getElem? (i := 595) (by decide +kernel), List.mem_of_getElem? (i := 596) (by decide +kernel)⟩
theorem lw_p14 : lw_okq (⟨"PagePairs$Text", "sign", "()I"⟩, 6) := ⟨⟨by decide +kernel, by decide +kernel⟩, List.mem_of_getElem? (i := 205) (by decide +kernel), List.mem_of_getElem? (i := 716) (by decide +kernel), List.mem_of_getElem? (i := 717) (by decide +kernel)⟩
theorem lw_p15 : lw_okq (⟨"PagePairs$Text", "readNumber", "()I"⟩, 6) := ⟨⟨by decide +kernel, by decide +kernel⟩, List.mem_of_getElem? (i := 205) (by decide +kernel), List.mem_of_getElem? (i := 724) (by decide +kernel), List.mem_of_getElem? (i := 725) (by decide +kernel)⟩
def lw_privs_1 : List (MethodName × Nat) := [(⟨"PagePairs$State", "settingOrSlowness", "(I)I"⟩, 11), (⟨"PagePairs$History", "stateAt", "(I)LPagePairs$State;"⟩, 2), (⟨"PagePairs$Requests", "move", "(II)V"⟩, 5), (⟨"PagePairs$Requests", "put", "(IIIII)V"⟩, 5), (⟨"PagePairs", "keepChange", "(I)I"⟩, 5), (⟨"PagePairs$History", "dropOldest", "()V"⟩, 2), (⟨"PagePairs$State", "takeRequests", "()V"⟩, 11), (⟨"PagePairs$State", "isFull", "()Z"⟩, 11), (⟨"PagePairs$State", "isOutdated", "()Z"⟩, 11), (⟨"PagePairs$State", "beginWriting", "()V"⟩, 11), (⟨"PagePairs$State", "goOn", "(I)V"⟩, 11), (⟨"PagePairs$State", "finishWriting", "()V"⟩, 11), (⟨"PagePairs$State", "tearWriting", "()V"⟩, 11), (⟨"PagePairs$State", "askForCopy", "(II)V"⟩, 11), (⟨"PagePairs$Text", "sign", "()I"⟩, 6), (⟨"PagePairs$Text", "readNumber", "()I"⟩, 6)]
theorem lw_r1 : ∀ q ∈ lw_privs_1, lw_okq q := List.forall_mem_cons.mpr ⟨lw_p0, List.forall_mem_cons.mpr ⟨lw_p1, List.forall_mem_cons.mpr ⟨lw_p2, List.forall_mem_cons.mpr ⟨lw_p3, List.forall_mem_cons.mpr ⟨lw_p4, List.forall_mem_cons.mpr ⟨lw_p5, List.forall_mem_cons.mpr ⟨lw_p6, List.forall_mem_cons.mpr ⟨lw_p7, List.forall_mem_cons.mpr ⟨lw_p8, List.forall_mem_cons.mpr ⟨lw_p9, List.forall_mem_cons.mpr ⟨lw_p10, List.forall_mem_cons.mpr ⟨lw_p11, List.forall_mem_cons.mpr ⟨lw_p12, List.forall_mem_cons.mpr ⟨lw_p13, List.forall_mem_cons.mpr ⟨lw_p14, List.forall_mem_cons.mpr ⟨lw_p15, fun _ h => absurd h List.not_mem_nil⟩⟩⟩⟩⟩⟩⟩⟩⟩⟩⟩⟩⟩⟩⟩⟩
theorem lw_p16 : lw_okq (⟨"PagePairs$Text", "readSign", "(I)Z"⟩, 6) := ⟨⟨by decide +kernel, by decide +kernel⟩, List.mem_of_getElem? (i := 205) (by decide +kernel), List.mem_of_getElem? (i := 728) (by decide +kernel), List.mem_of_getElem? (i := 729) (by decide +kernel)⟩
theorem lw_p17 : lw_okq (⟨"PagePairs$Script", "tellFault", "(II)V"⟩, 5) := ⟨⟨by decide +kernel, by decide +kernel⟩, List.mem_of_getElem? (i := 234) (by decide +kernel), List.mem_of_getElem? (i := 732) (by decide +kernel), List.mem_of_getElem? (i := 733) (by decide +kernel)⟩
def lw_privs_2 : List (MethodName × Nat) := [(⟨"PagePairs$Text", "readSign", "(I)Z"⟩, 6), (⟨"PagePairs$Script", "tellFault", "(II)V"⟩, 5)]
theorem lw_r2 : ∀ q ∈ lw_privs_2, lw_okq q := List.forall_mem_cons.mpr ⟨lw_p16, List.forall_mem_cons.mpr ⟨lw_p17, fun _ h => absurd h List.not_mem_nil⟩⟩
def lw_privs : List (MethodName × Nat) := lw_privs_1 ++ (lw_privs_2)
def lw_tbl : List Cond := k2_sels lw_privs ++ tables_1
theorem lw_privs_ok : ∀ q ∈ lw_privs, lw_okq q := by
  show ∀ q ∈ lw_privs_1 ++ (lw_privs_2), lw_okq q
  exact List.forall_mem_append.mpr ⟨lw_r1, lw_r2⟩
def RX0 : String := "PagePairs$Cells"
def TX0 : u_T := fun k => match k with
  | 0 => ("PagePairs$Cells", "kinds", "[I", true)
  | 1 => ("PagePairs$Cells", "keys", "[I", true)
  | 2 => ("PagePairs$Cells", "values", "[I", true)
  | _ => ("PagePairs$Cells", "stamps", "[I", true)
def tyX0 : Nat → FieldType := fun k => match k with
  | 0 => .array .int
  | 1 => .array .int
  | 2 => .array .int
  | _ => .array .int
theorem nmX0 : ∀ a, a < 4 → ∀ b, b < 4 → a ≠ b → (TX0 a).2.1 ≠ (TX0 b).2.1 := by decide +kernel
theorem tyX0_ok : ∀ k, k < 4 → parseFieldDescriptor (TX0 k).2.2.1 = some (tyX0 k) := by decide +kernel
abbrev cX0_init : ByteArray := prog_2_method_1_code
def yX0_init : MethodName := ⟨RX0, "<init>", "()V"⟩
abbrev cX0_copyFrom : ByteArray := prog_2_method_2_code
def yX0_copyFrom : MethodName := ⟨RX0, "copyFrom", "(LPagePairs$Cells;)V"⟩
abbrev cX0_kind : ByteArray := prog_2_method_3_code
def yX0_kind : MethodName := ⟨RX0, "kind", "(I)I"⟩
abbrev cX0_key : ByteArray := prog_2_method_4_code
def yX0_key : MethodName := ⟨RX0, "key", "(I)I"⟩
abbrev cX0_value : ByteArray := prog_2_method_5_code
def yX0_value : MethodName := ⟨RX0, "value", "(I)I"⟩
abbrev cX0_stamp : ByteArray := prog_2_method_6_code
def yX0_stamp : MethodName := ⟨RX0, "stamp", "(I)I"⟩
abbrev cX0_fact : ByteArray := prog_2_method_7_code
def yX0_fact : MethodName := ⟨RX0, "fact", "(II)I"⟩
abbrev cX0_begin : ByteArray := prog_2_method_8_code
def yX0_begin : MethodName := ⟨RX0, "begin", "(IIII)V"⟩
abbrev cX0_beginBackup : ByteArray := prog_2_method_9_code
def yX0_beginBackup : MethodName := ⟨RX0, "beginBackup", "(II)V"⟩
abbrev cX0_mark : ByteArray := prog_2_method_10_code
def yX0_mark : MethodName := ⟨RX0, "mark", "(II)V"⟩
abbrev cX0_blankBlock : ByteArray := prog_2_method_11_code
def yX0_blankBlock : MethodName := ⟨RX0, "blankBlock", "(I)V"⟩
abbrev cX0_isBlankBlock : ByteArray := prog_2_method_12_code
def yX0_isBlankBlock : MethodName := ⟨RX0, "isBlankBlock", "(I)Z"⟩
abbrev cX0_place : ByteArray := prog_2_method_13_code
def yX0_place : MethodName := ⟨RX0, "place", "(I)I"⟩
abbrev cX0_isPlace : ByteArray := prog_2_method_14_code
def yX0_isPlace : MethodName := ⟨RX0, "isPlace", "(I)Z"⟩
abbrev cX0_placeStamp : ByteArray := prog_2_method_15_code
def yX0_placeStamp : MethodName := ⟨RX0, "placeStamp", "(I)I"⟩
abbrev cX0_placesInBlock : ByteArray := prog_2_method_16_code
def yX0_placesInBlock : MethodName := ⟨RX0, "placesInBlock", "(I)I"⟩
abbrev cX0_tornPages : ByteArray := prog_2_method_17_code
def yX0_tornPages : MethodName := ⟨RX0, "tornPages", "()I"⟩
abbrev cX0_keysWithPlace : ByteArray := prog_2_method_18_code
def yX0_keysWithPlace : MethodName := ⟨RX0, "keysWithPlace", "()I"⟩
def RX1 : String := "PagePairs$History"
def TX1 : u_T := fun k => match k with
  | 0 => ("PagePairs$History", "states", "[LPagePairs$State;", true)
  | _ => ("PagePairs$History", "size", "I", false)
def tyX1 : Nat → FieldType := fun k => match k with
  | 0 => .array (.object "PagePairs$State")
  | _ => .int
theorem nmX1 : ∀ a, a < 2 → ∀ b, b < 2 → a ≠ b → (TX1 a).2.1 ≠ (TX1 b).2.1 := by decide +kernel
theorem tyX1_ok : ∀ k, k < 2 → parseFieldDescriptor (TX1 k).2.2.1 = some (tyX1 k) := by decide +kernel
abbrev cX1_init : ByteArray := prog_3_method_1_code
def yX1_init : MethodName := ⟨RX1, "<init>", "()V"⟩
abbrev cX1_size : ByteArray := prog_3_method_2_code
def yX1_size : MethodName := ⟨RX1, "size", "()I"⟩
abbrev cX1_note : ByteArray := prog_3_method_3_code
def yX1_note : MethodName := ⟨RX1, "note", "(LPagePairs$State;)V"⟩
abbrev cX1_keep : ByteArray := prog_3_method_4_code
def yX1_keep : MethodName := ⟨RX1, "keep", "()V"⟩
abbrev cX1_restore : ByteArray := prog_3_method_5_code
def yX1_restore : MethodName := ⟨RX1, "restore", "(LPagePairs$State;)I"⟩
abbrev cX1_stateAt : ByteArray := prog_3_method_6_code
def yX1_stateAt : MethodName := ⟨RX1, "stateAt", "(I)LPagePairs$State;"⟩
abbrev cX1_dropOldest : ByteArray := prog_3_method_7_code
def yX1_dropOldest : MethodName := ⟨RX1, "dropOldest", "()V"⟩
def RX2 : String := "PagePairs$Requests"
def TX2 : u_T := fun k => match k with
  | 0 => ("PagePairs$Requests", "keys", "[I", true)
  | 1 => ("PagePairs$Requests", "values", "[I", true)
  | 2 => ("PagePairs$Requests", "urgencies", "[I", true)
  | 3 => ("PagePairs$Requests", "stamps", "[I", true)
  | _ => ("PagePairs$Requests", "size", "I", false)
def tyX2 : Nat → FieldType := fun k => match k with
  | 0 => .array .int
  | 1 => .array .int
  | 2 => .array .int
  | 3 => .array .int
  | _ => .int
theorem nmX2 : ∀ a, a < 5 → ∀ b, b < 5 → a ≠ b → (TX2 a).2.1 ≠ (TX2 b).2.1 := by decide +kernel
theorem tyX2_ok : ∀ k, k < 5 → parseFieldDescriptor (TX2 k).2.2.1 = some (tyX2 k) := by decide +kernel
abbrev cX2_init : ByteArray := prog_4_method_1_code
def yX2_init : MethodName := ⟨RX2, "<init>", "()V"⟩
abbrev cX2_copyFrom : ByteArray := prog_4_method_2_code
def yX2_copyFrom : MethodName := ⟨RX2, "copyFrom", "(LPagePairs$Requests;)V"⟩
abbrev cX2_size : ByteArray := prog_4_method_3_code
def yX2_size : MethodName := ⟨RX2, "size", "()I"⟩
abbrev cX2_key : ByteArray := prog_4_method_4_code
def yX2_key : MethodName := ⟨RX2, "key", "(I)I"⟩
abbrev cX2_value : ByteArray := prog_4_method_5_code
def yX2_value : MethodName := ⟨RX2, "value", "(I)I"⟩
abbrev cX2_urgency : ByteArray := prog_4_method_6_code
def yX2_urgency : MethodName := ⟨RX2, "urgency", "(I)I"⟩
abbrev cX2_stamp : ByteArray := prog_4_method_7_code
def yX2_stamp : MethodName := ⟨RX2, "stamp", "(I)I"⟩
abbrev cX2_add : ByteArray := prog_4_method_8_code
def yX2_add : MethodName := ⟨RX2, "add", "(IIII)V"⟩
abbrev cX2_dropFirst : ByteArray := prog_4_method_9_code
def yX2_dropFirst : MethodName := ⟨RX2, "dropFirst", "()V"⟩
abbrev cX2_makeEmpty : ByteArray := prog_4_method_10_code
def yX2_makeEmpty : MethodName := ⟨RX2, "makeEmpty", "()V"⟩
abbrev cX2_move : ByteArray := prog_4_method_11_code
def yX2_move : MethodName := ⟨RX2, "move", "(II)V"⟩
abbrev cX2_put : ByteArray := prog_4_method_12_code
def yX2_put : MethodName := ⟨RX2, "put", "(IIIII)V"⟩
def RX3 : String := "PagePairs$Script"
def TX3 : u_T := fun k => match k with
  | 0 => ("PagePairs$Script", "done", "I", false)
  | 1 => ("PagePairs$Script", "faulty", "Z", false)
  | 2 => ("PagePairs$Script", "position", "I", false)
  | 3 => ("PagePairs$Script", "reason", "I", false)
  | _ => ("PagePairs$Script", "cause", "I", false)
def tyX3 : Nat → FieldType := fun k => match k with
  | 0 => .int
  | 1 => .boolean
  | 2 => .int
  | 3 => .int
  | _ => .int
theorem nmX3 : ∀ a, a < 5 → ∀ b, b < 5 → a ≠ b → (TX3 a).2.1 ≠ (TX3 b).2.1 := by decide +kernel
theorem tyX3_ok : ∀ k, k < 5 → parseFieldDescriptor (TX3 k).2.2.1 = some (tyX3 k) := by decide +kernel
abbrev cX3_init : ByteArray := prog_5_method_1_code
def yX3_init : MethodName := ⟨RX3, "<init>", "()V"⟩
abbrev cX3_run : ByteArray := prog_5_method_2_code
def yX3_run : MethodName := ⟨RX3, "run", "(LPagePairs$Text;LPagePairs$State;)V"⟩
abbrev cX3_hasFault : ByteArray := prog_5_method_3_code
def yX3_hasFault : MethodName := ⟨RX3, "hasFault", "()Z"⟩
abbrev cX3_commandsDone : ByteArray := prog_5_method_4_code
def yX3_commandsDone : MethodName := ⟨RX3, "commandsDone", "()I"⟩
abbrev cX3_faultFact : ByteArray := prog_5_method_5_code
def yX3_faultFact : MethodName := ⟨RX3, "faultFact", "(I)I"⟩
abbrev cX3_tellFault : ByteArray := prog_5_method_6_code
def yX3_tellFault : MethodName := ⟨RX3, "tellFault", "(II)V"⟩
abbrev cX3_perform : ByteArray := prog_5_method_7_code
def yX3_perform : MethodName := ⟨RX3, "perform", "(LPagePairs$Text;LPagePairs$State;)I"⟩
def RX4 : String := "PagePairs$State"
def TX4 : u_T := fun k => match k with
  | 0 => ("PagePairs$State", "cells", "LPagePairs$Cells;", true)
  | 1 => ("PagePairs$State", "requests", "LPagePairs$Requests;", true)
  | 2 => ("PagePairs$State", "writing", "LPagePairs$Writing;", true)
  | 3 => ("PagePairs$State", "tallies", "LPagePairs$Tallies;", true)
  | 4 => ("PagePairs$State", "settings", "[I", true)
  | 5 => ("PagePairs$State", "slowness", "[I", true)
  | 6 => ("PagePairs$State", "erased", "[I", true)
  | 7 => ("PagePairs$State", "stampsAhead", "[I", true)
  | 8 => ("PagePairs$State", "power", "Z", false)
  | 9 => ("PagePairs$State", "active", "I", false)
  | _ => ("PagePairs$State", "next", "I", false)
def tyX4 : Nat → FieldType := fun k => match k with
  | 0 => .object "PagePairs$Cells"
  | 1 => .object "PagePairs$Requests"
  | 2 => .object "PagePairs$Writing"
  | 3 => .object "PagePairs$Tallies"
  | 4 => .array .int
  | 5 => .array .int
  | 6 => .array .int
  | 7 => .array .int
  | 8 => .boolean
  | 9 => .int
  | _ => .int
theorem nmX4 : ∀ a, a < 11 → ∀ b, b < 11 → a ≠ b → (TX4 a).2.1 ≠ (TX4 b).2.1 := by decide +kernel
theorem tyX4_ok : ∀ k, k < 11 → parseFieldDescriptor (TX4 k).2.2.1 = some (tyX4 k) := by decide +kernel
abbrev cX4_init : ByteArray := prog_6_method_1_code
def yX4_init : MethodName := ⟨RX4, "<init>", "()V"⟩
abbrev cX4_copyFrom : ByteArray := prog_6_method_2_code
def yX4_copyFrom : MethodName := ⟨RX4, "copyFrom", "(LPagePairs$State;)V"⟩
abbrev cX4_askFor : ByteArray := prog_6_method_4_code
def yX4_askFor : MethodName := ⟨RX4, "askFor", "(III)I"⟩
abbrev cX4_letTicks : ByteArray := prog_6_method_5_code
def yX4_letTicks : MethodName := ⟨RX4, "letTicks", "(I)I"⟩
abbrev cX4_pass : ByteArray := prog_6_method_6_code
def yX4_pass : MethodName := ⟨RX4, "pass", "(I)V"⟩
abbrev cX4_isFull : ByteArray := prog_6_method_8_code
def yX4_isFull : MethodName := ⟨RX4, "isFull", "()Z"⟩
abbrev cX4_takeRequests : ByteArray := prog_6_method_9_code
def yX4_takeRequests : MethodName := ⟨RX4, "takeRequests", "()V"⟩
abbrev cX4_isOutdated : ByteArray := prog_6_method_10_code
def yX4_isOutdated : MethodName := ⟨RX4, "isOutdated", "()Z"⟩
abbrev cX4_beginWriting : ByteArray := prog_6_method_11_code
def yX4_beginWriting : MethodName := ⟨RX4, "beginWriting", "()V"⟩
abbrev cX4_goOn : ByteArray := prog_6_method_12_code
def yX4_goOn : MethodName := ⟨RX4, "goOn", "(I)V"⟩
abbrev cX4_finishWriting : ByteArray := prog_6_method_13_code
def yX4_finishWriting : MethodName := ⟨RX4, "finishWriting", "()V"⟩
abbrev cX4_cutPower : ByteArray := prog_6_method_14_code
def yX4_cutPower : MethodName := ⟨RX4, "cutPower", "()I"⟩
abbrev cX4_loseByCut : ByteArray := prog_6_method_15_code
def yX4_loseByCut : MethodName := ⟨RX4, "loseByCut", "()I"⟩
abbrev cX4_tearWriting : ByteArray := prog_6_method_16_code
def yX4_tearWriting : MethodName := ⟨RX4, "tearWriting", "()V"⟩
abbrev cX4_restorePower : ByteArray := prog_6_method_17_code
def yX4_restorePower : MethodName := ⟨RX4, "restorePower", "()I"⟩
abbrev cX4_askForCopy : ByteArray := prog_6_method_18_code
def yX4_askForCopy : MethodName := ⟨RX4, "askForCopy", "(II)V"⟩
abbrev cX4_turnToOther : ByteArray := prog_6_method_19_code
def yX4_turnToOther : MethodName := ⟨RX4, "turnToOther", "()I"⟩
abbrev cX4_cleanBlock : ByteArray := prog_6_method_20_code
def yX4_cleanBlock : MethodName := ⟨RX4, "cleanBlock", "(I)I"⟩
abbrev cX4_eraseBlock : ByteArray := prog_6_method_21_code
def yX4_eraseBlock : MethodName := ⟨RX4, "eraseBlock", "(I)I"⟩
abbrev cX4_changeSlowness : ByteArray := prog_6_method_22_code
def yX4_changeSlowness : MethodName := ⟨RX4, "changeSlowness", "(II)I"⟩
abbrev cX4_changeSetting : ByteArray := prog_6_method_23_code
def yX4_changeSetting : MethodName := ⟨RX4, "changeSetting", "(II)I"⟩
abbrev cX4_placeFact : ByteArray := prog_6_method_25_code
def yX4_placeFact : MethodName := ⟨RX4, "placeFact", "(II)I"⟩
abbrev cX4_pageFact : ByteArray := prog_6_method_26_code
def yX4_pageFact : MethodName := ⟨RX4, "pageFact", "(III)I"⟩
abbrev cX4_backupFact : ByteArray := prog_6_method_27_code
def yX4_backupFact : MethodName := ⟨RX4, "backupFact", "(III)I"⟩
abbrev cX4_requestFact : ByteArray := prog_6_method_28_code
def yX4_requestFact : MethodName := ⟨RX4, "requestFact", "(II)I"⟩
abbrev cX4_numberOf : ByteArray := prog_6_method_29_code
def yX4_numberOf : MethodName := ⟨RX4, "numberOf", "(I)I"⟩
abbrev cX4_settingOrSlowness : ByteArray := prog_6_method_30_code
def yX4_settingOrSlowness : MethodName := ⟨RX4, "settingOrSlowness", "(I)I"⟩
def RX5 : String := "PagePairs$Tallies"
def TX5 : u_T := fun k => match k with
  | 0 => ("PagePairs$Tallies", "time", "I", false)
  | 1 => ("PagePairs$Tallies", "stamps", "I", false)
  | 2 => ("PagePairs$Tallies", "acknowledged", "I", false)
  | 3 => ("PagePairs$Tallies", "goneByCuts", "I", false)
  | 4 => ("PagePairs$Tallies", "lostKeys", "I", false)
  | 5 => ("PagePairs$Tallies", "cuts", "I", false)
  | _ => ("PagePairs$Tallies", "backups", "I", false)
def tyX5 : Nat → FieldType := fun k => match k with
  | 0 => .int
  | 1 => .int
  | 2 => .int
  | 3 => .int
  | 4 => .int
  | 5 => .int
  | _ => .int
theorem nmX5 : ∀ a, a < 7 → ∀ b, b < 7 → a ≠ b → (TX5 a).2.1 ≠ (TX5 b).2.1 := by decide +kernel
theorem tyX5_ok : ∀ k, k < 7 → parseFieldDescriptor (TX5 k).2.2.1 = some (tyX5 k) := by decide +kernel
abbrev cX5_init : ByteArray := prog_7_method_1_code
def yX5_init : MethodName := ⟨RX5, "<init>", "()V"⟩
abbrev cX5_copyFrom : ByteArray := prog_7_method_2_code
def yX5_copyFrom : MethodName := ⟨RX5, "copyFrom", "(LPagePairs$Tallies;)V"⟩
def RX6 : String := "PagePairs$Text"
def TX6 : u_T := fun k => match k with
  | 0 => ("PagePairs$Text", "signs", "[I", true)
  | 1 => ("PagePairs$Text", "length", "I", false)
  | 2 => ("PagePairs$Text", "cursor", "I", false)
  | 3 => ("PagePairs$Text", "command", "I", false)
  | 4 => ("PagePairs$Text", "first", "I", false)
  | _ => ("PagePairs$Text", "second", "I", false)
def tyX6 : Nat → FieldType := fun k => match k with
  | 0 => .array .int
  | 1 => .int
  | 2 => .int
  | 3 => .int
  | 4 => .int
  | _ => .int
theorem nmX6 : ∀ a, a < 6 → ∀ b, b < 6 → a ≠ b → (TX6 a).2.1 ≠ (TX6 b).2.1 := by decide +kernel
theorem tyX6_ok : ∀ k, k < 6 → parseFieldDescriptor (TX6 k).2.2.1 = some (tyX6 k) := by decide +kernel
abbrev cX6_init : ByteArray := prog_8_method_1_code
def yX6_init : MethodName := ⟨RX6, "<init>", "()V"⟩
abbrev cX6_length : ByteArray := prog_8_method_2_code
def yX6_length : MethodName := ⟨RX6, "length", "()I"⟩
abbrev cX6_append : ByteArray := prog_8_method_3_code
def yX6_append : MethodName := ⟨RX6, "append", "(I)I"⟩
abbrev cX6_makeEmpty : ByteArray := prog_8_method_4_code
def yX6_makeEmpty : MethodName := ⟨RX6, "makeEmpty", "()I"⟩
abbrev cX6_rewind : ByteArray := prog_8_method_5_code
def yX6_rewind : MethodName := ⟨RX6, "rewind", "()V"⟩
abbrev cX6_hasMore : ByteArray := prog_8_method_6_code
def yX6_hasMore : MethodName := ⟨RX6, "hasMore", "()Z"⟩
abbrev cX6_readCommand : ByteArray := prog_8_method_7_code
def yX6_readCommand : MethodName := ⟨RX6, "readCommand", "()Z"⟩
abbrev cX6_numbersOf : ByteArray := prog_8_method_8_code
def yX6_numbersOf : MethodName := ⟨RX6, "numbersOf", "(I)I"⟩
abbrev cX6_readNumber : ByteArray := prog_8_method_9_code
def yX6_readNumber : MethodName := ⟨RX6, "readNumber", "()I"⟩
abbrev cX6_readSign : ByteArray := prog_8_method_10_code
def yX6_readSign : MethodName := ⟨RX6, "readSign", "(I)Z"⟩
abbrev cX6_sign : ByteArray := prog_8_method_11_code
def yX6_sign : MethodName := ⟨RX6, "sign", "()I"⟩
def RX7 : String := "PagePairs$Writing"
def TX7 : u_T := fun k => match k with
  | 0 => ("PagePairs$Writing", "busy", "Z", false)
  | 1 => ("PagePairs$Writing", "late", "Z", false)
  | 2 => ("PagePairs$Writing", "urgency", "I", false)
  | 3 => ("PagePairs$Writing", "pageCell", "I", false)
  | 4 => ("PagePairs$Writing", "earlyCell", "I", false)
  | 5 => ("PagePairs$Writing", "backupCell", "I", false)
  | 6 => ("PagePairs$Writing", "ownTicks", "I", false)
  | _ => ("PagePairs$Writing", "left", "I", false)
def tyX7 : Nat → FieldType := fun k => match k with
  | 0 => .boolean
  | 1 => .boolean
  | 2 => .int
  | 3 => .int
  | 4 => .int
  | 5 => .int
  | 6 => .int
  | _ => .int
theorem nmX7 : ∀ a, a < 8 → ∀ b, b < 8 → a ≠ b → (TX7 a).2.1 ≠ (TX7 b).2.1 := by decide +kernel
theorem tyX7_ok : ∀ k, k < 8 → parseFieldDescriptor (TX7 k).2.2.1 = some (tyX7 k) := by decide +kernel
abbrev cX7_init : ByteArray := prog_9_method_1_code
def yX7_init : MethodName := ⟨RX7, "<init>", "()V"⟩
abbrev cX7_copyFrom : ByteArray := prog_9_method_2_code
def yX7_copyFrom : MethodName := ⟨RX7, "copyFrom", "(LPagePairs$Writing;)V"⟩
abbrev cX7_isBehindBackup : ByteArray := prog_9_method_3_code
def yX7_isBehindBackup : MethodName := ⟨RX7, "isBehindBackup", "()Z"⟩
abbrev cX7_hasBegunItself : ByteArray := prog_9_method_4_code
def yX7_hasBegunItself : MethodName := ⟨RX7, "hasBegunItself", "()Z"⟩
abbrev cX7_isAskedFor : ByteArray := prog_9_method_5_code
def yX7_isAskedFor : MethodName := ⟨RX7, "isAskedFor", "()Z"⟩
def RX8 : String := "PagePairs"
def TX8 : u_T := fun k => match k with
  | 0 => ("PagePairs", "now", "LPagePairs$State;", true)
  | 1 => ("PagePairs", "trial", "LPagePairs$State;", true)
  | 2 => ("PagePairs", "history", "LPagePairs$History;", true)
  | 3 => ("PagePairs", "text", "LPagePairs$Text;", true)
  | _ => ("PagePairs", "script", "LPagePairs$Script;", true)
def tyX8 : Nat → FieldType := fun k => match k with
  | 0 => .object "PagePairs$State"
  | 1 => .object "PagePairs$State"
  | 2 => .object "PagePairs$History"
  | 3 => .object "PagePairs$Text"
  | _ => .object "PagePairs$Script"
theorem nmX8 : ∀ a, a < 5 → ∀ b, b < 5 → a ≠ b → (TX8 a).2.1 ≠ (TX8 b).2.1 := by decide +kernel
theorem tyX8_ok : ∀ k, k < 5 → parseFieldDescriptor (TX8 k).2.2.1 = some (tyX8 k) := by decide +kernel
abbrev cX8_init : ByteArray := prog_1_method_1_code
def yX8_init : MethodName := ⟨RX8, "<init>", "()V"⟩
abbrev cX8_write : ByteArray := prog_1_method_2_code
def yX8_write : MethodName := ⟨RX8, "write", "(III)I"⟩
abbrev cX8_tick : ByteArray := prog_1_method_3_code
def yX8_tick : MethodName := ⟨RX8, "tick", "(I)I"⟩
abbrev cX8_cut : ByteArray := prog_1_method_4_code
def yX8_cut : MethodName := ⟨RX8, "cut", "()I"⟩
abbrev cX8_on : ByteArray := prog_1_method_5_code
def yX8_on : MethodName := ⟨RX8, "on", "()I"⟩
abbrev cX8_turn : ByteArray := prog_1_method_6_code
def yX8_turn : MethodName := ⟨RX8, "turn", "()I"⟩
abbrev cX8_clean : ByteArray := prog_1_method_7_code
def yX8_clean : MethodName := ⟨RX8, "clean", "(I)I"⟩
abbrev cX8_erase : ByteArray := prog_1_method_8_code
def yX8_erase : MethodName := ⟨RX8, "erase", "(I)I"⟩
abbrev cX8_slow : ByteArray := prog_1_method_9_code
def yX8_slow : MethodName := ⟨RX8, "slow", "(II)I"⟩
abbrev cX8_set : ByteArray := prog_1_method_10_code
def yX8_set : MethodName := ⟨RX8, "set", "(II)I"⟩
abbrev cX8_placeOf : ByteArray := prog_1_method_12_code
def yX8_placeOf : MethodName := ⟨RX8, "placeOf", "(II)I"⟩
abbrev cX8_pageOf : ByteArray := prog_1_method_13_code
def yX8_pageOf : MethodName := ⟨RX8, "pageOf", "(III)I"⟩
abbrev cX8_backupOf : ByteArray := prog_1_method_14_code
def yX8_backupOf : MethodName := ⟨RX8, "backupOf", "(III)I"⟩
abbrev cX8_waits : ByteArray := prog_1_method_15_code
def yX8_waits : MethodName := ⟨RX8, "waits", "(II)I"⟩
abbrev cX8_count : ByteArray := prog_1_method_16_code
def yX8_count : MethodName := ⟨RX8, "count", "(I)I"⟩
abbrev cX8_undo : ByteArray := prog_1_method_19_code
def yX8_undo : MethodName := ⟨RX8, "undo", "()I"⟩
abbrev cX8_type : ByteArray := prog_1_method_20_code
def yX8_type : MethodName := ⟨RX8, "type", "(I)I"⟩
abbrev cX8_clearText : ByteArray := prog_1_method_21_code
def yX8_clearText : MethodName := ⟨RX8, "clearText", "()I"⟩
abbrev cX8_fault : ByteArray := prog_1_method_22_code
def yX8_fault : MethodName := ⟨RX8, "fault", "(I)I"⟩
abbrev cX8_play : ByteArray := prog_1_method_23_code
def yX8_play : MethodName := ⟨RX8, "play", "()I"⟩
abbrev cX8_keepChange : ByteArray := prog_1_method_24_code
def yX8_keepChange : MethodName := ⟨RX8, "keepChange", "(I)I"⟩
abbrev cX8_isIn : ByteArray := prog_1_method_25_code
def yX8_isIn : MethodName := ⟨RX8, "isIn", "(III)Z"⟩
abbrev cX8_valueAt : ByteArray := prog_1_method_26_code
def yX8_valueAt : MethodName := ⟨RX8, "valueAt", "([II)I"⟩
abbrev cX8_putAt : ByteArray := prog_1_method_27_code
def yX8_putAt : MethodName := ⟨RX8, "putAt", "([III)V"⟩
abbrev cX8_copyRow : ByteArray := prog_1_method_28_code
def yX8_copyRow : MethodName := ⟨RX8, "copyRow", "([I[I)V"⟩
abbrev cX8_quotient : ByteArray := prog_1_method_29_code
def yX8_quotient : MethodName := ⟨RX8, "quotient", "(II)I"⟩
abbrev cX8_cellOf : ByteArray := prog_1_method_30_code
def yX8_cellOf : MethodName := ⟨RX8, "cellOf", "(II)I"⟩
abbrev cX8_earlyPosition : ByteArray := prog_1_method_31_code
def yX8_earlyPosition : MethodName := ⟨RX8, "earlyPosition", "(I)I"⟩
def RX9 : String := "PagePairsModel"
def TX9 : u_T := fun k => match k with
  | _ => ("", "", "", false)
def tyX9 : Nat → FieldType := fun k => match k with
  | _ => .int
theorem nmX9 : ∀ a, a < 0 → ∀ b, b < 0 → a ≠ b → (TX9 a).2.1 ≠ (TX9 b).2.1 := by decide +kernel
theorem tyX9_ok : ∀ k, k < 0 → parseFieldDescriptor (TX9 k).2.2.1 = some (tyX9 k) := by decide +kernel
def RJ6 : String := "java/lang/Integer"
def TJ6 : u_T := fun k => match k with
  | _ => ("", "", "", false)
def tyJ6 : Nat → FieldType := fun k => match k with
  | _ => .int
theorem nmJ6 : ∀ a, a < 0 → ∀ b, b < 0 → a ≠ b → (TJ6 a).2.1 ≠ (TJ6 b).2.1 := by decide +kernel
theorem tyJ6_ok : ∀ k, k < 0 → parseFieldDescriptor (TJ6 k).2.2.1 = some (tyJ6 k) := by decide +kernel
abbrev cJ6_bitCount_0f7a4 : ByteArray := prog_12_method_49_code
def yJ6_bitCount_0f7a4 : MethodName := ⟨RJ6, "bitCount", "(I)I"⟩
def RJ9 : String := "java/lang/Math"
def TJ9 : u_T := fun k => match k with
  | _ => ("", "", "", false)
def tyJ9 : Nat → FieldType := fun k => match k with
  | _ => .int
theorem nmJ9 : ∀ a, a < 0 → ∀ b, b < 0 → a ≠ b → (TJ9 a).2.1 ≠ (TJ9 b).2.1 := by decide +kernel
theorem tyJ9_ok : ∀ k, k < 0 → parseFieldDescriptor (TJ9 k).2.2.1 = some (tyJ9 k) := by decide +kernel
abbrev cJ9_max_7cf53 : ByteArray := prog_13_method_65_code
def yJ9_max_7cf53 : MethodName := ⟨RJ9, "max", "(II)I"⟩
abbrev cJ9_min_7cf53 : ByteArray := prog_13_method_69_code
def yJ9_min_7cf53 : MethodName := ⟨RJ9, "min", "(II)I"⟩
def RJ10 : String := "java/lang/System"
def TJ10 : u_T := fun k => match k with
  | _ => ("", "", "", false)
def tyJ10 : Nat → FieldType := fun k => match k with
  | _ => .int
theorem nmJ10 : ∀ a, a < 0 → ∀ b, b < 0 → a ≠ b → (TJ10 a).2.1 ≠ (TJ10 b).2.1 := by decide +kernel
theorem tyJ10_ok : ∀ k, k < 0 → parseFieldDescriptor (TJ10 k).2.2.1 = some (tyJ10 k) := by decide +kernel
def RL : String := "PagePairsLaw"
abbrev cL_lot : ByteArray := method_2_code
def yL_lot : MethodName := ⟨RL, "lot", "([II)I"⟩
abbrev cL_low : ByteArray := method_3_code
def yL_low : MethodName := ⟨RL, "low", "(II)I"⟩
abbrev cL_digest : ByteArray := method_4_code
def yL_digest : MethodName := ⟨RL, "digest", "(LPagePairs;)J"⟩
abbrev cL_holds : ByteArray := method_5_code
def yL_holds : MethodName := ⟨RL, "holds", "(LPagePairs;)Z"⟩
abbrev cL_digits : ByteArray := method_6_code
def yL_digits : MethodName := ⟨RL, "digits", "(LPagePairs;I)Z"⟩
abbrev cL_types : ByteArray := method_7_code
def yL_types : MethodName := ⟨RL, "types", "(LPagePairs;I)Z"⟩
abbrev cL_reads : ByteArray := method_8_code
def yL_reads : MethodName := ⟨RL, "reads", "(LPagePairs;)Z"⟩
abbrev cL_acts : ByteArray := method_9_code
def yL_acts : MethodName := ⟨RL, "acts", "(LPagePairs;II)Z"⟩
abbrev cL_law : ByteArray := code
def yL_law : MethodName := ⟨RL, "law", "([I)Z"⟩
abbrev vwCl : List vw_C := [(RX0, TX0, 4), (RX1, TX1, 2), (RX2, TX2, 5), (RX3, TX3, 5), (RX4, TX4, 11), (RX5, TX5, 7), (RX6, TX6, 6), (RX7, TX7, 8), (RX8, TX8, 5)]
end
section
theorem dX0_init_0 : decode cX0_init 0 = .ok (.aload_n 0, 1) := by decide +kernel
theorem dX0_init_1 : decode cX0_init 1 = .ok (.invokespecial 3, 3) := by decide +kernel
theorem dX0_init_4 : decode cX0_init 4 = .ok (.aload_n 0, 1) := by decide +kernel
theorem dX0_init_5 : decode cX0_init 5 = .ok (.bipush 48, 2) := by decide +kernel
theorem dX0_init_7 : decode cX0_init 7 = .ok (.newarray .int, 2) := by decide +kernel
theorem dX0_init_9 : decode cX0_init 9 = .ok (.putfield 9, 3) := by decide +kernel
theorem dX0_init_12 : decode cX0_init 12 = .ok (.aload_n 0, 1) := by decide +kernel
theorem dX0_init_13 : decode cX0_init 13 = .ok (.bipush 48, 2) := by decide +kernel
theorem dX0_init_15 : decode cX0_init 15 = .ok (.newarray .int, 2) := by decide +kernel
theorem dX0_init_17 : decode cX0_init 17 = .ok (.putfield 15, 3) := by decide +kernel
theorem dX0_init_20 : decode cX0_init 20 = .ok (.aload_n 0, 1) := by decide +kernel
theorem dX0_init_21 : decode cX0_init 21 = .ok (.bipush 48, 2) := by decide +kernel
theorem dX0_init_23 : decode cX0_init 23 = .ok (.newarray .int, 2) := by decide +kernel
theorem dX0_init_25 : decode cX0_init 25 = .ok (.putfield 18, 3) := by decide +kernel
theorem dX0_init_28 : decode cX0_init 28 = .ok (.aload_n 0, 1) := by decide +kernel
theorem dX0_init_29 : decode cX0_init 29 = .ok (.bipush 48, 2) := by decide +kernel
theorem dX0_init_31 : decode cX0_init 31 = .ok (.newarray .int, 2) := by decide +kernel
theorem dX0_init_33 : decode cX0_init 33 = .ok (.putfield 21, 3) := by decide +kernel
theorem dX0_init_36 : decode cX0_init 36 = .ok (.return_, 1) := by decide +kernel
theorem dX0_copyFrom_0 : decode cX0_copyFrom 0 = .ok (.aload_n 1, 1) := by decide +kernel
theorem dX0_copyFrom_1 : decode cX0_copyFrom 1 = .ok (.getfield 9, 3) := by decide +kernel
theorem dX0_copyFrom_4 : decode cX0_copyFrom 4 = .ok (.aload_n 0, 1) := by decide +kernel
theorem dX0_copyFrom_5 : decode cX0_copyFrom 5 = .ok (.getfield 9, 3) := by decide +kernel
theorem dX0_copyFrom_8 : decode cX0_copyFrom 8 = .ok (.invokestatic 24, 3) := by decide +kernel
theorem dX0_copyFrom_11 : decode cX0_copyFrom 11 = .ok (.aload_n 1, 1) := by decide +kernel
theorem dX0_copyFrom_12 : decode cX0_copyFrom 12 = .ok (.getfield 15, 3) := by decide +kernel
theorem dX0_copyFrom_15 : decode cX0_copyFrom 15 = .ok (.aload_n 0, 1) := by decide +kernel
theorem dX0_copyFrom_16 : decode cX0_copyFrom 16 = .ok (.getfield 15, 3) := by decide +kernel
theorem dX0_copyFrom_19 : decode cX0_copyFrom 19 = .ok (.invokestatic 24, 3) := by decide +kernel
theorem dX0_copyFrom_22 : decode cX0_copyFrom 22 = .ok (.aload_n 1, 1) := by decide +kernel
theorem dX0_copyFrom_23 : decode cX0_copyFrom 23 = .ok (.getfield 18, 3) := by decide +kernel
theorem dX0_copyFrom_26 : decode cX0_copyFrom 26 = .ok (.aload_n 0, 1) := by decide +kernel
theorem dX0_copyFrom_27 : decode cX0_copyFrom 27 = .ok (.getfield 18, 3) := by decide +kernel
theorem dX0_copyFrom_30 : decode cX0_copyFrom 30 = .ok (.invokestatic 24, 3) := by decide +kernel
theorem dX0_copyFrom_33 : decode cX0_copyFrom 33 = .ok (.aload_n 1, 1) := by decide +kernel
theorem dX0_copyFrom_34 : decode cX0_copyFrom 34 = .ok (.getfield 21, 3) := by decide +kernel
theorem dX0_copyFrom_37 : decode cX0_copyFrom 37 = .ok (.aload_n 0, 1) := by decide +kernel
theorem dX0_copyFrom_38 : decode cX0_copyFrom 38 = .ok (.getfield 21, 3) := by decide +kernel
theorem dX0_copyFrom_41 : decode cX0_copyFrom 41 = .ok (.invokestatic 24, 3) := by decide +kernel
theorem dX0_copyFrom_44 : decode cX0_copyFrom 44 = .ok (.return_, 1) := by decide +kernel
theorem dX0_kind_0 : decode cX0_kind 0 = .ok (.iload_n 1, 1) := by decide +kernel
theorem dX0_kind_1 : decode cX0_kind 1 = .ok (.ifCond .lt 18, 3) := by decide +kernel
theorem dX0_kind_4 : decode cX0_kind 4 = .ok (.iload_n 1, 1) := by decide +kernel
theorem dX0_kind_5 : decode cX0_kind 5 = .ok (.bipush 48, 2) := by decide +kernel
theorem dX0_kind_7 : decode cX0_kind 7 = .ok (.if_icmp .ge 12, 3) := by decide +kernel
theorem dX0_kind_10 : decode cX0_kind 10 = .ok (.aload_n 0, 1) := by decide +kernel
theorem dX0_kind_11 : decode cX0_kind 11 = .ok (.getfield 9, 3) := by decide +kernel
theorem dX0_kind_14 : decode cX0_kind 14 = .ok (.iload_n 1, 1) := by decide +kernel
theorem dX0_kind_15 : decode cX0_kind 15 = .ok (.iaload, 1) := by decide +kernel
theorem dX0_kind_16 : decode cX0_kind 16 = .ok (.goto 4, 3) := by decide +kernel
theorem dX0_kind_19 : decode cX0_kind 19 = .ok (.iconst 0, 1) := by decide +kernel
theorem dX0_kind_20 : decode cX0_kind 20 = .ok (.ireturn, 1) := by decide +kernel
theorem dX0_key_0 : decode cX0_key 0 = .ok (.iload_n 1, 1) := by decide +kernel
theorem dX0_key_1 : decode cX0_key 1 = .ok (.ifCond .lt 18, 3) := by decide +kernel
theorem dX0_key_4 : decode cX0_key 4 = .ok (.iload_n 1, 1) := by decide +kernel
theorem dX0_key_5 : decode cX0_key 5 = .ok (.bipush 48, 2) := by decide +kernel
theorem dX0_key_7 : decode cX0_key 7 = .ok (.if_icmp .ge 12, 3) := by decide +kernel
theorem dX0_key_10 : decode cX0_key 10 = .ok (.aload_n 0, 1) := by decide +kernel
theorem dX0_key_11 : decode cX0_key 11 = .ok (.getfield 15, 3) := by decide +kernel
theorem dX0_key_14 : decode cX0_key 14 = .ok (.iload_n 1, 1) := by decide +kernel
theorem dX0_key_15 : decode cX0_key 15 = .ok (.iaload, 1) := by decide +kernel
theorem dX0_key_16 : decode cX0_key 16 = .ok (.goto 4, 3) := by decide +kernel
theorem dX0_key_19 : decode cX0_key 19 = .ok (.iconst (-1), 1) := by decide +kernel
theorem dX0_key_20 : decode cX0_key 20 = .ok (.ireturn, 1) := by decide +kernel
theorem dX0_value_0 : decode cX0_value 0 = .ok (.iload_n 1, 1) := by decide +kernel
theorem dX0_value_1 : decode cX0_value 1 = .ok (.ifCond .lt 18, 3) := by decide +kernel
theorem dX0_value_4 : decode cX0_value 4 = .ok (.iload_n 1, 1) := by decide +kernel
theorem dX0_value_5 : decode cX0_value 5 = .ok (.bipush 48, 2) := by decide +kernel
theorem dX0_value_7 : decode cX0_value 7 = .ok (.if_icmp .ge 12, 3) := by decide +kernel
theorem dX0_value_10 : decode cX0_value 10 = .ok (.aload_n 0, 1) := by decide +kernel
theorem dX0_value_11 : decode cX0_value 11 = .ok (.getfield 18, 3) := by decide +kernel
theorem dX0_value_14 : decode cX0_value 14 = .ok (.iload_n 1, 1) := by decide +kernel
theorem dX0_value_15 : decode cX0_value 15 = .ok (.iaload, 1) := by decide +kernel
theorem dX0_value_16 : decode cX0_value 16 = .ok (.goto 4, 3) := by decide +kernel
theorem dX0_value_19 : decode cX0_value 19 = .ok (.iconst 0, 1) := by decide +kernel
theorem dX0_value_20 : decode cX0_value 20 = .ok (.ireturn, 1) := by decide +kernel
theorem dX0_stamp_0 : decode cX0_stamp 0 = .ok (.iload_n 1, 1) := by decide +kernel
theorem dX0_stamp_1 : decode cX0_stamp 1 = .ok (.ifCond .lt 18, 3) := by decide +kernel
theorem dX0_stamp_4 : decode cX0_stamp 4 = .ok (.iload_n 1, 1) := by decide +kernel
theorem dX0_stamp_5 : decode cX0_stamp 5 = .ok (.bipush 48, 2) := by decide +kernel
theorem dX0_stamp_7 : decode cX0_stamp 7 = .ok (.if_icmp .ge 12, 3) := by decide +kernel
theorem dX0_stamp_10 : decode cX0_stamp 10 = .ok (.aload_n 0, 1) := by decide +kernel
theorem dX0_stamp_11 : decode cX0_stamp 11 = .ok (.getfield 21, 3) := by decide +kernel
theorem dX0_stamp_14 : decode cX0_stamp 14 = .ok (.iload_n 1, 1) := by decide +kernel
theorem dX0_stamp_15 : decode cX0_stamp 15 = .ok (.iaload, 1) := by decide +kernel
theorem dX0_stamp_16 : decode cX0_stamp 16 = .ok (.goto 4, 3) := by decide +kernel
theorem dX0_stamp_19 : decode cX0_stamp 19 = .ok (.iconst 0, 1) := by decide +kernel
theorem dX0_stamp_20 : decode cX0_stamp 20 = .ok (.ireturn, 1) := by decide +kernel
theorem dX0_fact_0 : decode cX0_fact 0 = .ok (.iload_n 2, 1) := by decide +kernel
theorem dX0_fact_1 : decode cX0_fact 1 = .ok (.iconst 1, 1) := by decide +kernel
theorem dX0_fact_2 : decode cX0_fact 2 = .ok (.if_icmp .ne 9, 3) := by decide +kernel
theorem dX0_fact_5 : decode cX0_fact 5 = .ok (.aload_n 0, 1) := by decide +kernel
theorem dX0_fact_6 : decode cX0_fact 6 = .ok (.iload_n 1, 1) := by decide +kernel
theorem dX0_fact_7 : decode cX0_fact 7 = .ok (.invokevirtual 28, 3) := by decide +kernel
theorem dX0_fact_10 : decode cX0_fact 10 = .ok (.ireturn, 1) := by decide +kernel
theorem dX0_fact_11 : decode cX0_fact 11 = .ok (.iload_n 2, 1) := by decide +kernel
theorem dX0_fact_12 : decode cX0_fact 12 = .ok (.iconst 2, 1) := by decide +kernel
theorem dX0_fact_13 : decode cX0_fact 13 = .ok (.if_icmp .ne 11, 3) := by decide +kernel
theorem dX0_fact_16 : decode cX0_fact 16 = .ok (.aload_n 0, 1) := by decide +kernel
theorem dX0_fact_17 : decode cX0_fact 17 = .ok (.iload_n 1, 1) := by decide +kernel
theorem dX0_fact_18 : decode cX0_fact 18 = .ok (.invokevirtual 32, 3) := by decide +kernel
theorem dX0_fact_21 : decode cX0_fact 21 = .ok (.goto 8, 3) := by decide +kernel
theorem dX0_fact_24 : decode cX0_fact 24 = .ok (.aload_n 0, 1) := by decide +kernel
theorem dX0_fact_25 : decode cX0_fact 25 = .ok (.iload_n 1, 1) := by decide +kernel
theorem dX0_fact_26 : decode cX0_fact 26 = .ok (.invokevirtual 35, 3) := by decide +kernel
theorem dX0_fact_29 : decode cX0_fact 29 = .ok (.ireturn, 1) := by decide +kernel
theorem dX0_begin_0 : decode cX0_begin 0 = .ok (.iload_n 1, 1) := by decide +kernel
theorem dX0_begin_1 : decode cX0_begin 1 = .ok (.ifCond .lt 38, 3) := by decide +kernel
theorem dX0_begin_4 : decode cX0_begin 4 = .ok (.iload_n 1, 1) := by decide +kernel
theorem dX0_begin_5 : decode cX0_begin 5 = .ok (.bipush 48, 2) := by decide +kernel
theorem dX0_begin_7 : decode cX0_begin 7 = .ok (.if_icmp .ge 32, 3) := by decide +kernel
theorem dX0_begin_10 : decode cX0_begin 10 = .ok (.aload_n 0, 1) := by decide +kernel
theorem dX0_begin_11 : decode cX0_begin 11 = .ok (.getfield 9, 3) := by decide +kernel
theorem dX0_begin_14 : decode cX0_begin 14 = .ok (.iload_n 1, 1) := by decide +kernel
theorem dX0_begin_15 : decode cX0_begin 15 = .ok (.iconst 1, 1) := by decide +kernel
theorem dX0_begin_16 : decode cX0_begin 16 = .ok (.iastore, 1) := by decide +kernel
theorem dX0_begin_17 : decode cX0_begin 17 = .ok (.aload_n 0, 1) := by decide +kernel
theorem dX0_begin_18 : decode cX0_begin 18 = .ok (.getfield 15, 3) := by decide +kernel
theorem dX0_begin_21 : decode cX0_begin 21 = .ok (.iload_n 1, 1) := by decide +kernel
theorem dX0_begin_22 : decode cX0_begin 22 = .ok (.iload_n 2, 1) := by decide +kernel
theorem dX0_begin_23 : decode cX0_begin 23 = .ok (.iastore, 1) := by decide +kernel
theorem dX0_begin_24 : decode cX0_begin 24 = .ok (.aload_n 0, 1) := by decide +kernel
theorem dX0_begin_25 : decode cX0_begin 25 = .ok (.getfield 18, 3) := by decide +kernel
theorem dX0_begin_28 : decode cX0_begin 28 = .ok (.iload_n 1, 1) := by decide +kernel
theorem dX0_begin_29 : decode cX0_begin 29 = .ok (.iload_n 3, 1) := by decide +kernel
theorem dX0_begin_30 : decode cX0_begin 30 = .ok (.iastore, 1) := by decide +kernel
theorem dX0_begin_31 : decode cX0_begin 31 = .ok (.aload_n 0, 1) := by decide +kernel
theorem dX0_begin_32 : decode cX0_begin 32 = .ok (.getfield 21, 3) := by decide +kernel
theorem dX0_begin_35 : decode cX0_begin 35 = .ok (.iload_n 1, 1) := by decide +kernel
theorem dX0_begin_36 : decode cX0_begin 36 = .ok (.iload 4, 2) := by decide +kernel
theorem dX0_begin_38 : decode cX0_begin 38 = .ok (.iastore, 1) := by decide +kernel
theorem dX0_begin_39 : decode cX0_begin 39 = .ok (.return_, 1) := by decide +kernel
theorem dX0_beginBackup_0 : decode cX0_beginBackup 0 = .ok (.iload_n 1, 1) := by decide +kernel
theorem dX0_beginBackup_1 : decode cX0_beginBackup 1 = .ok (.ifCond .lt 62, 3) := by decide +kernel
theorem dX0_beginBackup_4 : decode cX0_beginBackup 4 = .ok (.iload_n 1, 1) := by decide +kernel
theorem dX0_beginBackup_5 : decode cX0_beginBackup 5 = .ok (.bipush 48, 2) := by decide +kernel
theorem dX0_beginBackup_7 : decode cX0_beginBackup 7 = .ok (.if_icmp .ge 56, 3) := by decide +kernel
theorem dX0_beginBackup_10 : decode cX0_beginBackup 10 = .ok (.iload_n 2, 1) := by decide +kernel
theorem dX0_beginBackup_11 : decode cX0_beginBackup 11 = .ok (.ifCond .lt 52, 3) := by decide +kernel
theorem dX0_beginBackup_14 : decode cX0_beginBackup 14 = .ok (.iload_n 2, 1) := by decide +kernel
theorem dX0_beginBackup_15 : decode cX0_beginBackup 15 = .ok (.bipush 48, 2) := by decide +kernel
theorem dX0_beginBackup_17 : decode cX0_beginBackup 17 = .ok (.if_icmp .ge 46, 3) := by decide +kernel
theorem dX0_beginBackup_20 : decode cX0_beginBackup 20 = .ok (.aload_n 0, 1) := by decide +kernel
theorem dX0_beginBackup_21 : decode cX0_beginBackup 21 = .ok (.getfield 9, 3) := by decide +kernel
theorem dX0_beginBackup_24 : decode cX0_beginBackup 24 = .ok (.iload_n 2, 1) := by decide +kernel
theorem dX0_beginBackup_25 : decode cX0_beginBackup 25 = .ok (.iconst 1, 1) := by decide +kernel
theorem dX0_beginBackup_26 : decode cX0_beginBackup 26 = .ok (.iastore, 1) := by decide +kernel
theorem dX0_beginBackup_27 : decode cX0_beginBackup 27 = .ok (.aload_n 0, 1) := by decide +kernel
theorem dX0_beginBackup_28 : decode cX0_beginBackup 28 = .ok (.getfield 15, 3) := by decide +kernel
theorem dX0_beginBackup_31 : decode cX0_beginBackup 31 = .ok (.iload_n 2, 1) := by decide +kernel
theorem dX0_beginBackup_32 : decode cX0_beginBackup 32 = .ok (.aload_n 0, 1) := by decide +kernel
theorem dX0_beginBackup_33 : decode cX0_beginBackup 33 = .ok (.getfield 15, 3) := by decide +kernel
theorem dX0_beginBackup_36 : decode cX0_beginBackup 36 = .ok (.iload_n 1, 1) := by decide +kernel
theorem dX0_beginBackup_37 : decode cX0_beginBackup 37 = .ok (.iaload, 1) := by decide +kernel
theorem dX0_beginBackup_38 : decode cX0_beginBackup 38 = .ok (.iastore, 1) := by decide +kernel
theorem dX0_beginBackup_39 : decode cX0_beginBackup 39 = .ok (.aload_n 0, 1) := by decide +kernel
theorem dX0_beginBackup_40 : decode cX0_beginBackup 40 = .ok (.getfield 18, 3) := by decide +kernel
theorem dX0_beginBackup_43 : decode cX0_beginBackup 43 = .ok (.iload_n 2, 1) := by decide +kernel
theorem dX0_beginBackup_44 : decode cX0_beginBackup 44 = .ok (.aload_n 0, 1) := by decide +kernel
theorem dX0_beginBackup_45 : decode cX0_beginBackup 45 = .ok (.getfield 18, 3) := by decide +kernel
theorem dX0_beginBackup_48 : decode cX0_beginBackup 48 = .ok (.iload_n 1, 1) := by decide +kernel
theorem dX0_beginBackup_49 : decode cX0_beginBackup 49 = .ok (.iaload, 1) := by decide +kernel
theorem dX0_beginBackup_50 : decode cX0_beginBackup 50 = .ok (.iastore, 1) := by decide +kernel
theorem dX0_beginBackup_51 : decode cX0_beginBackup 51 = .ok (.aload_n 0, 1) := by decide +kernel
theorem dX0_beginBackup_52 : decode cX0_beginBackup 52 = .ok (.getfield 21, 3) := by decide +kernel
theorem dX0_beginBackup_55 : decode cX0_beginBackup 55 = .ok (.iload_n 2, 1) := by decide +kernel
theorem dX0_beginBackup_56 : decode cX0_beginBackup 56 = .ok (.aload_n 0, 1) := by decide +kernel
theorem dX0_beginBackup_57 : decode cX0_beginBackup 57 = .ok (.getfield 21, 3) := by decide +kernel
theorem dX0_beginBackup_60 : decode cX0_beginBackup 60 = .ok (.iload_n 1, 1) := by decide +kernel
theorem dX0_beginBackup_61 : decode cX0_beginBackup 61 = .ok (.iaload, 1) := by decide +kernel
theorem dX0_beginBackup_62 : decode cX0_beginBackup 62 = .ok (.iastore, 1) := by decide +kernel
theorem dX0_beginBackup_63 : decode cX0_beginBackup 63 = .ok (.return_, 1) := by decide +kernel
theorem dX0_mark_0 : decode cX0_mark 0 = .ok (.iload_n 1, 1) := by decide +kernel
theorem dX0_mark_1 : decode cX0_mark 1 = .ok (.ifCond .lt 16, 3) := by decide +kernel
theorem dX0_mark_4 : decode cX0_mark 4 = .ok (.iload_n 1, 1) := by decide +kernel
theorem dX0_mark_5 : decode cX0_mark 5 = .ok (.bipush 48, 2) := by decide +kernel
theorem dX0_mark_7 : decode cX0_mark 7 = .ok (.if_icmp .ge 10, 3) := by decide +kernel
theorem dX0_mark_10 : decode cX0_mark 10 = .ok (.aload_n 0, 1) := by decide +kernel
theorem dX0_mark_11 : decode cX0_mark 11 = .ok (.getfield 9, 3) := by decide +kernel
theorem dX0_mark_14 : decode cX0_mark 14 = .ok (.iload_n 1, 1) := by decide +kernel
theorem dX0_mark_15 : decode cX0_mark 15 = .ok (.iload_n 2, 1) := by decide +kernel
theorem dX0_mark_16 : decode cX0_mark 16 = .ok (.iastore, 1) := by decide +kernel
theorem dX0_mark_17 : decode cX0_mark 17 = .ok (.return_, 1) := by decide +kernel
theorem dX0_blankBlock_0 : decode cX0_blankBlock 0 = .ok (.iconst 0, 1) := by decide +kernel
theorem dX0_blankBlock_1 : decode cX0_blankBlock 1 = .ok (.istore_n 2, 1) := by decide +kernel
theorem dX0_blankBlock_2 : decode cX0_blankBlock 2 = .ok (.iload_n 2, 1) := by decide +kernel
theorem dX0_blankBlock_3 : decode cX0_blankBlock 3 = .ok (.bipush 24, 2) := by decide +kernel
theorem dX0_blankBlock_5 : decode cX0_blankBlock 5 = .ok (.if_icmp .ge 19, 3) := by decide +kernel
theorem dX0_blankBlock_8 : decode cX0_blankBlock 8 = .ok (.aload_n 0, 1) := by decide +kernel
theorem dX0_blankBlock_9 : decode cX0_blankBlock 9 = .ok (.iload_n 1, 1) := by decide +kernel
theorem dX0_blankBlock_10 : decode cX0_blankBlock 10 = .ok (.iload_n 2, 1) := by decide +kernel
theorem dX0_blankBlock_11 : decode cX0_blankBlock 11 = .ok (.invokestatic 38, 3) := by decide +kernel
theorem dX0_blankBlock_14 : decode cX0_blankBlock 14 = .ok (.iconst 0, 1) := by decide +kernel
theorem dX0_blankBlock_15 : decode cX0_blankBlock 15 = .ok (.invokevirtual 42, 3) := by decide +kernel
theorem dX0_blankBlock_18 : decode cX0_blankBlock 18 = .ok (.iinc 2 1, 3) := by decide +kernel
theorem dX0_blankBlock_21 : decode cX0_blankBlock 21 = .ok (.goto (-19), 3) := by decide +kernel
theorem dX0_blankBlock_24 : decode cX0_blankBlock 24 = .ok (.return_, 1) := by decide +kernel
theorem dX0_isBlankBlock_0 : decode cX0_isBlankBlock 0 = .ok (.iconst 0, 1) := by decide +kernel
theorem dX0_isBlankBlock_1 : decode cX0_isBlankBlock 1 = .ok (.istore_n 2, 1) := by decide +kernel
theorem dX0_isBlankBlock_2 : decode cX0_isBlankBlock 2 = .ok (.iload_n 2, 1) := by decide +kernel
theorem dX0_isBlankBlock_3 : decode cX0_isBlankBlock 3 = .ok (.bipush 16, 2) := by decide +kernel
theorem dX0_isBlankBlock_5 : decode cX0_isBlankBlock 5 = .ok (.if_icmp .ge 23, 3) := by decide +kernel
theorem dX0_isBlankBlock_8 : decode cX0_isBlankBlock 8 = .ok (.aload_n 0, 1) := by decide +kernel
theorem dX0_isBlankBlock_9 : decode cX0_isBlankBlock 9 = .ok (.iload_n 1, 1) := by decide +kernel
theorem dX0_isBlankBlock_10 : decode cX0_isBlankBlock 10 = .ok (.iload_n 2, 1) := by decide +kernel
theorem dX0_isBlankBlock_11 : decode cX0_isBlankBlock 11 = .ok (.invokestatic 38, 3) := by decide +kernel
theorem dX0_isBlankBlock_14 : decode cX0_isBlankBlock 14 = .ok (.invokevirtual 46, 3) := by decide +kernel
theorem dX0_isBlankBlock_17 : decode cX0_isBlankBlock 17 = .ok (.ifCond .eq 5, 3) := by decide +kernel
theorem dX0_isBlankBlock_20 : decode cX0_isBlankBlock 20 = .ok (.iconst 0, 1) := by decide +kernel
theorem dX0_isBlankBlock_21 : decode cX0_isBlankBlock 21 = .ok (.ireturn, 1) := by decide +kernel
theorem dX0_isBlankBlock_22 : decode cX0_isBlankBlock 22 = .ok (.iinc 2 1, 3) := by decide +kernel
theorem dX0_isBlankBlock_25 : decode cX0_isBlankBlock 25 = .ok (.goto (-23), 3) := by decide +kernel
theorem dX0_isBlankBlock_28 : decode cX0_isBlankBlock 28 = .ok (.iconst 1, 1) := by decide +kernel
theorem dX0_isBlankBlock_29 : decode cX0_isBlankBlock 29 = .ok (.ireturn, 1) := by decide +kernel
theorem dX0_place_0 : decode cX0_place 0 = .ok (.iconst (-1), 1) := by decide +kernel
theorem dX0_place_1 : decode cX0_place 1 = .ok (.istore_n 2, 1) := by decide +kernel
theorem dX0_place_2 : decode cX0_place 2 = .ok (.iconst 0, 1) := by decide +kernel
theorem dX0_place_3 : decode cX0_place 3 = .ok (.istore_n 3, 1) := by decide +kernel
theorem dX0_place_4 : decode cX0_place 4 = .ok (.iconst 0, 1) := by decide +kernel
theorem dX0_place_5 : decode cX0_place 5 = .ok (.istore 4, 2) := by decide +kernel
theorem dX0_place_7 : decode cX0_place 7 = .ok (.iload 4, 2) := by decide +kernel
theorem dX0_place_9 : decode cX0_place 9 = .ok (.bipush 48, 2) := by decide +kernel
theorem dX0_place_11 : decode cX0_place 11 = .ok (.if_icmp .ge 53, 3) := by decide +kernel
theorem dX0_place_14 : decode cX0_place 14 = .ok (.aload_n 0, 1) := by decide +kernel
theorem dX0_place_15 : decode cX0_place 15 = .ok (.getfield 9, 3) := by decide +kernel
theorem dX0_place_18 : decode cX0_place 18 = .ok (.iload 4, 2) := by decide +kernel
theorem dX0_place_20 : decode cX0_place 20 = .ok (.iaload, 1) := by decide +kernel
theorem dX0_place_21 : decode cX0_place 21 = .ok (.iconst 2, 1) := by decide +kernel
theorem dX0_place_22 : decode cX0_place 22 = .ok (.if_icmp .ne 36, 3) := by decide +kernel
theorem dX0_place_25 : decode cX0_place 25 = .ok (.aload_n 0, 1) := by decide +kernel
theorem dX0_place_26 : decode cX0_place 26 = .ok (.getfield 15, 3) := by decide +kernel
theorem dX0_place_29 : decode cX0_place 29 = .ok (.iload 4, 2) := by decide +kernel
theorem dX0_place_31 : decode cX0_place 31 = .ok (.iaload, 1) := by decide +kernel
theorem dX0_place_32 : decode cX0_place 32 = .ok (.iload_n 1, 1) := by decide +kernel
theorem dX0_place_33 : decode cX0_place 33 = .ok (.if_icmp .ne 25, 3) := by decide +kernel
theorem dX0_place_36 : decode cX0_place 36 = .ok (.aload_n 0, 1) := by decide +kernel
theorem dX0_place_37 : decode cX0_place 37 = .ok (.getfield 21, 3) := by decide +kernel
theorem dX0_place_40 : decode cX0_place 40 = .ok (.iload 4, 2) := by decide +kernel
theorem dX0_place_42 : decode cX0_place 42 = .ok (.iaload, 1) := by decide +kernel
theorem dX0_place_43 : decode cX0_place 43 = .ok (.iload_n 3, 1) := by decide +kernel
theorem dX0_place_44 : decode cX0_place 44 = .ok (.if_icmp .le 14, 3) := by decide +kernel
theorem dX0_place_47 : decode cX0_place 47 = .ok (.iload 4, 2) := by decide +kernel
theorem dX0_place_49 : decode cX0_place 49 = .ok (.istore_n 2, 1) := by decide +kernel
theorem dX0_place_50 : decode cX0_place 50 = .ok (.aload_n 0, 1) := by decide +kernel
theorem dX0_place_51 : decode cX0_place 51 = .ok (.getfield 21, 3) := by decide +kernel
theorem dX0_place_54 : decode cX0_place 54 = .ok (.iload 4, 2) := by decide +kernel
theorem dX0_place_56 : decode cX0_place 56 = .ok (.iaload, 1) := by decide +kernel
theorem dX0_place_57 : decode cX0_place 57 = .ok (.istore_n 3, 1) := by decide +kernel
theorem dX0_place_58 : decode cX0_place 58 = .ok (.iinc 4 1, 3) := by decide +kernel
theorem dX0_place_61 : decode cX0_place 61 = .ok (.goto (-54), 3) := by decide +kernel
theorem dX0_place_64 : decode cX0_place 64 = .ok (.iload_n 2, 1) := by decide +kernel
theorem dX0_place_65 : decode cX0_place 65 = .ok (.ireturn, 1) := by decide +kernel
theorem dX0_isPlace_0 : decode cX0_isPlace 0 = .ok (.aload_n 0, 1) := by decide +kernel
theorem dX0_isPlace_1 : decode cX0_isPlace 1 = .ok (.iload_n 1, 1) := by decide +kernel
theorem dX0_isPlace_2 : decode cX0_isPlace 2 = .ok (.invokevirtual 46, 3) := by decide +kernel
theorem dX0_isPlace_5 : decode cX0_isPlace 5 = .ok (.iconst 2, 1) := by decide +kernel
theorem dX0_isPlace_6 : decode cX0_isPlace 6 = .ok (.if_icmp .ne 20, 3) := by decide +kernel
theorem dX0_isPlace_9 : decode cX0_isPlace 9 = .ok (.aload_n 0, 1) := by decide +kernel
theorem dX0_isPlace_10 : decode cX0_isPlace 10 = .ok (.aload_n 0, 1) := by decide +kernel
theorem dX0_isPlace_11 : decode cX0_isPlace 11 = .ok (.iload_n 1, 1) := by decide +kernel
theorem dX0_isPlace_12 : decode cX0_isPlace 12 = .ok (.invokevirtual 28, 3) := by decide +kernel
theorem dX0_isPlace_15 : decode cX0_isPlace 15 = .ok (.invokevirtual 49, 3) := by decide +kernel
theorem dX0_isPlace_18 : decode cX0_isPlace 18 = .ok (.iload_n 1, 1) := by decide +kernel
theorem dX0_isPlace_19 : decode cX0_isPlace 19 = .ok (.if_icmp .ne 7, 3) := by decide +kernel
theorem dX0_isPlace_22 : decode cX0_isPlace 22 = .ok (.iconst 1, 1) := by decide +kernel
theorem dX0_isPlace_23 : decode cX0_isPlace 23 = .ok (.goto 4, 3) := by decide +kernel
theorem dX0_isPlace_26 : decode cX0_isPlace 26 = .ok (.iconst 0, 1) := by decide +kernel
theorem dX0_isPlace_27 : decode cX0_isPlace 27 = .ok (.ireturn, 1) := by decide +kernel
theorem dX0_placeStamp_0 : decode cX0_placeStamp 0 = .ok (.aload_n 0, 1) := by decide +kernel
theorem dX0_placeStamp_1 : decode cX0_placeStamp 1 = .ok (.iload_n 1, 1) := by decide +kernel
theorem dX0_placeStamp_2 : decode cX0_placeStamp 2 = .ok (.invokevirtual 49, 3) := by decide +kernel
theorem dX0_placeStamp_5 : decode cX0_placeStamp 5 = .ok (.istore_n 2, 1) := by decide +kernel
theorem dX0_placeStamp_6 : decode cX0_placeStamp 6 = .ok (.iload_n 2, 1) := by decide +kernel
theorem dX0_placeStamp_7 : decode cX0_placeStamp 7 = .ok (.iconst (-1), 1) := by decide +kernel
theorem dX0_placeStamp_8 : decode cX0_placeStamp 8 = .ok (.if_icmp .ne 7, 3) := by decide +kernel
theorem dX0_placeStamp_11 : decode cX0_placeStamp 11 = .ok (.iconst 0, 1) := by decide +kernel
theorem dX0_placeStamp_12 : decode cX0_placeStamp 12 = .ok (.goto 8, 3) := by decide +kernel
theorem dX0_placeStamp_15 : decode cX0_placeStamp 15 = .ok (.aload_n 0, 1) := by decide +kernel
theorem dX0_placeStamp_16 : decode cX0_placeStamp 16 = .ok (.iload_n 2, 1) := by decide +kernel
theorem dX0_placeStamp_17 : decode cX0_placeStamp 17 = .ok (.invokevirtual 35, 3) := by decide +kernel
theorem dX0_placeStamp_20 : decode cX0_placeStamp 20 = .ok (.ireturn, 1) := by decide +kernel
theorem dX0_placesInBlock_0 : decode cX0_placesInBlock 0 = .ok (.iconst 0, 1) := by decide +kernel
theorem dX0_placesInBlock_1 : decode cX0_placesInBlock 1 = .ok (.istore_n 2, 1) := by decide +kernel
theorem dX0_placesInBlock_2 : decode cX0_placesInBlock 2 = .ok (.iconst 0, 1) := by decide +kernel
theorem dX0_placesInBlock_3 : decode cX0_placesInBlock 3 = .ok (.istore_n 3, 1) := by decide +kernel
theorem dX0_placesInBlock_4 : decode cX0_placesInBlock 4 = .ok (.iload_n 3, 1) := by decide +kernel
theorem dX0_placesInBlock_5 : decode cX0_placesInBlock 5 = .ok (.bipush 24, 2) := by decide +kernel
theorem dX0_placesInBlock_7 : decode cX0_placesInBlock 7 = .ok (.if_icmp .ge 24, 3) := by decide +kernel
theorem dX0_placesInBlock_10 : decode cX0_placesInBlock 10 = .ok (.aload_n 0, 1) := by decide +kernel
theorem dX0_placesInBlock_11 : decode cX0_placesInBlock 11 = .ok (.iload_n 1, 1) := by decide +kernel
theorem dX0_placesInBlock_12 : decode cX0_placesInBlock 12 = .ok (.iload_n 3, 1) := by decide +kernel
theorem dX0_placesInBlock_13 : decode cX0_placesInBlock 13 = .ok (.invokestatic 38, 3) := by decide +kernel
theorem dX0_placesInBlock_16 : decode cX0_placesInBlock 16 = .ok (.invokevirtual 52, 3) := by decide +kernel
theorem dX0_placesInBlock_19 : decode cX0_placesInBlock 19 = .ok (.ifCond .eq 6, 3) := by decide +kernel
theorem dX0_placesInBlock_22 : decode cX0_placesInBlock 22 = .ok (.iinc 2 1, 3) := by decide +kernel
theorem dX0_placesInBlock_25 : decode cX0_placesInBlock 25 = .ok (.iinc 3 1, 3) := by decide +kernel
theorem dX0_placesInBlock_28 : decode cX0_placesInBlock 28 = .ok (.goto (-24), 3) := by decide +kernel
theorem dX0_placesInBlock_31 : decode cX0_placesInBlock 31 = .ok (.iload_n 2, 1) := by decide +kernel
theorem dX0_placesInBlock_32 : decode cX0_placesInBlock 32 = .ok (.ireturn, 1) := by decide +kernel
theorem dX0_tornPages_0 : decode cX0_tornPages 0 = .ok (.iconst 0, 1) := by decide +kernel
theorem dX0_tornPages_1 : decode cX0_tornPages 1 = .ok (.istore_n 1, 1) := by decide +kernel
theorem dX0_tornPages_2 : decode cX0_tornPages 2 = .ok (.iconst 0, 1) := by decide +kernel
theorem dX0_tornPages_3 : decode cX0_tornPages 3 = .ok (.istore_n 2, 1) := by decide +kernel
theorem dX0_tornPages_4 : decode cX0_tornPages 4 = .ok (.iload_n 2, 1) := by decide +kernel
theorem dX0_tornPages_5 : decode cX0_tornPages 5 = .ok (.bipush 48, 2) := by decide +kernel
theorem dX0_tornPages_7 : decode cX0_tornPages 7 = .ok (.if_icmp .ge 22, 3) := by decide +kernel
theorem dX0_tornPages_10 : decode cX0_tornPages 10 = .ok (.aload_n 0, 1) := by decide +kernel
theorem dX0_tornPages_11 : decode cX0_tornPages 11 = .ok (.getfield 9, 3) := by decide +kernel
theorem dX0_tornPages_14 : decode cX0_tornPages 14 = .ok (.iload_n 2, 1) := by decide +kernel
theorem dX0_tornPages_15 : decode cX0_tornPages 15 = .ok (.iaload, 1) := by decide +kernel
theorem dX0_tornPages_16 : decode cX0_tornPages 16 = .ok (.iconst 3, 1) := by decide +kernel
theorem dX0_tornPages_17 : decode cX0_tornPages 17 = .ok (.if_icmp .ne 6, 3) := by decide +kernel
theorem dX0_tornPages_20 : decode cX0_tornPages 20 = .ok (.iinc 1 1, 3) := by decide +kernel
theorem dX0_tornPages_23 : decode cX0_tornPages 23 = .ok (.iinc 2 1, 3) := by decide +kernel
theorem dX0_tornPages_26 : decode cX0_tornPages 26 = .ok (.goto (-22), 3) := by decide +kernel
theorem dX0_tornPages_29 : decode cX0_tornPages 29 = .ok (.iload_n 1, 1) := by decide +kernel
theorem dX0_tornPages_30 : decode cX0_tornPages 30 = .ok (.ireturn, 1) := by decide +kernel
theorem dX0_keysWithPlace_0 : decode cX0_keysWithPlace 0 = .ok (.iconst 0, 1) := by decide +kernel
theorem dX0_keysWithPlace_1 : decode cX0_keysWithPlace 1 = .ok (.istore_n 1, 1) := by decide +kernel
theorem dX0_keysWithPlace_2 : decode cX0_keysWithPlace 2 = .ok (.iconst 0, 1) := by decide +kernel
theorem dX0_keysWithPlace_3 : decode cX0_keysWithPlace 3 = .ok (.istore_n 2, 1) := by decide +kernel
theorem dX0_keysWithPlace_4 : decode cX0_keysWithPlace 4 = .ok (.iload_n 2, 1) := by decide +kernel
theorem dX0_keysWithPlace_5 : decode cX0_keysWithPlace 5 = .ok (.bipush 12, 2) := by decide +kernel
theorem dX0_keysWithPlace_7 : decode cX0_keysWithPlace 7 = .ok (.if_icmp .ge 21, 3) := by decide +kernel
theorem dX0_keysWithPlace_10 : decode cX0_keysWithPlace 10 = .ok (.aload_n 0, 1) := by decide +kernel
theorem dX0_keysWithPlace_11 : decode cX0_keysWithPlace 11 = .ok (.iload_n 2, 1) := by decide +kernel
theorem dX0_keysWithPlace_12 : decode cX0_keysWithPlace 12 = .ok (.invokevirtual 49, 3) := by decide +kernel
theorem dX0_keysWithPlace_15 : decode cX0_keysWithPlace 15 = .ok (.iconst (-1), 1) := by decide +kernel
theorem dX0_keysWithPlace_16 : decode cX0_keysWithPlace 16 = .ok (.if_icmp .eq 6, 3) := by decide +kernel
theorem dX0_keysWithPlace_19 : decode cX0_keysWithPlace 19 = .ok (.iinc 1 1, 3) := by decide +kernel
theorem dX0_keysWithPlace_22 : decode cX0_keysWithPlace 22 = .ok (.iinc 2 1, 3) := by decide +kernel
theorem dX0_keysWithPlace_25 : decode cX0_keysWithPlace 25 = .ok (.goto (-21), 3) := by decide +kernel
theorem dX0_keysWithPlace_28 : decode cX0_keysWithPlace 28 = .ok (.iload_n 1, 1) := by decide +kernel
theorem dX0_keysWithPlace_29 : decode cX0_keysWithPlace 29 = .ok (.ireturn, 1) := by decide +kernel
theorem dX1_init_0 : decode cX1_init 0 = .ok (.aload_n 0, 1) := by decide +kernel
theorem dX1_init_1 : decode cX1_init 1 = .ok (.invokespecial 3, 3) := by decide +kernel
theorem dX1_init_4 : decode cX1_init 4 = .ok (.aload_n 0, 1) := by decide +kernel
theorem dX1_init_5 : decode cX1_init 5 = .ok (.iconst 5, 1) := by decide +kernel
theorem dX1_init_6 : decode cX1_init 6 = .ok (.anewarray 9, 3) := by decide +kernel
theorem dX1_init_9 : decode cX1_init 9 = .ok (.putfield 11, 3) := by decide +kernel
theorem dX1_init_12 : decode cX1_init 12 = .ok (.iconst 0, 1) := by decide +kernel
theorem dX1_init_13 : decode cX1_init 13 = .ok (.istore_n 1, 1) := by decide +kernel
theorem dX1_init_14 : decode cX1_init 14 = .ok (.iload_n 1, 1) := by decide +kernel
theorem dX1_init_15 : decode cX1_init 15 = .ok (.aload_n 0, 1) := by decide +kernel
theorem dX1_init_16 : decode cX1_init 16 = .ok (.getfield 11, 3) := by decide +kernel
theorem dX1_init_19 : decode cX1_init 19 = .ok (.arraylength, 1) := by decide +kernel
theorem dX1_init_20 : decode cX1_init 20 = .ok (.if_icmp .ge 22, 3) := by decide +kernel
theorem dX1_init_23 : decode cX1_init 23 = .ok (.aload_n 0, 1) := by decide +kernel
theorem dX1_init_24 : decode cX1_init 24 = .ok (.getfield 11, 3) := by decide +kernel
theorem dX1_init_27 : decode cX1_init 27 = .ok (.iload_n 1, 1) := by decide +kernel
theorem dX1_init_28 : decode cX1_init 28 = .ok (.new 9, 3) := by decide +kernel
theorem dX1_init_31 : decode cX1_init 31 = .ok (.dup, 1) := by decide +kernel
theorem dX1_init_32 : decode cX1_init 32 = .ok (.invokespecial 17, 3) := by decide +kernel
theorem dX1_init_35 : decode cX1_init 35 = .ok (.aastore, 1) := by decide +kernel
theorem dX1_init_36 : decode cX1_init 36 = .ok (.iinc 1 1, 3) := by decide +kernel
theorem dX1_init_39 : decode cX1_init 39 = .ok (.goto (-25), 3) := by decide +kernel
theorem dX1_init_42 : decode cX1_init 42 = .ok (.return_, 1) := by decide +kernel
theorem dX1_size_0 : decode cX1_size 0 = .ok (.aload_n 0, 1) := by decide +kernel
theorem dX1_size_1 : decode cX1_size 1 = .ok (.getfield 18, 3) := by decide +kernel
theorem dX1_size_4 : decode cX1_size 4 = .ok (.ireturn, 1) := by decide +kernel
theorem dX1_note_0 : decode cX1_note 0 = .ok (.aload_n 0, 1) := by decide +kernel
theorem dX1_note_1 : decode cX1_note 1 = .ok (.aload_n 0, 1) := by decide +kernel
theorem dX1_note_2 : decode cX1_note 2 = .ok (.getfield 18, 3) := by decide +kernel
theorem dX1_note_5 : decode cX1_note 5 = .ok (.invokevirtual 22, 3) := by decide +kernel
theorem dX1_note_8 : decode cX1_note 8 = .ok (.astore_n 2, 1) := by decide +kernel
theorem dX1_note_9 : decode cX1_note 9 = .ok (.aload_n 2, 1) := by decide +kernel
theorem dX1_note_10 : decode cX1_note 10 = .ok (.ifnull 8, 3) := by decide +kernel
theorem dX1_note_13 : decode cX1_note 13 = .ok (.aload_n 2, 1) := by decide +kernel
theorem dX1_note_14 : decode cX1_note 14 = .ok (.aload_n 1, 1) := by decide +kernel
theorem dX1_note_15 : decode cX1_note 15 = .ok (.invokevirtual 26, 3) := by decide +kernel
theorem dX1_note_18 : decode cX1_note 18 = .ok (.return_, 1) := by decide +kernel
theorem dX1_keep_0 : decode cX1_keep 0 = .ok (.aload_n 0, 1) := by decide +kernel
theorem dX1_keep_1 : decode cX1_keep 1 = .ok (.dup, 1) := by decide +kernel
theorem dX1_keep_2 : decode cX1_keep 2 = .ok (.getfield 18, 3) := by decide +kernel
theorem dX1_keep_5 : decode cX1_keep 5 = .ok (.iconst 1, 1) := by decide +kernel
theorem dX1_keep_6 : decode cX1_keep 6 = .ok (.iadd, 1) := by decide +kernel
theorem dX1_keep_7 : decode cX1_keep 7 = .ok (.putfield 18, 3) := by decide +kernel
theorem dX1_keep_10 : decode cX1_keep 10 = .ok (.aload_n 0, 1) := by decide +kernel
theorem dX1_keep_11 : decode cX1_keep 11 = .ok (.getfield 18, 3) := by decide +kernel
theorem dX1_keep_14 : decode cX1_keep 14 = .ok (.iconst 4, 1) := by decide +kernel
theorem dX1_keep_15 : decode cX1_keep 15 = .ok (.if_icmp .le 7, 3) := by decide +kernel
theorem dX1_keep_18 : decode cX1_keep 18 = .ok (.aload_n 0, 1) := by decide +kernel
theorem dX1_keep_19 : decode cX1_keep 19 = .ok (.invokevirtual 30, 3) := by decide +kernel
theorem dX1_keep_22 : decode cX1_keep 22 = .ok (.return_, 1) := by decide +kernel
theorem dX1_restore_0 : decode cX1_restore 0 = .ok (.aload_n 0, 1) := by decide +kernel
theorem dX1_restore_1 : decode cX1_restore 1 = .ok (.getfield 18, 3) := by decide +kernel
theorem dX1_restore_4 : decode cX1_restore 4 = .ok (.ifCond .ne 6, 3) := by decide +kernel
theorem dX1_restore_7 : decode cX1_restore 7 = .ok (.bipush (-2), 2) := by decide +kernel
theorem dX1_restore_9 : decode cX1_restore 9 = .ok (.ireturn, 1) := by decide +kernel
theorem dX1_restore_10 : decode cX1_restore 10 = .ok (.aload_n 0, 1) := by decide +kernel
theorem dX1_restore_11 : decode cX1_restore 11 = .ok (.dup, 1) := by decide +kernel
theorem dX1_restore_12 : decode cX1_restore 12 = .ok (.getfield 18, 3) := by decide +kernel
theorem dX1_restore_15 : decode cX1_restore 15 = .ok (.iconst 1, 1) := by decide +kernel
theorem dX1_restore_16 : decode cX1_restore 16 = .ok (.isub, 1) := by decide +kernel
theorem dX1_restore_17 : decode cX1_restore 17 = .ok (.putfield 18, 3) := by decide +kernel
theorem dX1_restore_20 : decode cX1_restore 20 = .ok (.aload_n 0, 1) := by decide +kernel
theorem dX1_restore_21 : decode cX1_restore 21 = .ok (.aload_n 0, 1) := by decide +kernel
theorem dX1_restore_22 : decode cX1_restore 22 = .ok (.getfield 18, 3) := by decide +kernel
theorem dX1_restore_25 : decode cX1_restore 25 = .ok (.invokevirtual 22, 3) := by decide +kernel
theorem dX1_restore_28 : decode cX1_restore 28 = .ok (.astore_n 2, 1) := by decide +kernel
theorem dX1_restore_29 : decode cX1_restore 29 = .ok (.aload_n 2, 1) := by decide +kernel
theorem dX1_restore_30 : decode cX1_restore 30 = .ok (.ifnull 8, 3) := by decide +kernel
theorem dX1_restore_33 : decode cX1_restore 33 = .ok (.aload_n 1, 1) := by decide +kernel
theorem dX1_restore_34 : decode cX1_restore 34 = .ok (.aload_n 2, 1) := by decide +kernel
theorem dX1_restore_35 : decode cX1_restore 35 = .ok (.invokevirtual 26, 3) := by decide +kernel
theorem dX1_restore_38 : decode cX1_restore 38 = .ok (.aload_n 0, 1) := by decide +kernel
theorem dX1_restore_39 : decode cX1_restore 39 = .ok (.getfield 18, 3) := by decide +kernel
theorem dX1_restore_42 : decode cX1_restore 42 = .ok (.ireturn, 1) := by decide +kernel
theorem dX1_stateAt_0 : decode cX1_stateAt 0 = .ok (.iload_n 1, 1) := by decide +kernel
theorem dX1_stateAt_1 : decode cX1_stateAt 1 = .ok (.ifCond .lt 21, 3) := by decide +kernel
theorem dX1_stateAt_4 : decode cX1_stateAt 4 = .ok (.iload_n 1, 1) := by decide +kernel
theorem dX1_stateAt_5 : decode cX1_stateAt 5 = .ok (.aload_n 0, 1) := by decide +kernel
theorem dX1_stateAt_6 : decode cX1_stateAt 6 = .ok (.getfield 11, 3) := by decide +kernel
theorem dX1_stateAt_9 : decode cX1_stateAt 9 = .ok (.arraylength, 1) := by decide +kernel
theorem dX1_stateAt_10 : decode cX1_stateAt 10 = .ok (.if_icmp .ge 12, 3) := by decide +kernel
theorem dX1_stateAt_13 : decode cX1_stateAt 13 = .ok (.aload_n 0, 1) := by decide +kernel
theorem dX1_stateAt_14 : decode cX1_stateAt 14 = .ok (.getfield 11, 3) := by decide +kernel
theorem dX1_stateAt_17 : decode cX1_stateAt 17 = .ok (.iload_n 1, 1) := by decide +kernel
theorem dX1_stateAt_18 : decode cX1_stateAt 18 = .ok (.aaload, 1) := by decide +kernel
theorem dX1_stateAt_19 : decode cX1_stateAt 19 = .ok (.goto 4, 3) := by decide +kernel
theorem dX1_stateAt_22 : decode cX1_stateAt 22 = .ok (.aconst_null, 1) := by decide +kernel
theorem dX1_stateAt_23 : decode cX1_stateAt 23 = .ok (.areturn, 1) := by decide +kernel
theorem dX1_dropOldest_0 : decode cX1_dropOldest 0 = .ok (.aload_n 0, 1) := by decide +kernel
theorem dX1_dropOldest_1 : decode cX1_dropOldest 1 = .ok (.iconst 0, 1) := by decide +kernel
theorem dX1_dropOldest_2 : decode cX1_dropOldest 2 = .ok (.invokevirtual 22, 3) := by decide +kernel
theorem dX1_dropOldest_5 : decode cX1_dropOldest 5 = .ok (.astore_n 1, 1) := by decide +kernel
theorem dX1_dropOldest_6 : decode cX1_dropOldest 6 = .ok (.iconst 0, 1) := by decide +kernel
theorem dX1_dropOldest_7 : decode cX1_dropOldest 7 = .ok (.istore_n 2, 1) := by decide +kernel
theorem dX1_dropOldest_8 : decode cX1_dropOldest 8 = .ok (.iload_n 2, 1) := by decide +kernel
theorem dX1_dropOldest_9 : decode cX1_dropOldest 9 = .ok (.iconst 1, 1) := by decide +kernel
theorem dX1_dropOldest_10 : decode cX1_dropOldest 10 = .ok (.iadd, 1) := by decide +kernel
theorem dX1_dropOldest_11 : decode cX1_dropOldest 11 = .ok (.aload_n 0, 1) := by decide +kernel
theorem dX1_dropOldest_12 : decode cX1_dropOldest 12 = .ok (.getfield 11, 3) := by decide +kernel
theorem dX1_dropOldest_15 : decode cX1_dropOldest 15 = .ok (.arraylength, 1) := by decide +kernel
theorem dX1_dropOldest_16 : decode cX1_dropOldest 16 = .ok (.if_icmp .ge 23, 3) := by decide +kernel
theorem dX1_dropOldest_19 : decode cX1_dropOldest 19 = .ok (.aload_n 0, 1) := by decide +kernel
theorem dX1_dropOldest_20 : decode cX1_dropOldest 20 = .ok (.getfield 11, 3) := by decide +kernel
theorem dX1_dropOldest_23 : decode cX1_dropOldest 23 = .ok (.iload_n 2, 1) := by decide +kernel
theorem dX1_dropOldest_24 : decode cX1_dropOldest 24 = .ok (.aload_n 0, 1) := by decide +kernel
theorem dX1_dropOldest_25 : decode cX1_dropOldest 25 = .ok (.getfield 11, 3) := by decide +kernel
theorem dX1_dropOldest_28 : decode cX1_dropOldest 28 = .ok (.iload_n 2, 1) := by decide +kernel
theorem dX1_dropOldest_29 : decode cX1_dropOldest 29 = .ok (.iconst 1, 1) := by decide +kernel
theorem dX1_dropOldest_30 : decode cX1_dropOldest 30 = .ok (.iadd, 1) := by decide +kernel
theorem dX1_dropOldest_31 : decode cX1_dropOldest 31 = .ok (.aaload, 1) := by decide +kernel
theorem dX1_dropOldest_32 : decode cX1_dropOldest 32 = .ok (.aastore, 1) := by decide +kernel
theorem dX1_dropOldest_33 : decode cX1_dropOldest 33 = .ok (.iinc 2 1, 3) := by decide +kernel
theorem dX1_dropOldest_36 : decode cX1_dropOldest 36 = .ok (.goto (-28), 3) := by decide +kernel
theorem dX1_dropOldest_39 : decode cX1_dropOldest 39 = .ok (.aload_n 0, 1) := by decide +kernel
theorem dX1_dropOldest_40 : decode cX1_dropOldest 40 = .ok (.getfield 11, 3) := by decide +kernel
theorem dX1_dropOldest_43 : decode cX1_dropOldest 43 = .ok (.iconst 4, 1) := by decide +kernel
theorem dX1_dropOldest_44 : decode cX1_dropOldest 44 = .ok (.aload_n 1, 1) := by decide +kernel
theorem dX1_dropOldest_45 : decode cX1_dropOldest 45 = .ok (.aastore, 1) := by decide +kernel
theorem dX1_dropOldest_46 : decode cX1_dropOldest 46 = .ok (.aload_n 0, 1) := by decide +kernel
theorem dX1_dropOldest_47 : decode cX1_dropOldest 47 = .ok (.iconst 4, 1) := by decide +kernel
theorem dX1_dropOldest_48 : decode cX1_dropOldest 48 = .ok (.putfield 18, 3) := by decide +kernel
theorem dX1_dropOldest_51 : decode cX1_dropOldest 51 = .ok (.return_, 1) := by decide +kernel
theorem dX2_init_0 : decode cX2_init 0 = .ok (.aload_n 0, 1) := by decide +kernel
theorem dX2_init_1 : decode cX2_init 1 = .ok (.invokespecial 3, 3) := by decide +kernel
theorem dX2_init_4 : decode cX2_init 4 = .ok (.aload_n 0, 1) := by decide +kernel
theorem dX2_init_5 : decode cX2_init 5 = .ok (.bipush 8, 2) := by decide +kernel
theorem dX2_init_7 : decode cX2_init 7 = .ok (.newarray .int, 2) := by decide +kernel
theorem dX2_init_9 : decode cX2_init 9 = .ok (.putfield 9, 3) := by decide +kernel
theorem dX2_init_12 : decode cX2_init 12 = .ok (.aload_n 0, 1) := by decide +kernel
theorem dX2_init_13 : decode cX2_init 13 = .ok (.bipush 8, 2) := by decide +kernel
theorem dX2_init_15 : decode cX2_init 15 = .ok (.newarray .int, 2) := by decide +kernel
theorem dX2_init_17 : decode cX2_init 17 = .ok (.putfield 15, 3) := by decide +kernel
theorem dX2_init_20 : decode cX2_init 20 = .ok (.aload_n 0, 1) := by decide +kernel
theorem dX2_init_21 : decode cX2_init 21 = .ok (.bipush 8, 2) := by decide +kernel
theorem dX2_init_23 : decode cX2_init 23 = .ok (.newarray .int, 2) := by decide +kernel
theorem dX2_init_25 : decode cX2_init 25 = .ok (.putfield 18, 3) := by decide +kernel
theorem dX2_init_28 : decode cX2_init 28 = .ok (.aload_n 0, 1) := by decide +kernel
theorem dX2_init_29 : decode cX2_init 29 = .ok (.bipush 8, 2) := by decide +kernel
theorem dX2_init_31 : decode cX2_init 31 = .ok (.newarray .int, 2) := by decide +kernel
theorem dX2_init_33 : decode cX2_init 33 = .ok (.putfield 21, 3) := by decide +kernel
theorem dX2_init_36 : decode cX2_init 36 = .ok (.return_, 1) := by decide +kernel
theorem dX2_copyFrom_0 : decode cX2_copyFrom 0 = .ok (.aload_n 1, 1) := by decide +kernel
theorem dX2_copyFrom_1 : decode cX2_copyFrom 1 = .ok (.getfield 9, 3) := by decide +kernel
theorem dX2_copyFrom_4 : decode cX2_copyFrom 4 = .ok (.aload_n 0, 1) := by decide +kernel
theorem dX2_copyFrom_5 : decode cX2_copyFrom 5 = .ok (.getfield 9, 3) := by decide +kernel
theorem dX2_copyFrom_8 : decode cX2_copyFrom 8 = .ok (.invokestatic 24, 3) := by decide +kernel
theorem dX2_copyFrom_11 : decode cX2_copyFrom 11 = .ok (.aload_n 1, 1) := by decide +kernel
theorem dX2_copyFrom_12 : decode cX2_copyFrom 12 = .ok (.getfield 15, 3) := by decide +kernel
theorem dX2_copyFrom_15 : decode cX2_copyFrom 15 = .ok (.aload_n 0, 1) := by decide +kernel
theorem dX2_copyFrom_16 : decode cX2_copyFrom 16 = .ok (.getfield 15, 3) := by decide +kernel
theorem dX2_copyFrom_19 : decode cX2_copyFrom 19 = .ok (.invokestatic 24, 3) := by decide +kernel
theorem dX2_copyFrom_22 : decode cX2_copyFrom 22 = .ok (.aload_n 1, 1) := by decide +kernel
theorem dX2_copyFrom_23 : decode cX2_copyFrom 23 = .ok (.getfield 18, 3) := by decide +kernel
theorem dX2_copyFrom_26 : decode cX2_copyFrom 26 = .ok (.aload_n 0, 1) := by decide +kernel
theorem dX2_copyFrom_27 : decode cX2_copyFrom 27 = .ok (.getfield 18, 3) := by decide +kernel
theorem dX2_copyFrom_30 : decode cX2_copyFrom 30 = .ok (.invokestatic 24, 3) := by decide +kernel
theorem dX2_copyFrom_33 : decode cX2_copyFrom 33 = .ok (.aload_n 1, 1) := by decide +kernel
theorem dX2_copyFrom_34 : decode cX2_copyFrom 34 = .ok (.getfield 21, 3) := by decide +kernel
theorem dX2_copyFrom_37 : decode cX2_copyFrom 37 = .ok (.aload_n 0, 1) := by decide +kernel
theorem dX2_copyFrom_38 : decode cX2_copyFrom 38 = .ok (.getfield 21, 3) := by decide +kernel
theorem dX2_copyFrom_41 : decode cX2_copyFrom 41 = .ok (.invokestatic 24, 3) := by decide +kernel
theorem dX2_copyFrom_44 : decode cX2_copyFrom 44 = .ok (.aload_n 0, 1) := by decide +kernel
theorem dX2_copyFrom_45 : decode cX2_copyFrom 45 = .ok (.aload_n 1, 1) := by decide +kernel
theorem dX2_copyFrom_46 : decode cX2_copyFrom 46 = .ok (.getfield 28, 3) := by decide +kernel
theorem dX2_copyFrom_49 : decode cX2_copyFrom 49 = .ok (.putfield 28, 3) := by decide +kernel
theorem dX2_copyFrom_52 : decode cX2_copyFrom 52 = .ok (.return_, 1) := by decide +kernel
theorem dX2_size_0 : decode cX2_size 0 = .ok (.aload_n 0, 1) := by decide +kernel
theorem dX2_size_1 : decode cX2_size 1 = .ok (.getfield 28, 3) := by decide +kernel
theorem dX2_size_4 : decode cX2_size 4 = .ok (.ireturn, 1) := by decide +kernel
theorem dX2_key_0 : decode cX2_key 0 = .ok (.iload_n 1, 1) := by decide +kernel
theorem dX2_key_1 : decode cX2_key 1 = .ok (.ifCond .lt 18, 3) := by decide +kernel
theorem dX2_key_4 : decode cX2_key 4 = .ok (.iload_n 1, 1) := by decide +kernel
theorem dX2_key_5 : decode cX2_key 5 = .ok (.bipush 8, 2) := by decide +kernel
theorem dX2_key_7 : decode cX2_key 7 = .ok (.if_icmp .ge 12, 3) := by decide +kernel
theorem dX2_key_10 : decode cX2_key 10 = .ok (.aload_n 0, 1) := by decide +kernel
theorem dX2_key_11 : decode cX2_key 11 = .ok (.getfield 9, 3) := by decide +kernel
theorem dX2_key_14 : decode cX2_key 14 = .ok (.iload_n 1, 1) := by decide +kernel
theorem dX2_key_15 : decode cX2_key 15 = .ok (.iaload, 1) := by decide +kernel
theorem dX2_key_16 : decode cX2_key 16 = .ok (.goto 4, 3) := by decide +kernel
theorem dX2_key_19 : decode cX2_key 19 = .ok (.iconst 0, 1) := by decide +kernel
theorem dX2_key_20 : decode cX2_key 20 = .ok (.ireturn, 1) := by decide +kernel
theorem dX2_value_0 : decode cX2_value 0 = .ok (.iload_n 1, 1) := by decide +kernel
theorem dX2_value_1 : decode cX2_value 1 = .ok (.ifCond .lt 18, 3) := by decide +kernel
theorem dX2_value_4 : decode cX2_value 4 = .ok (.iload_n 1, 1) := by decide +kernel
theorem dX2_value_5 : decode cX2_value 5 = .ok (.bipush 8, 2) := by decide +kernel
theorem dX2_value_7 : decode cX2_value 7 = .ok (.if_icmp .ge 12, 3) := by decide +kernel
theorem dX2_value_10 : decode cX2_value 10 = .ok (.aload_n 0, 1) := by decide +kernel
theorem dX2_value_11 : decode cX2_value 11 = .ok (.getfield 15, 3) := by decide +kernel
theorem dX2_value_14 : decode cX2_value 14 = .ok (.iload_n 1, 1) := by decide +kernel
theorem dX2_value_15 : decode cX2_value 15 = .ok (.iaload, 1) := by decide +kernel
theorem dX2_value_16 : decode cX2_value 16 = .ok (.goto 4, 3) := by decide +kernel
theorem dX2_value_19 : decode cX2_value 19 = .ok (.iconst 0, 1) := by decide +kernel
theorem dX2_value_20 : decode cX2_value 20 = .ok (.ireturn, 1) := by decide +kernel
theorem dX2_urgency_0 : decode cX2_urgency 0 = .ok (.iload_n 1, 1) := by decide +kernel
theorem dX2_urgency_1 : decode cX2_urgency 1 = .ok (.ifCond .lt 18, 3) := by decide +kernel
theorem dX2_urgency_4 : decode cX2_urgency 4 = .ok (.iload_n 1, 1) := by decide +kernel
theorem dX2_urgency_5 : decode cX2_urgency 5 = .ok (.bipush 8, 2) := by decide +kernel
theorem dX2_urgency_7 : decode cX2_urgency 7 = .ok (.if_icmp .ge 12, 3) := by decide +kernel
theorem dX2_urgency_10 : decode cX2_urgency 10 = .ok (.aload_n 0, 1) := by decide +kernel
theorem dX2_urgency_11 : decode cX2_urgency 11 = .ok (.getfield 18, 3) := by decide +kernel
theorem dX2_urgency_14 : decode cX2_urgency 14 = .ok (.iload_n 1, 1) := by decide +kernel
theorem dX2_urgency_15 : decode cX2_urgency 15 = .ok (.iaload, 1) := by decide +kernel
theorem dX2_urgency_16 : decode cX2_urgency 16 = .ok (.goto 4, 3) := by decide +kernel
theorem dX2_urgency_19 : decode cX2_urgency 19 = .ok (.iconst 0, 1) := by decide +kernel
theorem dX2_urgency_20 : decode cX2_urgency 20 = .ok (.ireturn, 1) := by decide +kernel
theorem dX2_stamp_0 : decode cX2_stamp 0 = .ok (.iload_n 1, 1) := by decide +kernel
theorem dX2_stamp_1 : decode cX2_stamp 1 = .ok (.ifCond .lt 18, 3) := by decide +kernel
theorem dX2_stamp_4 : decode cX2_stamp 4 = .ok (.iload_n 1, 1) := by decide +kernel
theorem dX2_stamp_5 : decode cX2_stamp 5 = .ok (.bipush 8, 2) := by decide +kernel
theorem dX2_stamp_7 : decode cX2_stamp 7 = .ok (.if_icmp .ge 12, 3) := by decide +kernel
theorem dX2_stamp_10 : decode cX2_stamp 10 = .ok (.aload_n 0, 1) := by decide +kernel
theorem dX2_stamp_11 : decode cX2_stamp 11 = .ok (.getfield 21, 3) := by decide +kernel
theorem dX2_stamp_14 : decode cX2_stamp 14 = .ok (.iload_n 1, 1) := by decide +kernel
theorem dX2_stamp_15 : decode cX2_stamp 15 = .ok (.iaload, 1) := by decide +kernel
theorem dX2_stamp_16 : decode cX2_stamp 16 = .ok (.goto 4, 3) := by decide +kernel
theorem dX2_stamp_19 : decode cX2_stamp 19 = .ok (.iconst 0, 1) := by decide +kernel
theorem dX2_stamp_20 : decode cX2_stamp 20 = .ok (.ireturn, 1) := by decide +kernel
theorem dX2_add_0 : decode cX2_add 0 = .ok (.aload_n 0, 1) := by decide +kernel
theorem dX2_add_1 : decode cX2_add 1 = .ok (.getfield 28, 3) := by decide +kernel
theorem dX2_add_4 : decode cX2_add 4 = .ok (.bipush 8, 2) := by decide +kernel
theorem dX2_add_6 : decode cX2_add 6 = .ok (.if_icmp .lt 4, 3) := by decide +kernel
theorem dX2_add_9 : decode cX2_add 9 = .ok (.return_, 1) := by decide +kernel
theorem dX2_add_10 : decode cX2_add 10 = .ok (.aload_n 0, 1) := by decide +kernel
theorem dX2_add_11 : decode cX2_add 11 = .ok (.getfield 28, 3) := by decide +kernel
theorem dX2_add_14 : decode cX2_add 14 = .ok (.istore 5, 2) := by decide +kernel
theorem dX2_add_16 : decode cX2_add 16 = .ok (.iload 5, 2) := by decide +kernel
theorem dX2_add_18 : decode cX2_add 18 = .ok (.ifCond .le 21, 3) := by decide +kernel
theorem dX2_add_21 : decode cX2_add 21 = .ok (.aload_n 0, 1) := by decide +kernel
theorem dX2_add_22 : decode cX2_add 22 = .ok (.iload 5, 2) := by decide +kernel
theorem dX2_add_24 : decode cX2_add 24 = .ok (.iconst 1, 1) := by decide +kernel
theorem dX2_add_25 : decode cX2_add 25 = .ok (.isub, 1) := by decide +kernel
theorem dX2_add_26 : decode cX2_add 26 = .ok (.invokevirtual 32, 3) := by decide +kernel
theorem dX2_add_29 : decode cX2_add 29 = .ok (.iload_n 3, 1) := by decide +kernel
theorem dX2_add_30 : decode cX2_add 30 = .ok (.if_icmp .le 9, 3) := by decide +kernel
theorem dX2_add_33 : decode cX2_add 33 = .ok (.iinc 5 (-1), 3) := by decide +kernel
theorem dX2_add_36 : decode cX2_add 36 = .ok (.goto (-20), 3) := by decide +kernel
theorem dX2_add_39 : decode cX2_add 39 = .ok (.aload_n 0, 1) := by decide +kernel
theorem dX2_add_40 : decode cX2_add 40 = .ok (.getfield 28, 3) := by decide +kernel
theorem dX2_add_43 : decode cX2_add 43 = .ok (.istore 6, 2) := by decide +kernel
theorem dX2_add_45 : decode cX2_add 45 = .ok (.iload 6, 2) := by decide +kernel
theorem dX2_add_47 : decode cX2_add 47 = .ok (.iload 5, 2) := by decide +kernel
theorem dX2_add_49 : decode cX2_add 49 = .ok (.if_icmp .le 19, 3) := by decide +kernel
theorem dX2_add_52 : decode cX2_add 52 = .ok (.aload_n 0, 1) := by decide +kernel
theorem dX2_add_53 : decode cX2_add 53 = .ok (.iload 6, 2) := by decide +kernel
theorem dX2_add_55 : decode cX2_add 55 = .ok (.iconst 1, 1) := by decide +kernel
theorem dX2_add_56 : decode cX2_add 56 = .ok (.isub, 1) := by decide +kernel
theorem dX2_add_57 : decode cX2_add 57 = .ok (.iload 6, 2) := by decide +kernel
theorem dX2_add_59 : decode cX2_add 59 = .ok (.invokevirtual 36, 3) := by decide +kernel
theorem dX2_add_62 : decode cX2_add 62 = .ok (.iinc 6 (-1), 3) := by decide +kernel
theorem dX2_add_65 : decode cX2_add 65 = .ok (.goto (-20), 3) := by decide +kernel
theorem dX2_add_68 : decode cX2_add 68 = .ok (.aload_n 0, 1) := by decide +kernel
theorem dX2_add_69 : decode cX2_add 69 = .ok (.dup, 1) := by decide +kernel
theorem dX2_add_70 : decode cX2_add 70 = .ok (.getfield 28, 3) := by decide +kernel
theorem dX2_add_73 : decode cX2_add 73 = .ok (.iconst 1, 1) := by decide +kernel
theorem dX2_add_74 : decode cX2_add 74 = .ok (.iadd, 1) := by decide +kernel
theorem dX2_add_75 : decode cX2_add 75 = .ok (.putfield 28, 3) := by decide +kernel
theorem dX2_add_78 : decode cX2_add 78 = .ok (.aload_n 0, 1) := by decide +kernel
theorem dX2_add_79 : decode cX2_add 79 = .ok (.iload 5, 2) := by decide +kernel
theorem dX2_add_81 : decode cX2_add 81 = .ok (.iload_n 1, 1) := by decide +kernel
theorem dX2_add_82 : decode cX2_add 82 = .ok (.iload_n 2, 1) := by decide +kernel
theorem dX2_add_83 : decode cX2_add 83 = .ok (.iload_n 3, 1) := by decide +kernel
theorem dX2_add_84 : decode cX2_add 84 = .ok (.iload 4, 2) := by decide +kernel
theorem dX2_add_86 : decode cX2_add 86 = .ok (.invokevirtual 40, 3) := by decide +kernel
theorem dX2_add_89 : decode cX2_add 89 = .ok (.return_, 1) := by decide +kernel
theorem dX2_dropFirst_0 : decode cX2_dropFirst 0 = .ok (.iconst 0, 1) := by decide +kernel
theorem dX2_dropFirst_1 : decode cX2_dropFirst 1 = .ok (.istore_n 1, 1) := by decide +kernel
theorem dX2_dropFirst_2 : decode cX2_dropFirst 2 = .ok (.iload_n 1, 1) := by decide +kernel
theorem dX2_dropFirst_3 : decode cX2_dropFirst 3 = .ok (.iconst 1, 1) := by decide +kernel
theorem dX2_dropFirst_4 : decode cX2_dropFirst 4 = .ok (.iadd, 1) := by decide +kernel
theorem dX2_dropFirst_5 : decode cX2_dropFirst 5 = .ok (.aload_n 0, 1) := by decide +kernel
theorem dX2_dropFirst_6 : decode cX2_dropFirst 6 = .ok (.getfield 28, 3) := by decide +kernel
theorem dX2_dropFirst_9 : decode cX2_dropFirst 9 = .ok (.if_icmp .ge 17, 3) := by decide +kernel
theorem dX2_dropFirst_12 : decode cX2_dropFirst 12 = .ok (.aload_n 0, 1) := by decide +kernel
theorem dX2_dropFirst_13 : decode cX2_dropFirst 13 = .ok (.iload_n 1, 1) := by decide +kernel
theorem dX2_dropFirst_14 : decode cX2_dropFirst 14 = .ok (.iconst 1, 1) := by decide +kernel
theorem dX2_dropFirst_15 : decode cX2_dropFirst 15 = .ok (.iadd, 1) := by decide +kernel
theorem dX2_dropFirst_16 : decode cX2_dropFirst 16 = .ok (.iload_n 1, 1) := by decide +kernel
theorem dX2_dropFirst_17 : decode cX2_dropFirst 17 = .ok (.invokevirtual 36, 3) := by decide +kernel
theorem dX2_dropFirst_20 : decode cX2_dropFirst 20 = .ok (.iinc 1 1, 3) := by decide +kernel
theorem dX2_dropFirst_23 : decode cX2_dropFirst 23 = .ok (.goto (-21), 3) := by decide +kernel
theorem dX2_dropFirst_26 : decode cX2_dropFirst 26 = .ok (.aload_n 0, 1) := by decide +kernel
theorem dX2_dropFirst_27 : decode cX2_dropFirst 27 = .ok (.iconst 0, 1) := by decide +kernel
theorem dX2_dropFirst_28 : decode cX2_dropFirst 28 = .ok (.aload_n 0, 1) := by decide +kernel
theorem dX2_dropFirst_29 : decode cX2_dropFirst 29 = .ok (.getfield 28, 3) := by decide +kernel
theorem dX2_dropFirst_32 : decode cX2_dropFirst 32 = .ok (.iconst 1, 1) := by decide +kernel
theorem dX2_dropFirst_33 : decode cX2_dropFirst 33 = .ok (.isub, 1) := by decide +kernel
theorem dX2_dropFirst_34 : decode cX2_dropFirst 34 = .ok (.invokestatic 44, 3) := by decide +kernel
theorem dX2_dropFirst_37 : decode cX2_dropFirst 37 = .ok (.putfield 28, 3) := by decide +kernel
theorem dX2_dropFirst_40 : decode cX2_dropFirst 40 = .ok (.return_, 1) := by decide +kernel
theorem dX2_makeEmpty_0 : decode cX2_makeEmpty 0 = .ok (.aload_n 0, 1) := by decide +kernel
theorem dX2_makeEmpty_1 : decode cX2_makeEmpty 1 = .ok (.iconst 0, 1) := by decide +kernel
theorem dX2_makeEmpty_2 : decode cX2_makeEmpty 2 = .ok (.putfield 28, 3) := by decide +kernel
theorem dX2_makeEmpty_5 : decode cX2_makeEmpty 5 = .ok (.return_, 1) := by decide +kernel
theorem dX2_move_0 : decode cX2_move 0 = .ok (.iload_n 1, 1) := by decide +kernel
theorem dX2_move_1 : decode cX2_move 1 = .ok (.ifCond .lt 67, 3) := by decide +kernel
theorem dX2_move_4 : decode cX2_move 4 = .ok (.iload_n 1, 1) := by decide +kernel
theorem dX2_move_5 : decode cX2_move 5 = .ok (.bipush 8, 2) := by decide +kernel
theorem dX2_move_7 : decode cX2_move 7 = .ok (.if_icmp .ge 61, 3) := by decide +kernel
theorem dX2_move_10 : decode cX2_move 10 = .ok (.iload_n 2, 1) := by decide +kernel
theorem dX2_move_11 : decode cX2_move 11 = .ok (.ifCond .lt 57, 3) := by decide +kernel
theorem dX2_move_14 : decode cX2_move 14 = .ok (.iload_n 2, 1) := by decide +kernel
theorem dX2_move_15 : decode cX2_move 15 = .ok (.bipush 8, 2) := by decide +kernel
theorem dX2_move_17 : decode cX2_move 17 = .ok (.if_icmp .ge 51, 3) := by decide +kernel
theorem dX2_move_20 : decode cX2_move 20 = .ok (.aload_n 0, 1) := by decide +kernel
theorem dX2_move_21 : decode cX2_move 21 = .ok (.getfield 9, 3) := by decide +kernel
theorem dX2_move_24 : decode cX2_move 24 = .ok (.iload_n 2, 1) := by decide +kernel
theorem dX2_move_25 : decode cX2_move 25 = .ok (.aload_n 0, 1) := by decide +kernel
theorem dX2_move_26 : decode cX2_move 26 = .ok (.getfield 9, 3) := by decide +kernel
theorem dX2_move_29 : decode cX2_move 29 = .ok (.iload_n 1, 1) := by decide +kernel
theorem dX2_move_30 : decode cX2_move 30 = .ok (.iaload, 1) := by decide +kernel
theorem dX2_move_31 : decode cX2_move 31 = .ok (.iastore, 1) := by decide +kernel
theorem dX2_move_32 : decode cX2_move 32 = .ok (.aload_n 0, 1) := by decide +kernel
theorem dX2_move_33 : decode cX2_move 33 = .ok (.getfield 15, 3) := by decide +kernel
theorem dX2_move_36 : decode cX2_move 36 = .ok (.iload_n 2, 1) := by decide +kernel
theorem dX2_move_37 : decode cX2_move 37 = .ok (.aload_n 0, 1) := by decide +kernel
theorem dX2_move_38 : decode cX2_move 38 = .ok (.getfield 15, 3) := by decide +kernel
theorem dX2_move_41 : decode cX2_move 41 = .ok (.iload_n 1, 1) := by decide +kernel
theorem dX2_move_42 : decode cX2_move 42 = .ok (.iaload, 1) := by decide +kernel
theorem dX2_move_43 : decode cX2_move 43 = .ok (.iastore, 1) := by decide +kernel
theorem dX2_move_44 : decode cX2_move 44 = .ok (.aload_n 0, 1) := by decide +kernel
theorem dX2_move_45 : decode cX2_move 45 = .ok (.getfield 18, 3) := by decide +kernel
theorem dX2_move_48 : decode cX2_move 48 = .ok (.iload_n 2, 1) := by decide +kernel
theorem dX2_move_49 : decode cX2_move 49 = .ok (.aload_n 0, 1) := by decide +kernel
theorem dX2_move_50 : decode cX2_move 50 = .ok (.getfield 18, 3) := by decide +kernel
theorem dX2_move_53 : decode cX2_move 53 = .ok (.iload_n 1, 1) := by decide +kernel
theorem dX2_move_54 : decode cX2_move 54 = .ok (.iaload, 1) := by decide +kernel
theorem dX2_move_55 : decode cX2_move 55 = .ok (.iastore, 1) := by decide +kernel
theorem dX2_move_56 : decode cX2_move 56 = .ok (.aload_n 0, 1) := by decide +kernel
theorem dX2_move_57 : decode cX2_move 57 = .ok (.getfield 21, 3) := by decide +kernel
theorem dX2_move_60 : decode cX2_move 60 = .ok (.iload_n 2, 1) := by decide +kernel
theorem dX2_move_61 : decode cX2_move 61 = .ok (.aload_n 0, 1) := by decide +kernel
theorem dX2_move_62 : decode cX2_move 62 = .ok (.getfield 21, 3) := by decide +kernel
theorem dX2_move_65 : decode cX2_move 65 = .ok (.iload_n 1, 1) := by decide +kernel
theorem dX2_move_66 : decode cX2_move 66 = .ok (.iaload, 1) := by decide +kernel
theorem dX2_move_67 : decode cX2_move 67 = .ok (.iastore, 1) := by decide +kernel
theorem dX2_move_68 : decode cX2_move 68 = .ok (.return_, 1) := by decide +kernel
theorem dX2_put_0 : decode cX2_put 0 = .ok (.iload_n 1, 1) := by decide +kernel
theorem dX2_put_1 : decode cX2_put 1 = .ok (.ifCond .lt 39, 3) := by decide +kernel
theorem dX2_put_4 : decode cX2_put 4 = .ok (.iload_n 1, 1) := by decide +kernel
theorem dX2_put_5 : decode cX2_put 5 = .ok (.bipush 8, 2) := by decide +kernel
theorem dX2_put_7 : decode cX2_put 7 = .ok (.if_icmp .ge 33, 3) := by decide +kernel
theorem dX2_put_10 : decode cX2_put 10 = .ok (.aload_n 0, 1) := by decide +kernel
theorem dX2_put_11 : decode cX2_put 11 = .ok (.getfield 9, 3) := by decide +kernel
theorem dX2_put_14 : decode cX2_put 14 = .ok (.iload_n 1, 1) := by decide +kernel
theorem dX2_put_15 : decode cX2_put 15 = .ok (.iload_n 2, 1) := by decide +kernel
theorem dX2_put_16 : decode cX2_put 16 = .ok (.iastore, 1) := by decide +kernel
theorem dX2_put_17 : decode cX2_put 17 = .ok (.aload_n 0, 1) := by decide +kernel
theorem dX2_put_18 : decode cX2_put 18 = .ok (.getfield 15, 3) := by decide +kernel
theorem dX2_put_21 : decode cX2_put 21 = .ok (.iload_n 1, 1) := by decide +kernel
theorem dX2_put_22 : decode cX2_put 22 = .ok (.iload_n 3, 1) := by decide +kernel
theorem dX2_put_23 : decode cX2_put 23 = .ok (.iastore, 1) := by decide +kernel
theorem dX2_put_24 : decode cX2_put 24 = .ok (.aload_n 0, 1) := by decide +kernel
theorem dX2_put_25 : decode cX2_put 25 = .ok (.getfield 18, 3) := by decide +kernel
theorem dX2_put_28 : decode cX2_put 28 = .ok (.iload_n 1, 1) := by decide +kernel
theorem dX2_put_29 : decode cX2_put 29 = .ok (.iload 4, 2) := by decide +kernel
theorem dX2_put_31 : decode cX2_put 31 = .ok (.iastore, 1) := by decide +kernel
theorem dX2_put_32 : decode cX2_put 32 = .ok (.aload_n 0, 1) := by decide +kernel
theorem dX2_put_33 : decode cX2_put 33 = .ok (.getfield 21, 3) := by decide +kernel
theorem dX2_put_36 : decode cX2_put 36 = .ok (.iload_n 1, 1) := by decide +kernel
theorem dX2_put_37 : decode cX2_put 37 = .ok (.iload 5, 2) := by decide +kernel
theorem dX2_put_39 : decode cX2_put 39 = .ok (.iastore, 1) := by decide +kernel
theorem dX2_put_40 : decode cX2_put 40 = .ok (.return_, 1) := by decide +kernel
theorem dX3_init_0 : decode cX3_init 0 = .ok (.aload_n 0, 1) := by decide +kernel
theorem dX3_init_1 : decode cX3_init 1 = .ok (.invokespecial 3, 3) := by decide +kernel
theorem dX3_init_4 : decode cX3_init 4 = .ok (.return_, 1) := by decide +kernel
theorem dX3_run_0 : decode cX3_run 0 = .ok (.aload_n 0, 1) := by decide +kernel
theorem dX3_run_1 : decode cX3_run 1 = .ok (.iconst 0, 1) := by decide +kernel
theorem dX3_run_2 : decode cX3_run 2 = .ok (.putfield 9, 3) := by decide +kernel
theorem dX3_run_5 : decode cX3_run 5 = .ok (.aload_n 0, 1) := by decide +kernel
theorem dX3_run_6 : decode cX3_run 6 = .ok (.iconst 0, 1) := by decide +kernel
theorem dX3_run_7 : decode cX3_run 7 = .ok (.putfield 15, 3) := by decide +kernel
theorem dX3_run_10 : decode cX3_run 10 = .ok (.aload_n 1, 1) := by decide +kernel
theorem dX3_run_11 : decode cX3_run 11 = .ok (.invokevirtual 19, 3) := by decide +kernel
theorem dX3_run_14 : decode cX3_run 14 = .ok (.iconst 0, 1) := by decide +kernel
theorem dX3_run_15 : decode cX3_run 15 = .ok (.istore_n 3, 1) := by decide +kernel
theorem dX3_run_16 : decode cX3_run 16 = .ok (.iload_n 3, 1) := by decide +kernel
theorem dX3_run_17 : decode cX3_run 17 = .ok (.bipush 60, 2) := by decide +kernel
theorem dX3_run_19 : decode cX3_run 19 = .ok (.if_icmp .ge 69, 3) := by decide +kernel
theorem dX3_run_22 : decode cX3_run 22 = .ok (.aload_n 1, 1) := by decide +kernel
theorem dX3_run_23 : decode cX3_run 23 = .ok (.invokevirtual 24, 3) := by decide +kernel
theorem dX3_run_26 : decode cX3_run 26 = .ok (.ifCond .eq 62, 3) := by decide +kernel
theorem dX3_run_29 : decode cX3_run 29 = .ok (.aload_n 0, 1) := by decide +kernel
theorem dX3_run_30 : decode cX3_run 30 = .ok (.aload_n 1, 1) := by decide +kernel
theorem dX3_run_31 : decode cX3_run 31 = .ok (.getfield 28, 3) := by decide +kernel
theorem dX3_run_34 : decode cX3_run 34 = .ok (.putfield 31, 3) := by decide +kernel
theorem dX3_run_37 : decode cX3_run 37 = .ok (.aload_n 1, 1) := by decide +kernel
theorem dX3_run_38 : decode cX3_run 38 = .ok (.invokevirtual 34, 3) := by decide +kernel
theorem dX3_run_41 : decode cX3_run 41 = .ok (.ifCond .ne 11, 3) := by decide +kernel
theorem dX3_run_44 : decode cX3_run 44 = .ok (.aload_n 0, 1) := by decide +kernel
theorem dX3_run_45 : decode cX3_run 45 = .ok (.iconst 1, 1) := by decide +kernel
theorem dX3_run_46 : decode cX3_run 46 = .ok (.bipush (-4), 2) := by decide +kernel
theorem dX3_run_48 : decode cX3_run 48 = .ok (.invokevirtual 37, 3) := by decide +kernel
theorem dX3_run_51 : decode cX3_run 51 = .ok (.return_, 1) := by decide +kernel
theorem dX3_run_52 : decode cX3_run 52 = .ok (.aload_n 1, 1) := by decide +kernel
theorem dX3_run_53 : decode cX3_run 53 = .ok (.aload_n 2, 1) := by decide +kernel
theorem dX3_run_54 : decode cX3_run 54 = .ok (.invokestatic 41, 3) := by decide +kernel
theorem dX3_run_57 : decode cX3_run 57 = .ok (.istore 4, 2) := by decide +kernel
theorem dX3_run_59 : decode cX3_run 59 = .ok (.iload 4, 2) := by decide +kernel
theorem dX3_run_61 : decode cX3_run 61 = .ok (.ifCond .ge 11, 3) := by decide +kernel
theorem dX3_run_64 : decode cX3_run 64 = .ok (.aload_n 0, 1) := by decide +kernel
theorem dX3_run_65 : decode cX3_run 65 = .ok (.iconst 2, 1) := by decide +kernel
theorem dX3_run_66 : decode cX3_run 66 = .ok (.iload 4, 2) := by decide +kernel
theorem dX3_run_68 : decode cX3_run 68 = .ok (.invokevirtual 37, 3) := by decide +kernel
theorem dX3_run_71 : decode cX3_run 71 = .ok (.return_, 1) := by decide +kernel
theorem dX3_run_72 : decode cX3_run 72 = .ok (.aload_n 0, 1) := by decide +kernel
theorem dX3_run_73 : decode cX3_run 73 = .ok (.dup, 1) := by decide +kernel
theorem dX3_run_74 : decode cX3_run 74 = .ok (.getfield 9, 3) := by decide +kernel
theorem dX3_run_77 : decode cX3_run 77 = .ok (.iconst 1, 1) := by decide +kernel
theorem dX3_run_78 : decode cX3_run 78 = .ok (.iadd, 1) := by decide +kernel
theorem dX3_run_79 : decode cX3_run 79 = .ok (.putfield 9, 3) := by decide +kernel
theorem dX3_run_82 : decode cX3_run 82 = .ok (.iinc 3 1, 3) := by decide +kernel
theorem dX3_run_85 : decode cX3_run 85 = .ok (.goto (-69), 3) := by decide +kernel
theorem dX3_run_88 : decode cX3_run 88 = .ok (.return_, 1) := by decide +kernel
theorem dX3_hasFault_0 : decode cX3_hasFault 0 = .ok (.aload_n 0, 1) := by decide +kernel
theorem dX3_hasFault_1 : decode cX3_hasFault 1 = .ok (.getfield 15, 3) := by decide +kernel
theorem dX3_hasFault_4 : decode cX3_hasFault 4 = .ok (.ireturn, 1) := by decide +kernel
theorem dX3_commandsDone_0 : decode cX3_commandsDone 0 = .ok (.aload_n 0, 1) := by decide +kernel
theorem dX3_commandsDone_1 : decode cX3_commandsDone 1 = .ok (.getfield 9, 3) := by decide +kernel
theorem dX3_commandsDone_4 : decode cX3_commandsDone 4 = .ok (.ireturn, 1) := by decide +kernel
theorem dX3_faultFact_0 : decode cX3_faultFact 0 = .ok (.aload_n 0, 1) := by decide +kernel
theorem dX3_faultFact_1 : decode cX3_faultFact 1 = .ok (.getfield 15, 3) := by decide +kernel
theorem dX3_faultFact_4 : decode cX3_faultFact 4 = .ok (.ifCond .ne 6, 3) := by decide +kernel
theorem dX3_faultFact_7 : decode cX3_faultFact 7 = .ok (.bipush (-4), 2) := by decide +kernel
theorem dX3_faultFact_9 : decode cX3_faultFact 9 = .ok (.ireturn, 1) := by decide +kernel
theorem dX3_faultFact_10 : decode cX3_faultFact 10 = .ok (.iload_n 1, 1) := by decide +kernel
theorem dX3_faultFact_11 : decode cX3_faultFact 11 = .ok (.ifCond .ne 8, 3) := by decide +kernel
theorem dX3_faultFact_14 : decode cX3_faultFact 14 = .ok (.aload_n 0, 1) := by decide +kernel
theorem dX3_faultFact_15 : decode cX3_faultFact 15 = .ok (.getfield 31, 3) := by decide +kernel
theorem dX3_faultFact_18 : decode cX3_faultFact 18 = .ok (.ireturn, 1) := by decide +kernel
theorem dX3_faultFact_19 : decode cX3_faultFact 19 = .ok (.iload_n 1, 1) := by decide +kernel
theorem dX3_faultFact_20 : decode cX3_faultFact 20 = .ok (.iconst 1, 1) := by decide +kernel
theorem dX3_faultFact_21 : decode cX3_faultFact 21 = .ok (.if_icmp .ne 10, 3) := by decide +kernel
theorem dX3_faultFact_24 : decode cX3_faultFact 24 = .ok (.aload_n 0, 1) := by decide +kernel
theorem dX3_faultFact_25 : decode cX3_faultFact 25 = .ok (.getfield 45, 3) := by decide +kernel
theorem dX3_faultFact_28 : decode cX3_faultFact 28 = .ok (.goto 7, 3) := by decide +kernel
theorem dX3_faultFact_31 : decode cX3_faultFact 31 = .ok (.aload_n 0, 1) := by decide +kernel
theorem dX3_faultFact_32 : decode cX3_faultFact 32 = .ok (.getfield 48, 3) := by decide +kernel
theorem dX3_faultFact_35 : decode cX3_faultFact 35 = .ok (.ireturn, 1) := by decide +kernel
theorem dX3_tellFault_0 : decode cX3_tellFault 0 = .ok (.aload_n 0, 1) := by decide +kernel
theorem dX3_tellFault_1 : decode cX3_tellFault 1 = .ok (.iconst 1, 1) := by decide +kernel
theorem dX3_tellFault_2 : decode cX3_tellFault 2 = .ok (.putfield 15, 3) := by decide +kernel
theorem dX3_tellFault_5 : decode cX3_tellFault 5 = .ok (.aload_n 0, 1) := by decide +kernel
theorem dX3_tellFault_6 : decode cX3_tellFault 6 = .ok (.iload_n 1, 1) := by decide +kernel
theorem dX3_tellFault_7 : decode cX3_tellFault 7 = .ok (.putfield 45, 3) := by decide +kernel
theorem dX3_tellFault_10 : decode cX3_tellFault 10 = .ok (.aload_n 0, 1) := by decide +kernel
theorem dX3_tellFault_11 : decode cX3_tellFault 11 = .ok (.iload_n 2, 1) := by decide +kernel
theorem dX3_tellFault_12 : decode cX3_tellFault 12 = .ok (.putfield 48, 3) := by decide +kernel
theorem dX3_tellFault_15 : decode cX3_tellFault 15 = .ok (.return_, 1) := by decide +kernel
theorem dX3_perform_0 : decode cX3_perform 0 = .ok (.aload_n 0, 1) := by decide +kernel
theorem dX3_perform_1 : decode cX3_perform 1 = .ok (.getfield 51, 3) := by decide +kernel
theorem dX3_perform_4 : decode cX3_perform 4 = .ok (.tableswitch 174 99 120 #[156, 174, 165, 174, 174, 174, 174, 174, 174, 174, 174, 174, 146, 174, 174, 174, 151, 132, 118, 174, 104, 141], 104) := by decide +kernel
theorem dX3_perform_108 : decode cX3_perform 108 = .ok (.aload_n 1, 1) := by decide +kernel
theorem dX3_perform_109 : decode cX3_perform 109 = .ok (.aload_n 0, 1) := by decide +kernel
theorem dX3_perform_110 : decode cX3_perform 110 = .ok (.getfield 54, 3) := by decide +kernel
theorem dX3_perform_113 : decode cX3_perform 113 = .ok (.aload_n 0, 1) := by decide +kernel
theorem dX3_perform_114 : decode cX3_perform 114 = .ok (.getfield 57, 3) := by decide +kernel
theorem dX3_perform_117 : decode cX3_perform 117 = .ok (.iconst 2, 1) := by decide +kernel
theorem dX3_perform_118 : decode cX3_perform 118 = .ok (.invokevirtual 60, 3) := by decide +kernel
theorem dX3_perform_121 : decode cX3_perform 121 = .ok (.ireturn, 1) := by decide +kernel
theorem dX3_perform_122 : decode cX3_perform 122 = .ok (.aload_n 1, 1) := by decide +kernel
theorem dX3_perform_123 : decode cX3_perform 123 = .ok (.aload_n 0, 1) := by decide +kernel
theorem dX3_perform_124 : decode cX3_perform 124 = .ok (.getfield 54, 3) := by decide +kernel
theorem dX3_perform_127 : decode cX3_perform 127 = .ok (.aload_n 0, 1) := by decide +kernel
theorem dX3_perform_128 : decode cX3_perform 128 = .ok (.getfield 57, 3) := by decide +kernel
theorem dX3_perform_131 : decode cX3_perform 131 = .ok (.iconst 1, 1) := by decide +kernel
theorem dX3_perform_132 : decode cX3_perform 132 = .ok (.invokevirtual 60, 3) := by decide +kernel
theorem dX3_perform_135 : decode cX3_perform 135 = .ok (.ireturn, 1) := by decide +kernel
theorem dX3_perform_136 : decode cX3_perform 136 = .ok (.aload_n 1, 1) := by decide +kernel
theorem dX3_perform_137 : decode cX3_perform 137 = .ok (.aload_n 0, 1) := by decide +kernel
theorem dX3_perform_138 : decode cX3_perform 138 = .ok (.getfield 54, 3) := by decide +kernel
theorem dX3_perform_141 : decode cX3_perform 141 = .ok (.invokevirtual 66, 3) := by decide +kernel
theorem dX3_perform_144 : decode cX3_perform 144 = .ok (.ireturn, 1) := by decide +kernel
theorem dX3_perform_145 : decode cX3_perform 145 = .ok (.aload_n 1, 1) := by decide +kernel
theorem dX3_perform_146 : decode cX3_perform 146 = .ok (.invokevirtual 70, 3) := by decide +kernel
theorem dX3_perform_149 : decode cX3_perform 149 = .ok (.ireturn, 1) := by decide +kernel
theorem dX3_perform_150 : decode cX3_perform 150 = .ok (.aload_n 1, 1) := by decide +kernel
theorem dX3_perform_151 : decode cX3_perform 151 = .ok (.invokevirtual 74, 3) := by decide +kernel
theorem dX3_perform_154 : decode cX3_perform 154 = .ok (.ireturn, 1) := by decide +kernel
theorem dX3_perform_155 : decode cX3_perform 155 = .ok (.aload_n 1, 1) := by decide +kernel
theorem dX3_perform_156 : decode cX3_perform 156 = .ok (.invokevirtual 77, 3) := by decide +kernel
theorem dX3_perform_159 : decode cX3_perform 159 = .ok (.ireturn, 1) := by decide +kernel
theorem dX3_perform_160 : decode cX3_perform 160 = .ok (.aload_n 1, 1) := by decide +kernel
theorem dX3_perform_161 : decode cX3_perform 161 = .ok (.aload_n 0, 1) := by decide +kernel
theorem dX3_perform_162 : decode cX3_perform 162 = .ok (.getfield 54, 3) := by decide +kernel
theorem dX3_perform_165 : decode cX3_perform 165 = .ok (.invokevirtual 80, 3) := by decide +kernel
theorem dX3_perform_168 : decode cX3_perform 168 = .ok (.ireturn, 1) := by decide +kernel
theorem dX3_perform_169 : decode cX3_perform 169 = .ok (.aload_n 1, 1) := by decide +kernel
theorem dX3_perform_170 : decode cX3_perform 170 = .ok (.aload_n 0, 1) := by decide +kernel
theorem dX3_perform_171 : decode cX3_perform 171 = .ok (.getfield 54, 3) := by decide +kernel
theorem dX3_perform_174 : decode cX3_perform 174 = .ok (.invokevirtual 83, 3) := by decide +kernel
theorem dX3_perform_177 : decode cX3_perform 177 = .ok (.ireturn, 1) := by decide +kernel
theorem dX3_perform_178 : decode cX3_perform 178 = .ok (.bipush (-2), 2) := by decide +kernel
theorem dX3_perform_180 : decode cX3_perform 180 = .ok (.ireturn, 1) := by decide +kernel
theorem dX4_init_0 : decode cX4_init 0 = .ok (.aload_n 0, 1) := by decide +kernel
theorem dX4_init_1 : decode cX4_init 1 = .ok (.invokespecial 3, 3) := by decide +kernel
theorem dX4_init_4 : decode cX4_init 4 = .ok (.aload_n 0, 1) := by decide +kernel
theorem dX4_init_5 : decode cX4_init 5 = .ok (.new 9, 3) := by decide +kernel
theorem dX4_init_8 : decode cX4_init 8 = .ok (.dup, 1) := by decide +kernel
theorem dX4_init_9 : decode cX4_init 9 = .ok (.invokespecial 11, 3) := by decide +kernel
theorem dX4_init_12 : decode cX4_init 12 = .ok (.putfield 12, 3) := by decide +kernel
theorem dX4_init_15 : decode cX4_init 15 = .ok (.aload_n 0, 1) := by decide +kernel
theorem dX4_init_16 : decode cX4_init 16 = .ok (.new 18, 3) := by decide +kernel
theorem dX4_init_19 : decode cX4_init 19 = .ok (.dup, 1) := by decide +kernel
theorem dX4_init_20 : decode cX4_init 20 = .ok (.invokespecial 20, 3) := by decide +kernel
theorem dX4_init_23 : decode cX4_init 23 = .ok (.putfield 21, 3) := by decide +kernel
theorem dX4_init_26 : decode cX4_init 26 = .ok (.aload_n 0, 1) := by decide +kernel
theorem dX4_init_27 : decode cX4_init 27 = .ok (.new 25, 3) := by decide +kernel
theorem dX4_init_30 : decode cX4_init 30 = .ok (.dup, 1) := by decide +kernel
theorem dX4_init_31 : decode cX4_init 31 = .ok (.invokespecial 27, 3) := by decide +kernel
theorem dX4_init_34 : decode cX4_init 34 = .ok (.putfield 28, 3) := by decide +kernel
theorem dX4_init_37 : decode cX4_init 37 = .ok (.aload_n 0, 1) := by decide +kernel
theorem dX4_init_38 : decode cX4_init 38 = .ok (.new 32, 3) := by decide +kernel
theorem dX4_init_41 : decode cX4_init 41 = .ok (.dup, 1) := by decide +kernel
theorem dX4_init_42 : decode cX4_init 42 = .ok (.invokespecial 34, 3) := by decide +kernel
theorem dX4_init_45 : decode cX4_init 45 = .ok (.putfield 35, 3) := by decide +kernel
theorem dX4_init_48 : decode cX4_init 48 = .ok (.aload_n 0, 1) := by decide +kernel
theorem dX4_init_49 : decode cX4_init 49 = .ok (.iconst 4, 1) := by decide +kernel
theorem dX4_init_50 : decode cX4_init 50 = .ok (.newarray .int, 2) := by decide +kernel
theorem dX4_init_52 : decode cX4_init 52 = .ok (.putfield 39, 3) := by decide +kernel
theorem dX4_init_55 : decode cX4_init 55 = .ok (.aload_n 0, 1) := by decide +kernel
theorem dX4_init_56 : decode cX4_init 56 = .ok (.bipush 8, 2) := by decide +kernel
theorem dX4_init_58 : decode cX4_init 58 = .ok (.newarray .int, 2) := by decide +kernel
theorem dX4_init_60 : decode cX4_init 60 = .ok (.putfield 43, 3) := by decide +kernel
theorem dX4_init_63 : decode cX4_init 63 = .ok (.aload_n 0, 1) := by decide +kernel
theorem dX4_init_64 : decode cX4_init 64 = .ok (.iconst 2, 1) := by decide +kernel
theorem dX4_init_65 : decode cX4_init 65 = .ok (.newarray .int, 2) := by decide +kernel
theorem dX4_init_67 : decode cX4_init 67 = .ok (.putfield 46, 3) := by decide +kernel
theorem dX4_init_70 : decode cX4_init 70 = .ok (.aload_n 0, 1) := by decide +kernel
theorem dX4_init_71 : decode cX4_init 71 = .ok (.bipush 12, 2) := by decide +kernel
theorem dX4_init_73 : decode cX4_init 73 = .ok (.newarray .int, 2) := by decide +kernel
theorem dX4_init_75 : decode cX4_init 75 = .ok (.putfield 49, 3) := by decide +kernel
theorem dX4_init_78 : decode cX4_init 78 = .ok (.aload_n 0, 1) := by decide +kernel
theorem dX4_init_79 : decode cX4_init 79 = .ok (.iconst 1, 1) := by decide +kernel
theorem dX4_init_80 : decode cX4_init 80 = .ok (.putfield 52, 3) := by decide +kernel
theorem dX4_init_83 : decode cX4_init 83 = .ok (.getstatic 56, 3) := by decide +kernel
theorem dX4_init_86 : decode cX4_init 86 = .ok (.aload_n 0, 1) := by decide +kernel
theorem dX4_init_87 : decode cX4_init 87 = .ok (.getfield 39, 3) := by decide +kernel
theorem dX4_init_90 : decode cX4_init 90 = .ok (.invokestatic 59, 3) := by decide +kernel
theorem dX4_init_93 : decode cX4_init 93 = .ok (.return_, 1) := by decide +kernel
theorem dX4_copyFrom_0 : decode cX4_copyFrom 0 = .ok (.aload_n 0, 1) := by decide +kernel
theorem dX4_copyFrom_1 : decode cX4_copyFrom 1 = .ok (.getfield 12, 3) := by decide +kernel
theorem dX4_copyFrom_4 : decode cX4_copyFrom 4 = .ok (.aload_n 1, 1) := by decide +kernel
theorem dX4_copyFrom_5 : decode cX4_copyFrom 5 = .ok (.getfield 12, 3) := by decide +kernel
theorem dX4_copyFrom_8 : decode cX4_copyFrom 8 = .ok (.invokevirtual 63, 3) := by decide +kernel
theorem dX4_copyFrom_11 : decode cX4_copyFrom 11 = .ok (.aload_n 0, 1) := by decide +kernel
theorem dX4_copyFrom_12 : decode cX4_copyFrom 12 = .ok (.getfield 21, 3) := by decide +kernel
theorem dX4_copyFrom_15 : decode cX4_copyFrom 15 = .ok (.aload_n 1, 1) := by decide +kernel
theorem dX4_copyFrom_16 : decode cX4_copyFrom 16 = .ok (.getfield 21, 3) := by decide +kernel
theorem dX4_copyFrom_19 : decode cX4_copyFrom 19 = .ok (.invokevirtual 67, 3) := by decide +kernel
theorem dX4_copyFrom_22 : decode cX4_copyFrom 22 = .ok (.aload_n 0, 1) := by decide +kernel
theorem dX4_copyFrom_23 : decode cX4_copyFrom 23 = .ok (.getfield 28, 3) := by decide +kernel
theorem dX4_copyFrom_26 : decode cX4_copyFrom 26 = .ok (.aload_n 1, 1) := by decide +kernel
theorem dX4_copyFrom_27 : decode cX4_copyFrom 27 = .ok (.getfield 28, 3) := by decide +kernel
theorem dX4_copyFrom_30 : decode cX4_copyFrom 30 = .ok (.invokevirtual 70, 3) := by decide +kernel
theorem dX4_copyFrom_33 : decode cX4_copyFrom 33 = .ok (.aload_n 0, 1) := by decide +kernel
theorem dX4_copyFrom_34 : decode cX4_copyFrom 34 = .ok (.getfield 35, 3) := by decide +kernel
theorem dX4_copyFrom_37 : decode cX4_copyFrom 37 = .ok (.aload_n 1, 1) := by decide +kernel
theorem dX4_copyFrom_38 : decode cX4_copyFrom 38 = .ok (.getfield 35, 3) := by decide +kernel
theorem dX4_copyFrom_41 : decode cX4_copyFrom 41 = .ok (.invokevirtual 73, 3) := by decide +kernel
theorem dX4_copyFrom_44 : decode cX4_copyFrom 44 = .ok (.aload_n 1, 1) := by decide +kernel
theorem dX4_copyFrom_45 : decode cX4_copyFrom 45 = .ok (.getfield 39, 3) := by decide +kernel
theorem dX4_copyFrom_48 : decode cX4_copyFrom 48 = .ok (.aload_n 0, 1) := by decide +kernel
theorem dX4_copyFrom_49 : decode cX4_copyFrom 49 = .ok (.getfield 39, 3) := by decide +kernel
theorem dX4_copyFrom_52 : decode cX4_copyFrom 52 = .ok (.invokestatic 59, 3) := by decide +kernel
theorem dX4_copyFrom_55 : decode cX4_copyFrom 55 = .ok (.aload_n 1, 1) := by decide +kernel
theorem dX4_copyFrom_56 : decode cX4_copyFrom 56 = .ok (.getfield 43, 3) := by decide +kernel
theorem dX4_copyFrom_59 : decode cX4_copyFrom 59 = .ok (.aload_n 0, 1) := by decide +kernel
theorem dX4_copyFrom_60 : decode cX4_copyFrom 60 = .ok (.getfield 43, 3) := by decide +kernel
theorem dX4_copyFrom_63 : decode cX4_copyFrom 63 = .ok (.invokestatic 59, 3) := by decide +kernel
theorem dX4_copyFrom_66 : decode cX4_copyFrom 66 = .ok (.aload_n 1, 1) := by decide +kernel
theorem dX4_copyFrom_67 : decode cX4_copyFrom 67 = .ok (.getfield 46, 3) := by decide +kernel
theorem dX4_copyFrom_70 : decode cX4_copyFrom 70 = .ok (.aload_n 0, 1) := by decide +kernel
theorem dX4_copyFrom_71 : decode cX4_copyFrom 71 = .ok (.getfield 46, 3) := by decide +kernel
theorem dX4_copyFrom_74 : decode cX4_copyFrom 74 = .ok (.invokestatic 59, 3) := by decide +kernel
theorem dX4_copyFrom_77 : decode cX4_copyFrom 77 = .ok (.aload_n 0, 1) := by decide +kernel
theorem dX4_copyFrom_78 : decode cX4_copyFrom 78 = .ok (.aload_n 1, 1) := by decide +kernel
theorem dX4_copyFrom_79 : decode cX4_copyFrom 79 = .ok (.getfield 52, 3) := by decide +kernel
theorem dX4_copyFrom_82 : decode cX4_copyFrom 82 = .ok (.putfield 52, 3) := by decide +kernel
theorem dX4_copyFrom_85 : decode cX4_copyFrom 85 = .ok (.aload_n 0, 1) := by decide +kernel
theorem dX4_copyFrom_86 : decode cX4_copyFrom 86 = .ok (.aload_n 1, 1) := by decide +kernel
theorem dX4_copyFrom_87 : decode cX4_copyFrom 87 = .ok (.getfield 76, 3) := by decide +kernel
theorem dX4_copyFrom_90 : decode cX4_copyFrom 90 = .ok (.putfield 76, 3) := by decide +kernel
theorem dX4_copyFrom_93 : decode cX4_copyFrom 93 = .ok (.aload_n 0, 1) := by decide +kernel
theorem dX4_copyFrom_94 : decode cX4_copyFrom 94 = .ok (.aload_n 1, 1) := by decide +kernel
theorem dX4_copyFrom_95 : decode cX4_copyFrom 95 = .ok (.getfield 80, 3) := by decide +kernel
theorem dX4_copyFrom_98 : decode cX4_copyFrom 98 = .ok (.putfield 80, 3) := by decide +kernel
theorem dX4_copyFrom_101 : decode cX4_copyFrom 101 = .ok (.return_, 1) := by decide +kernel
theorem dX4_askFor_0 : decode cX4_askFor 0 = .ok (.iload_n 1, 1) := by decide +kernel
theorem dX4_askFor_1 : decode cX4_askFor 1 = .ok (.iconst 0, 1) := by decide +kernel
theorem dX4_askFor_2 : decode cX4_askFor 2 = .ok (.bipush 11, 2) := by decide +kernel
theorem dX4_askFor_4 : decode cX4_askFor 4 = .ok (.invokestatic 83, 3) := by decide +kernel
theorem dX4_askFor_7 : decode cX4_askFor 7 = .ok (.ifCond .eq 14, 3) := by decide +kernel
theorem dX4_askFor_10 : decode cX4_askFor 10 = .ok (.iload_n 2, 1) := by decide +kernel
theorem dX4_askFor_11 : decode cX4_askFor 11 = .ok (.iconst 0, 1) := by decide +kernel
theorem dX4_askFor_12 : decode cX4_askFor 12 = .ok (.sipush 999, 3) := by decide +kernel
theorem dX4_askFor_15 : decode cX4_askFor 15 = .ok (.invokestatic 83, 3) := by decide +kernel
theorem dX4_askFor_18 : decode cX4_askFor 18 = .ok (.ifCond .ne 5, 3) := by decide +kernel
theorem dX4_askFor_21 : decode cX4_askFor 21 = .ok (.iconst (-1), 1) := by decide +kernel
theorem dX4_askFor_22 : decode cX4_askFor 22 = .ok (.ireturn, 1) := by decide +kernel
theorem dX4_askFor_23 : decode cX4_askFor 23 = .ok (.aload_n 0, 1) := by decide +kernel
theorem dX4_askFor_24 : decode cX4_askFor 24 = .ok (.getfield 52, 3) := by decide +kernel
theorem dX4_askFor_27 : decode cX4_askFor 27 = .ok (.ifCond .ne 6, 3) := by decide +kernel
theorem dX4_askFor_30 : decode cX4_askFor 30 = .ok (.bipush (-2), 2) := by decide +kernel
theorem dX4_askFor_32 : decode cX4_askFor 32 = .ok (.ireturn, 1) := by decide +kernel
theorem dX4_askFor_33 : decode cX4_askFor 33 = .ok (.aload_n 0, 1) := by decide +kernel
theorem dX4_askFor_34 : decode cX4_askFor 34 = .ok (.getfield 21, 3) := by decide +kernel
theorem dX4_askFor_37 : decode cX4_askFor 37 = .ok (.invokevirtual 87, 3) := by decide +kernel
theorem dX4_askFor_40 : decode cX4_askFor 40 = .ok (.bipush 8, 2) := by decide +kernel
theorem dX4_askFor_42 : decode cX4_askFor 42 = .ok (.if_icmp .lt 6, 3) := by decide +kernel
theorem dX4_askFor_45 : decode cX4_askFor 45 = .ok (.bipush (-3), 2) := by decide +kernel
theorem dX4_askFor_47 : decode cX4_askFor 47 = .ok (.ireturn, 1) := by decide +kernel
theorem dX4_askFor_48 : decode cX4_askFor 48 = .ok (.aload_n 0, 1) := by decide +kernel
theorem dX4_askFor_49 : decode cX4_askFor 49 = .ok (.getfield 21, 3) := by decide +kernel
theorem dX4_askFor_52 : decode cX4_askFor 52 = .ok (.iload_n 1, 1) := by decide +kernel
theorem dX4_askFor_53 : decode cX4_askFor 53 = .ok (.iload_n 2, 1) := by decide +kernel
theorem dX4_askFor_54 : decode cX4_askFor 54 = .ok (.iload_n 3, 1) := by decide +kernel
theorem dX4_askFor_55 : decode cX4_askFor 55 = .ok (.iconst 0, 1) := by decide +kernel
theorem dX4_askFor_56 : decode cX4_askFor 56 = .ok (.invokevirtual 91, 3) := by decide +kernel
theorem dX4_askFor_59 : decode cX4_askFor 59 = .ok (.aload_n 0, 1) := by decide +kernel
theorem dX4_askFor_60 : decode cX4_askFor 60 = .ok (.getfield 21, 3) := by decide +kernel
theorem dX4_askFor_63 : decode cX4_askFor 63 = .ok (.invokevirtual 87, 3) := by decide +kernel
theorem dX4_askFor_66 : decode cX4_askFor 66 = .ok (.ireturn, 1) := by decide +kernel
theorem dX4_letTicks_0 : decode cX4_letTicks 0 = .ok (.iload_n 1, 1) := by decide +kernel
theorem dX4_letTicks_1 : decode cX4_letTicks 1 = .ok (.iconst 1, 1) := by decide +kernel
theorem dX4_letTicks_2 : decode cX4_letTicks 2 = .ok (.sipush 200, 3) := by decide +kernel
theorem dX4_letTicks_5 : decode cX4_letTicks 5 = .ok (.invokestatic 83, 3) := by decide +kernel
theorem dX4_letTicks_8 : decode cX4_letTicks 8 = .ok (.ifCond .ne 5, 3) := by decide +kernel
theorem dX4_letTicks_11 : decode cX4_letTicks 11 = .ok (.iconst (-1), 1) := by decide +kernel
theorem dX4_letTicks_12 : decode cX4_letTicks 12 = .ok (.ireturn, 1) := by decide +kernel
theorem dX4_letTicks_13 : decode cX4_letTicks 13 = .ok (.aload_n 0, 1) := by decide +kernel
theorem dX4_letTicks_14 : decode cX4_letTicks 14 = .ok (.getfield 52, 3) := by decide +kernel
theorem dX4_letTicks_17 : decode cX4_letTicks 17 = .ok (.ifCond .ne 6, 3) := by decide +kernel
theorem dX4_letTicks_20 : decode cX4_letTicks 20 = .ok (.bipush (-2), 2) := by decide +kernel
theorem dX4_letTicks_22 : decode cX4_letTicks 22 = .ok (.ireturn, 1) := by decide +kernel
theorem dX4_letTicks_23 : decode cX4_letTicks 23 = .ok (.aload_n 0, 1) := by decide +kernel
theorem dX4_letTicks_24 : decode cX4_letTicks 24 = .ok (.getfield 35, 3) := by decide +kernel
theorem dX4_letTicks_27 : decode cX4_letTicks 27 = .ok (.getfield 95, 3) := by decide +kernel
theorem dX4_letTicks_30 : decode cX4_letTicks 30 = .ok (.iload_n 1, 1) := by decide +kernel
theorem dX4_letTicks_31 : decode cX4_letTicks 31 = .ok (.iadd, 1) := by decide +kernel
theorem dX4_letTicks_32 : decode cX4_letTicks 32 = .ok (.sipush 9000, 3) := by decide +kernel
theorem dX4_letTicks_35 : decode cX4_letTicks 35 = .ok (.if_icmp .le 6, 3) := by decide +kernel
theorem dX4_letTicks_38 : decode cX4_letTicks 38 = .ok (.bipush (-3), 2) := by decide +kernel
theorem dX4_letTicks_40 : decode cX4_letTicks 40 = .ok (.ireturn, 1) := by decide +kernel
theorem dX4_letTicks_41 : decode cX4_letTicks 41 = .ok (.aload_n 0, 1) := by decide +kernel
theorem dX4_letTicks_42 : decode cX4_letTicks 42 = .ok (.getfield 35, 3) := by decide +kernel
theorem dX4_letTicks_45 : decode cX4_letTicks 45 = .ok (.getfield 98, 3) := by decide +kernel
theorem dX4_letTicks_48 : decode cX4_letTicks 48 = .ok (.istore_n 2, 1) := by decide +kernel
theorem dX4_letTicks_49 : decode cX4_letTicks 49 = .ok (.aload_n 0, 1) := by decide +kernel
theorem dX4_letTicks_50 : decode cX4_letTicks 50 = .ok (.iload_n 1, 1) := by decide +kernel
theorem dX4_letTicks_51 : decode cX4_letTicks 51 = .ok (.invokevirtual 101, 3) := by decide +kernel
theorem dX4_letTicks_54 : decode cX4_letTicks 54 = .ok (.aload_n 0, 1) := by decide +kernel
theorem dX4_letTicks_55 : decode cX4_letTicks 55 = .ok (.getfield 35, 3) := by decide +kernel
theorem dX4_letTicks_58 : decode cX4_letTicks 58 = .ok (.getfield 98, 3) := by decide +kernel
theorem dX4_letTicks_61 : decode cX4_letTicks 61 = .ok (.iload_n 2, 1) := by decide +kernel
theorem dX4_letTicks_62 : decode cX4_letTicks 62 = .ok (.isub, 1) := by decide +kernel
theorem dX4_letTicks_63 : decode cX4_letTicks 63 = .ok (.ireturn, 1) := by decide +kernel
theorem dX4_pass_0 : decode cX4_pass 0 = .ok (.iload_n 1, 1) := by decide +kernel
theorem dX4_pass_1 : decode cX4_pass 1 = .ok (.istore_n 2, 1) := by decide +kernel
theorem dX4_pass_2 : decode cX4_pass 2 = .ok (.iload_n 2, 1) := by decide +kernel
theorem dX4_pass_3 : decode cX4_pass 3 = .ok (.ifCond .le 82, 3) := by decide +kernel
end
section
theorem dX4_pass_6 : decode cX4_pass 6 = .ok (.aload_n 0, 1) := by decide +kernel
theorem dX4_pass_7 : decode cX4_pass 7 = .ok (.getfield 28, 3) := by decide +kernel
theorem dX4_pass_10 : decode cX4_pass 10 = .ok (.getfield 105, 3) := by decide +kernel
theorem dX4_pass_13 : decode cX4_pass 13 = .ok (.ifCond .ne 7, 3) := by decide +kernel
theorem dX4_pass_16 : decode cX4_pass 16 = .ok (.aload_n 0, 1) := by decide +kernel
theorem dX4_pass_17 : decode cX4_pass 17 = .ok (.invokevirtual 108, 3) := by decide +kernel
theorem dX4_pass_20 : decode cX4_pass 20 = .ok (.aload_n 0, 1) := by decide +kernel
theorem dX4_pass_21 : decode cX4_pass 21 = .ok (.getfield 28, 3) := by decide +kernel
theorem dX4_pass_24 : decode cX4_pass 24 = .ok (.getfield 105, 3) := by decide +kernel
theorem dX4_pass_27 : decode cX4_pass 27 = .ok (.ifCond .eq 21, 3) := by decide +kernel
theorem dX4_pass_30 : decode cX4_pass 30 = .ok (.iconst 1, 1) := by decide +kernel
theorem dX4_pass_31 : decode cX4_pass 31 = .ok (.iload_n 2, 1) := by decide +kernel
theorem dX4_pass_32 : decode cX4_pass 32 = .ok (.aload_n 0, 1) := by decide +kernel
theorem dX4_pass_33 : decode cX4_pass 33 = .ok (.getfield 28, 3) := by decide +kernel
theorem dX4_pass_36 : decode cX4_pass 36 = .ok (.getfield 111, 3) := by decide +kernel
theorem dX4_pass_39 : decode cX4_pass 39 = .ok (.invokestatic 114, 3) := by decide +kernel
theorem dX4_pass_42 : decode cX4_pass 42 = .ok (.invokestatic 120, 3) := by decide +kernel
theorem dX4_pass_45 : decode cX4_pass 45 = .ok (.goto 4, 3) := by decide +kernel
theorem dX4_pass_48 : decode cX4_pass 48 = .ok (.iload_n 2, 1) := by decide +kernel
theorem dX4_pass_49 : decode cX4_pass 49 = .ok (.istore_n 3, 1) := by decide +kernel
theorem dX4_pass_50 : decode cX4_pass 50 = .ok (.aload_n 0, 1) := by decide +kernel
theorem dX4_pass_51 : decode cX4_pass 51 = .ok (.getfield 35, 3) := by decide +kernel
theorem dX4_pass_54 : decode cX4_pass 54 = .ok (.dup, 1) := by decide +kernel
theorem dX4_pass_55 : decode cX4_pass 55 = .ok (.getfield 95, 3) := by decide +kernel
theorem dX4_pass_58 : decode cX4_pass 58 = .ok (.iload_n 3, 1) := by decide +kernel
theorem dX4_pass_59 : decode cX4_pass 59 = .ok (.iadd, 1) := by decide +kernel
theorem dX4_pass_60 : decode cX4_pass 60 = .ok (.putfield 95, 3) := by decide +kernel
theorem dX4_pass_63 : decode cX4_pass 63 = .ok (.aload_n 0, 1) := by decide +kernel
theorem dX4_pass_64 : decode cX4_pass 64 = .ok (.getfield 28, 3) := by decide +kernel
theorem dX4_pass_67 : decode cX4_pass 67 = .ok (.getfield 105, 3) := by decide +kernel
theorem dX4_pass_70 : decode cX4_pass 70 = .ok (.ifCond .eq 8, 3) := by decide +kernel
theorem dX4_pass_73 : decode cX4_pass 73 = .ok (.aload_n 0, 1) := by decide +kernel
theorem dX4_pass_74 : decode cX4_pass 74 = .ok (.iload_n 3, 1) := by decide +kernel
theorem dX4_pass_75 : decode cX4_pass 75 = .ok (.invokevirtual 123, 3) := by decide +kernel
theorem dX4_pass_78 : decode cX4_pass 78 = .ok (.iload_n 2, 1) := by decide +kernel
theorem dX4_pass_79 : decode cX4_pass 79 = .ok (.iload_n 3, 1) := by decide +kernel
theorem dX4_pass_80 : decode cX4_pass 80 = .ok (.isub, 1) := by decide +kernel
theorem dX4_pass_81 : decode cX4_pass 81 = .ok (.istore_n 2, 1) := by decide +kernel
theorem dX4_pass_82 : decode cX4_pass 82 = .ok (.goto (-80), 3) := by decide +kernel
theorem dX4_pass_85 : decode cX4_pass 85 = .ok (.return_, 1) := by decide +kernel
theorem dX4_isFull_0 : decode cX4_isFull 0 = .ok (.aload_n 0, 1) := by decide +kernel
theorem dX4_isFull_1 : decode cX4_isFull 1 = .ok (.getfield 80, 3) := by decide +kernel
theorem dX4_isFull_4 : decode cX4_isFull 4 = .ok (.bipush 16, 2) := by decide +kernel
theorem dX4_isFull_6 : decode cX4_isFull 6 = .ok (.if_icmp .lt 7, 3) := by decide +kernel
theorem dX4_isFull_9 : decode cX4_isFull 9 = .ok (.iconst 1, 1) := by decide +kernel
theorem dX4_isFull_10 : decode cX4_isFull 10 = .ok (.goto 4, 3) := by decide +kernel
theorem dX4_isFull_13 : decode cX4_isFull 13 = .ok (.iconst 0, 1) := by decide +kernel
theorem dX4_isFull_14 : decode cX4_isFull 14 = .ok (.ireturn, 1) := by decide +kernel
theorem dX4_takeRequests_0 : decode cX4_takeRequests 0 = .ok (.iconst 0, 1) := by decide +kernel
theorem dX4_takeRequests_1 : decode cX4_takeRequests 1 = .ok (.istore_n 1, 1) := by decide +kernel
theorem dX4_takeRequests_2 : decode cX4_takeRequests 2 = .ok (.iload_n 1, 1) := by decide +kernel
theorem dX4_takeRequests_3 : decode cX4_takeRequests 3 = .ok (.bipush 8, 2) := by decide +kernel
theorem dX4_takeRequests_5 : decode cX4_takeRequests 5 = .ok (.if_icmp .ge 55, 3) := by decide +kernel
theorem dX4_takeRequests_8 : decode cX4_takeRequests 8 = .ok (.aload_n 0, 1) := by decide +kernel
theorem dX4_takeRequests_9 : decode cX4_takeRequests 9 = .ok (.getfield 28, 3) := by decide +kernel
theorem dX4_takeRequests_12 : decode cX4_takeRequests 12 = .ok (.getfield 105, 3) := by decide +kernel
theorem dX4_takeRequests_15 : decode cX4_takeRequests 15 = .ok (.ifCond .ne 20, 3) := by decide +kernel
theorem dX4_takeRequests_18 : decode cX4_takeRequests 18 = .ok (.aload_n 0, 1) := by decide +kernel
theorem dX4_takeRequests_19 : decode cX4_takeRequests 19 = .ok (.invokevirtual 126, 3) := by decide +kernel
theorem dX4_takeRequests_22 : decode cX4_takeRequests 22 = .ok (.ifCond .ne 13, 3) := by decide +kernel
theorem dX4_takeRequests_25 : decode cX4_takeRequests 25 = .ok (.aload_n 0, 1) := by decide +kernel
theorem dX4_takeRequests_26 : decode cX4_takeRequests 26 = .ok (.getfield 21, 3) := by decide +kernel
theorem dX4_takeRequests_29 : decode cX4_takeRequests 29 = .ok (.invokevirtual 87, 3) := by decide +kernel
theorem dX4_takeRequests_32 : decode cX4_takeRequests 32 = .ok (.ifCond .ne 4, 3) := by decide +kernel
theorem dX4_takeRequests_35 : decode cX4_takeRequests 35 = .ok (.return_, 1) := by decide +kernel
theorem dX4_takeRequests_36 : decode cX4_takeRequests 36 = .ok (.aload_n 0, 1) := by decide +kernel
theorem dX4_takeRequests_37 : decode cX4_takeRequests 37 = .ok (.invokevirtual 130, 3) := by decide +kernel
theorem dX4_takeRequests_40 : decode cX4_takeRequests 40 = .ok (.ifCond .ne 7, 3) := by decide +kernel
theorem dX4_takeRequests_43 : decode cX4_takeRequests 43 = .ok (.aload_n 0, 1) := by decide +kernel
theorem dX4_takeRequests_44 : decode cX4_takeRequests 44 = .ok (.invokevirtual 133, 3) := by decide +kernel
theorem dX4_takeRequests_47 : decode cX4_takeRequests 47 = .ok (.aload_n 0, 1) := by decide +kernel
theorem dX4_takeRequests_48 : decode cX4_takeRequests 48 = .ok (.getfield 21, 3) := by decide +kernel
theorem dX4_takeRequests_51 : decode cX4_takeRequests 51 = .ok (.invokevirtual 136, 3) := by decide +kernel
theorem dX4_takeRequests_54 : decode cX4_takeRequests 54 = .ok (.iinc 1 1, 3) := by decide +kernel
theorem dX4_takeRequests_57 : decode cX4_takeRequests 57 = .ok (.goto (-55), 3) := by decide +kernel
theorem dX4_takeRequests_60 : decode cX4_takeRequests 60 = .ok (.return_, 1) := by decide +kernel
theorem dX4_isOutdated_0 : decode cX4_isOutdated 0 = .ok (.aload_n 0, 1) := by decide +kernel
theorem dX4_isOutdated_1 : decode cX4_isOutdated 1 = .ok (.getfield 21, 3) := by decide +kernel
theorem dX4_isOutdated_4 : decode cX4_isOutdated 4 = .ok (.iconst 0, 1) := by decide +kernel
theorem dX4_isOutdated_5 : decode cX4_isOutdated 5 = .ok (.invokevirtual 139, 3) := by decide +kernel
theorem dX4_isOutdated_8 : decode cX4_isOutdated 8 = .ok (.istore_n 1, 1) := by decide +kernel
theorem dX4_isOutdated_9 : decode cX4_isOutdated 9 = .ok (.iload_n 1, 1) := by decide +kernel
theorem dX4_isOutdated_10 : decode cX4_isOutdated 10 = .ok (.ifCond .eq 10, 3) := by decide +kernel
theorem dX4_isOutdated_13 : decode cX4_isOutdated 13 = .ok (.iload_n 1, 1) := by decide +kernel
theorem dX4_isOutdated_14 : decode cX4_isOutdated 14 = .ok (.iconst 3, 1) := by decide +kernel
theorem dX4_isOutdated_15 : decode cX4_isOutdated 15 = .ok (.if_icmp .eq 5, 3) := by decide +kernel
theorem dX4_isOutdated_18 : decode cX4_isOutdated 18 = .ok (.iconst 0, 1) := by decide +kernel
theorem dX4_isOutdated_19 : decode cX4_isOutdated 19 = .ok (.ireturn, 1) := by decide +kernel
theorem dX4_isOutdated_20 : decode cX4_isOutdated 20 = .ok (.aload_n 0, 1) := by decide +kernel
theorem dX4_isOutdated_21 : decode cX4_isOutdated 21 = .ok (.getfield 12, 3) := by decide +kernel
theorem dX4_isOutdated_24 : decode cX4_isOutdated 24 = .ok (.aload_n 0, 1) := by decide +kernel
theorem dX4_isOutdated_25 : decode cX4_isOutdated 25 = .ok (.getfield 21, 3) := by decide +kernel
theorem dX4_isOutdated_28 : decode cX4_isOutdated 28 = .ok (.iconst 0, 1) := by decide +kernel
theorem dX4_isOutdated_29 : decode cX4_isOutdated 29 = .ok (.invokevirtual 143, 3) := by decide +kernel
theorem dX4_isOutdated_32 : decode cX4_isOutdated 32 = .ok (.invokevirtual 146, 3) := by decide +kernel
theorem dX4_isOutdated_35 : decode cX4_isOutdated 35 = .ok (.istore_n 2, 1) := by decide +kernel
theorem dX4_isOutdated_36 : decode cX4_isOutdated 36 = .ok (.iload_n 2, 1) := by decide +kernel
theorem dX4_isOutdated_37 : decode cX4_isOutdated 37 = .ok (.iconst (-1), 1) := by decide +kernel
theorem dX4_isOutdated_38 : decode cX4_isOutdated 38 = .ok (.if_icmp .eq 22, 3) := by decide +kernel
theorem dX4_isOutdated_41 : decode cX4_isOutdated 41 = .ok (.aload_n 0, 1) := by decide +kernel
theorem dX4_isOutdated_42 : decode cX4_isOutdated 42 = .ok (.getfield 12, 3) := by decide +kernel
theorem dX4_isOutdated_45 : decode cX4_isOutdated 45 = .ok (.iload_n 2, 1) := by decide +kernel
theorem dX4_isOutdated_46 : decode cX4_isOutdated 46 = .ok (.invokevirtual 149, 3) := by decide +kernel
theorem dX4_isOutdated_49 : decode cX4_isOutdated 49 = .ok (.aload_n 0, 1) := by decide +kernel
theorem dX4_isOutdated_50 : decode cX4_isOutdated 50 = .ok (.getfield 21, 3) := by decide +kernel
theorem dX4_isOutdated_53 : decode cX4_isOutdated 53 = .ok (.iconst 0, 1) := by decide +kernel
theorem dX4_isOutdated_54 : decode cX4_isOutdated 54 = .ok (.invokevirtual 152, 3) := by decide +kernel
theorem dX4_isOutdated_57 : decode cX4_isOutdated 57 = .ok (.if_icmp .eq 7, 3) := by decide +kernel
theorem dX4_isOutdated_60 : decode cX4_isOutdated 60 = .ok (.iconst 1, 1) := by decide +kernel
theorem dX4_isOutdated_61 : decode cX4_isOutdated 61 = .ok (.goto 4, 3) := by decide +kernel
theorem dX4_isOutdated_64 : decode cX4_isOutdated 64 = .ok (.iconst 0, 1) := by decide +kernel
theorem dX4_isOutdated_65 : decode cX4_isOutdated 65 = .ok (.ireturn, 1) := by decide +kernel
theorem dX4_beginWriting_0 : decode cX4_beginWriting 0 = .ok (.getstatic 153, 3) := by decide +kernel
theorem dX4_beginWriting_3 : decode cX4_beginWriting 3 = .ok (.aload_n 0, 1) := by decide +kernel
theorem dX4_beginWriting_4 : decode cX4_beginWriting 4 = .ok (.getfield 80, 3) := by decide +kernel
theorem dX4_beginWriting_7 : decode cX4_beginWriting 7 = .ok (.invokestatic 156, 3) := by decide +kernel
theorem dX4_beginWriting_10 : decode cX4_beginWriting 10 = .ok (.istore_n 1, 1) := by decide +kernel
theorem dX4_beginWriting_11 : decode cX4_beginWriting 11 = .ok (.aload_n 0, 1) := by decide +kernel
theorem dX4_beginWriting_12 : decode cX4_beginWriting 12 = .ok (.getfield 28, 3) := by decide +kernel
theorem dX4_beginWriting_15 : decode cX4_beginWriting 15 = .ok (.iconst 1, 1) := by decide +kernel
theorem dX4_beginWriting_16 : decode cX4_beginWriting 16 = .ok (.putfield 105, 3) := by decide +kernel
theorem dX4_beginWriting_19 : decode cX4_beginWriting 19 = .ok (.aload_n 0, 1) := by decide +kernel
theorem dX4_beginWriting_20 : decode cX4_beginWriting 20 = .ok (.getfield 28, 3) := by decide +kernel
theorem dX4_beginWriting_23 : decode cX4_beginWriting 23 = .ok (.getstatic 160, 3) := by decide +kernel
theorem dX4_beginWriting_26 : decode cX4_beginWriting 26 = .ok (.aload_n 0, 1) := by decide +kernel
theorem dX4_beginWriting_27 : decode cX4_beginWriting 27 = .ok (.getfield 80, 3) := by decide +kernel
theorem dX4_beginWriting_30 : decode cX4_beginWriting 30 = .ok (.invokestatic 156, 3) := by decide +kernel
theorem dX4_beginWriting_33 : decode cX4_beginWriting 33 = .ok (.iconst 1, 1) := by decide +kernel
theorem dX4_beginWriting_34 : decode cX4_beginWriting 34 = .ok (.if_icmp .ne 7, 3) := by decide +kernel
theorem dX4_beginWriting_37 : decode cX4_beginWriting 37 = .ok (.iconst 1, 1) := by decide +kernel
theorem dX4_beginWriting_38 : decode cX4_beginWriting 38 = .ok (.goto 4, 3) := by decide +kernel
theorem dX4_beginWriting_41 : decode cX4_beginWriting 41 = .ok (.iconst 0, 1) := by decide +kernel
theorem dX4_beginWriting_42 : decode cX4_beginWriting 42 = .ok (.putfield 163, 3) := by decide +kernel
theorem dX4_beginWriting_45 : decode cX4_beginWriting 45 = .ok (.aload_n 0, 1) := by decide +kernel
theorem dX4_beginWriting_46 : decode cX4_beginWriting 46 = .ok (.getfield 28, 3) := by decide +kernel
theorem dX4_beginWriting_49 : decode cX4_beginWriting 49 = .ok (.aload_n 0, 1) := by decide +kernel
theorem dX4_beginWriting_50 : decode cX4_beginWriting 50 = .ok (.getfield 21, 3) := by decide +kernel
theorem dX4_beginWriting_53 : decode cX4_beginWriting 53 = .ok (.iconst 0, 1) := by decide +kernel
theorem dX4_beginWriting_54 : decode cX4_beginWriting 54 = .ok (.invokevirtual 139, 3) := by decide +kernel
theorem dX4_beginWriting_57 : decode cX4_beginWriting 57 = .ok (.putfield 166, 3) := by decide +kernel
theorem dX4_beginWriting_60 : decode cX4_beginWriting 60 = .ok (.aload_n 0, 1) := by decide +kernel
theorem dX4_beginWriting_61 : decode cX4_beginWriting 61 = .ok (.getfield 28, 3) := by decide +kernel
theorem dX4_beginWriting_64 : decode cX4_beginWriting 64 = .ok (.aload_n 0, 1) := by decide +kernel
theorem dX4_beginWriting_65 : decode cX4_beginWriting 65 = .ok (.getfield 76, 3) := by decide +kernel
theorem dX4_beginWriting_68 : decode cX4_beginWriting 68 = .ok (.aload_n 0, 1) := by decide +kernel
theorem dX4_beginWriting_69 : decode cX4_beginWriting 69 = .ok (.getfield 80, 3) := by decide +kernel
theorem dX4_beginWriting_72 : decode cX4_beginWriting 72 = .ok (.invokestatic 168, 3) := by decide +kernel
theorem dX4_beginWriting_75 : decode cX4_beginWriting 75 = .ok (.putfield 171, 3) := by decide +kernel
theorem dX4_beginWriting_78 : decode cX4_beginWriting 78 = .ok (.aload_n 0, 1) := by decide +kernel
theorem dX4_beginWriting_79 : decode cX4_beginWriting 79 = .ok (.getfield 28, 3) := by decide +kernel
theorem dX4_beginWriting_82 : decode cX4_beginWriting 82 = .ok (.aload_n 0, 1) := by decide +kernel
theorem dX4_beginWriting_83 : decode cX4_beginWriting 83 = .ok (.getfield 76, 3) := by decide +kernel
theorem dX4_beginWriting_86 : decode cX4_beginWriting 86 = .ok (.iload_n 1, 1) := by decide +kernel
theorem dX4_beginWriting_87 : decode cX4_beginWriting 87 = .ok (.invokestatic 174, 3) := by decide +kernel
theorem dX4_beginWriting_90 : decode cX4_beginWriting 90 = .ok (.invokestatic 168, 3) := by decide +kernel
theorem dX4_beginWriting_93 : decode cX4_beginWriting 93 = .ok (.putfield 177, 3) := by decide +kernel
theorem dX4_beginWriting_96 : decode cX4_beginWriting 96 = .ok (.aload_n 0, 1) := by decide +kernel
theorem dX4_beginWriting_97 : decode cX4_beginWriting 97 = .ok (.getfield 28, 3) := by decide +kernel
theorem dX4_beginWriting_100 : decode cX4_beginWriting 100 = .ok (.aload_n 0, 1) := by decide +kernel
theorem dX4_beginWriting_101 : decode cX4_beginWriting 101 = .ok (.getfield 76, 3) := by decide +kernel
theorem dX4_beginWriting_104 : decode cX4_beginWriting 104 = .ok (.bipush 16, 2) := by decide +kernel
theorem dX4_beginWriting_106 : decode cX4_beginWriting 106 = .ok (.iload_n 1, 1) := by decide +kernel
theorem dX4_beginWriting_107 : decode cX4_beginWriting 107 = .ok (.iadd, 1) := by decide +kernel
theorem dX4_beginWriting_108 : decode cX4_beginWriting 108 = .ok (.invokestatic 168, 3) := by decide +kernel
theorem dX4_beginWriting_111 : decode cX4_beginWriting 111 = .ok (.putfield 180, 3) := by decide +kernel
theorem dX4_beginWriting_114 : decode cX4_beginWriting 114 = .ok (.aload_n 0, 1) := by decide +kernel
theorem dX4_beginWriting_115 : decode cX4_beginWriting 115 = .ok (.getfield 28, 3) := by decide +kernel
theorem dX4_beginWriting_118 : decode cX4_beginWriting 118 = .ok (.aload_n 0, 1) := by decide +kernel
theorem dX4_beginWriting_119 : decode cX4_beginWriting 119 = .ok (.getfield 39, 3) := by decide +kernel
theorem dX4_beginWriting_122 : decode cX4_beginWriting 122 = .ok (.aload_n 0, 1) := by decide +kernel
theorem dX4_beginWriting_123 : decode cX4_beginWriting 123 = .ok (.getfield 28, 3) := by decide +kernel
theorem dX4_beginWriting_126 : decode cX4_beginWriting 126 = .ok (.getfield 163, 3) := by decide +kernel
theorem dX4_beginWriting_129 : decode cX4_beginWriting 129 = .ok (.ifCond .eq 7, 3) := by decide +kernel
theorem dX4_beginWriting_132 : decode cX4_beginWriting 132 = .ok (.iconst 1, 1) := by decide +kernel
theorem dX4_beginWriting_133 : decode cX4_beginWriting 133 = .ok (.goto 4, 3) := by decide +kernel
theorem dX4_beginWriting_136 : decode cX4_beginWriting 136 = .ok (.iconst 0, 1) := by decide +kernel
theorem dX4_beginWriting_137 : decode cX4_beginWriting 137 = .ok (.invokestatic 156, 3) := by decide +kernel
theorem dX4_beginWriting_140 : decode cX4_beginWriting 140 = .ok (.aload_n 0, 1) := by decide +kernel
theorem dX4_beginWriting_141 : decode cX4_beginWriting 141 = .ok (.getfield 43, 3) := by decide +kernel
theorem dX4_beginWriting_144 : decode cX4_beginWriting 144 = .ok (.iload_n 1, 1) := by decide +kernel
theorem dX4_beginWriting_145 : decode cX4_beginWriting 145 = .ok (.invokestatic 156, 3) := by decide +kernel
theorem dX4_beginWriting_148 : decode cX4_beginWriting 148 = .ok (.iadd, 1) := by decide +kernel
theorem dX4_beginWriting_149 : decode cX4_beginWriting 149 = .ok (.aload_n 0, 1) := by decide +kernel
theorem dX4_beginWriting_150 : decode cX4_beginWriting 150 = .ok (.getfield 46, 3) := by decide +kernel
theorem dX4_beginWriting_153 : decode cX4_beginWriting 153 = .ok (.aload_n 0, 1) := by decide +kernel
theorem dX4_beginWriting_154 : decode cX4_beginWriting 154 = .ok (.getfield 76, 3) := by decide +kernel
theorem dX4_beginWriting_157 : decode cX4_beginWriting 157 = .ok (.invokestatic 156, 3) := by decide +kernel
theorem dX4_beginWriting_160 : decode cX4_beginWriting 160 = .ok (.aload_n 0, 1) := by decide +kernel
theorem dX4_beginWriting_161 : decode cX4_beginWriting 161 = .ok (.getfield 39, 3) := by decide +kernel
theorem dX4_beginWriting_164 : decode cX4_beginWriting 164 = .ok (.iconst 3, 1) := by decide +kernel
theorem dX4_beginWriting_165 : decode cX4_beginWriting 165 = .ok (.invokestatic 156, 3) := by decide +kernel
theorem dX4_beginWriting_168 : decode cX4_beginWriting 168 = .ok (.invokestatic 183, 3) := by decide +kernel
theorem dX4_beginWriting_171 : decode cX4_beginWriting 171 = .ok (.iadd, 1) := by decide +kernel
theorem dX4_beginWriting_172 : decode cX4_beginWriting 172 = .ok (.putfield 186, 3) := by decide +kernel
theorem dX4_beginWriting_175 : decode cX4_beginWriting 175 = .ok (.aload_n 0, 1) := by decide +kernel
theorem dX4_beginWriting_176 : decode cX4_beginWriting 176 = .ok (.getfield 28, 3) := by decide +kernel
theorem dX4_beginWriting_179 : decode cX4_beginWriting 179 = .ok (.aload_n 0, 1) := by decide +kernel
theorem dX4_beginWriting_180 : decode cX4_beginWriting 180 = .ok (.getfield 28, 3) := by decide +kernel
theorem dX4_beginWriting_183 : decode cX4_beginWriting 183 = .ok (.getfield 186, 3) := by decide +kernel
theorem dX4_beginWriting_186 : decode cX4_beginWriting 186 = .ok (.putfield 111, 3) := by decide +kernel
theorem dX4_beginWriting_189 : decode cX4_beginWriting 189 = .ok (.aload_n 0, 1) := by decide +kernel
theorem dX4_beginWriting_190 : decode cX4_beginWriting 190 = .ok (.dup, 1) := by decide +kernel
theorem dX4_beginWriting_191 : decode cX4_beginWriting 191 = .ok (.getfield 80, 3) := by decide +kernel
theorem dX4_beginWriting_194 : decode cX4_beginWriting 194 = .ok (.iconst 1, 1) := by decide +kernel
theorem dX4_beginWriting_195 : decode cX4_beginWriting 195 = .ok (.iadd, 1) := by decide +kernel
theorem dX4_beginWriting_196 : decode cX4_beginWriting 196 = .ok (.putfield 80, 3) := by decide +kernel
theorem dX4_beginWriting_199 : decode cX4_beginWriting 199 = .ok (.aload_n 0, 1) := by decide +kernel
theorem dX4_beginWriting_200 : decode cX4_beginWriting 200 = .ok (.getfield 35, 3) := by decide +kernel
theorem dX4_beginWriting_203 : decode cX4_beginWriting 203 = .ok (.dup, 1) := by decide +kernel
theorem dX4_beginWriting_204 : decode cX4_beginWriting 204 = .ok (.getfield 189, 3) := by decide +kernel
theorem dX4_beginWriting_207 : decode cX4_beginWriting 207 = .ok (.iconst 1, 1) := by decide +kernel
theorem dX4_beginWriting_208 : decode cX4_beginWriting 208 = .ok (.iadd, 1) := by decide +kernel
theorem dX4_beginWriting_209 : decode cX4_beginWriting 209 = .ok (.putfield 189, 3) := by decide +kernel
theorem dX4_beginWriting_212 : decode cX4_beginWriting 212 = .ok (.aload_n 0, 1) := by decide +kernel
theorem dX4_beginWriting_213 : decode cX4_beginWriting 213 = .ok (.getfield 12, 3) := by decide +kernel
theorem dX4_beginWriting_216 : decode cX4_beginWriting 216 = .ok (.aload_n 0, 1) := by decide +kernel
theorem dX4_beginWriting_217 : decode cX4_beginWriting 217 = .ok (.getfield 28, 3) := by decide +kernel
theorem dX4_beginWriting_220 : decode cX4_beginWriting 220 = .ok (.getfield 171, 3) := by decide +kernel
theorem dX4_beginWriting_223 : decode cX4_beginWriting 223 = .ok (.aload_n 0, 1) := by decide +kernel
theorem dX4_beginWriting_224 : decode cX4_beginWriting 224 = .ok (.getfield 21, 3) := by decide +kernel
theorem dX4_beginWriting_227 : decode cX4_beginWriting 227 = .ok (.iconst 0, 1) := by decide +kernel
theorem dX4_beginWriting_228 : decode cX4_beginWriting 228 = .ok (.invokevirtual 143, 3) := by decide +kernel
theorem dX4_beginWriting_231 : decode cX4_beginWriting 231 = .ok (.aload_n 0, 1) := by decide +kernel
theorem dX4_beginWriting_232 : decode cX4_beginWriting 232 = .ok (.getfield 21, 3) := by decide +kernel
theorem dX4_beginWriting_235 : decode cX4_beginWriting 235 = .ok (.iconst 0, 1) := by decide +kernel
theorem dX4_beginWriting_236 : decode cX4_beginWriting 236 = .ok (.invokevirtual 192, 3) := by decide +kernel
theorem dX4_beginWriting_239 : decode cX4_beginWriting 239 = .ok (.aload_n 0, 1) := by decide +kernel
theorem dX4_beginWriting_240 : decode cX4_beginWriting 240 = .ok (.getfield 35, 3) := by decide +kernel
theorem dX4_beginWriting_243 : decode cX4_beginWriting 243 = .ok (.getfield 189, 3) := by decide +kernel
theorem dX4_beginWriting_246 : decode cX4_beginWriting 246 = .ok (.invokevirtual 195, 3) := by decide +kernel
theorem dX4_beginWriting_249 : decode cX4_beginWriting 249 = .ok (.aload_n 0, 1) := by decide +kernel
theorem dX4_beginWriting_250 : decode cX4_beginWriting 250 = .ok (.getfield 28, 3) := by decide +kernel
theorem dX4_beginWriting_253 : decode cX4_beginWriting 253 = .ok (.getfield 163, 3) := by decide +kernel
theorem dX4_beginWriting_256 : decode cX4_beginWriting 256 = .ok (.ifCond .eq 67, 3) := by decide +kernel
theorem dX4_beginWriting_259 : decode cX4_beginWriting 259 = .ok (.aload_n 0, 1) := by decide +kernel
theorem dX4_beginWriting_260 : decode cX4_beginWriting 260 = .ok (.getfield 39, 3) := by decide +kernel
theorem dX4_beginWriting_263 : decode cX4_beginWriting 263 = .ok (.iconst 2, 1) := by decide +kernel
theorem dX4_beginWriting_264 : decode cX4_beginWriting 264 = .ok (.invokestatic 156, 3) := by decide +kernel
theorem dX4_beginWriting_267 : decode cX4_beginWriting 267 = .ok (.iconst 1, 1) := by decide +kernel
theorem dX4_beginWriting_268 : decode cX4_beginWriting 268 = .ok (.if_icmp .ne 55, 3) := by decide +kernel
theorem dX4_beginWriting_271 : decode cX4_beginWriting 271 = .ok (.aload_n 0, 1) := by decide +kernel
theorem dX4_beginWriting_272 : decode cX4_beginWriting 272 = .ok (.getfield 12, 3) := by decide +kernel
theorem dX4_beginWriting_275 : decode cX4_beginWriting 275 = .ok (.aload_n 0, 1) := by decide +kernel
theorem dX4_beginWriting_276 : decode cX4_beginWriting 276 = .ok (.getfield 28, 3) := by decide +kernel
theorem dX4_beginWriting_279 : decode cX4_beginWriting 279 = .ok (.getfield 177, 3) := by decide +kernel
theorem dX4_beginWriting_282 : decode cX4_beginWriting 282 = .ok (.invokevirtual 198, 3) := by decide +kernel
theorem dX4_beginWriting_285 : decode cX4_beginWriting 285 = .ok (.iconst 2, 1) := by decide +kernel
theorem dX4_beginWriting_286 : decode cX4_beginWriting 286 = .ok (.if_icmp .ne 37, 3) := by decide +kernel
theorem dX4_beginWriting_289 : decode cX4_beginWriting 289 = .ok (.aload_n 0, 1) := by decide +kernel
theorem dX4_beginWriting_290 : decode cX4_beginWriting 290 = .ok (.getfield 12, 3) := by decide +kernel
theorem dX4_beginWriting_293 : decode cX4_beginWriting 293 = .ok (.aload_n 0, 1) := by decide +kernel
theorem dX4_beginWriting_294 : decode cX4_beginWriting 294 = .ok (.getfield 28, 3) := by decide +kernel
theorem dX4_beginWriting_297 : decode cX4_beginWriting 297 = .ok (.getfield 177, 3) := by decide +kernel
theorem dX4_beginWriting_300 : decode cX4_beginWriting 300 = .ok (.aload_n 0, 1) := by decide +kernel
theorem dX4_beginWriting_301 : decode cX4_beginWriting 301 = .ok (.getfield 28, 3) := by decide +kernel
theorem dX4_beginWriting_304 : decode cX4_beginWriting 304 = .ok (.getfield 180, 3) := by decide +kernel
theorem dX4_beginWriting_307 : decode cX4_beginWriting 307 = .ok (.invokevirtual 201, 3) := by decide +kernel
theorem dX4_beginWriting_310 : decode cX4_beginWriting 310 = .ok (.aload_n 0, 1) := by decide +kernel
theorem dX4_beginWriting_311 : decode cX4_beginWriting 311 = .ok (.getfield 28, 3) := by decide +kernel
theorem dX4_beginWriting_314 : decode cX4_beginWriting 314 = .ok (.dup, 1) := by decide +kernel
theorem dX4_beginWriting_315 : decode cX4_beginWriting 315 = .ok (.getfield 111, 3) := by decide +kernel
theorem dX4_beginWriting_318 : decode cX4_beginWriting 318 = .ok (.iconst 2, 1) := by decide +kernel
theorem dX4_beginWriting_319 : decode cX4_beginWriting 319 = .ok (.iadd, 1) := by decide +kernel
theorem dX4_beginWriting_320 : decode cX4_beginWriting 320 = .ok (.putfield 111, 3) := by decide +kernel
theorem dX4_beginWriting_323 : decode cX4_beginWriting 323 = .ok (.return_, 1) := by decide +kernel
theorem dX4_goOn_0 : decode cX4_goOn 0 = .ok (.aload_n 0, 1) := by decide +kernel
theorem dX4_goOn_1 : decode cX4_goOn 1 = .ok (.getfield 28, 3) := by decide +kernel
theorem dX4_goOn_4 : decode cX4_goOn 4 = .ok (.dup, 1) := by decide +kernel
theorem dX4_goOn_5 : decode cX4_goOn 5 = .ok (.getfield 111, 3) := by decide +kernel
theorem dX4_goOn_8 : decode cX4_goOn 8 = .ok (.iload_n 1, 1) := by decide +kernel
theorem dX4_goOn_9 : decode cX4_goOn 9 = .ok (.isub, 1) := by decide +kernel
theorem dX4_goOn_10 : decode cX4_goOn 10 = .ok (.putfield 111, 3) := by decide +kernel
theorem dX4_goOn_13 : decode cX4_goOn 13 = .ok (.aload_n 0, 1) := by decide +kernel
theorem dX4_goOn_14 : decode cX4_goOn 14 = .ok (.getfield 12, 3) := by decide +kernel
theorem dX4_goOn_17 : decode cX4_goOn 17 = .ok (.aload_n 0, 1) := by decide +kernel
theorem dX4_goOn_18 : decode cX4_goOn 18 = .ok (.getfield 28, 3) := by decide +kernel
theorem dX4_goOn_21 : decode cX4_goOn 21 = .ok (.getfield 180, 3) := by decide +kernel
theorem dX4_goOn_24 : decode cX4_goOn 24 = .ok (.invokevirtual 198, 3) := by decide +kernel
theorem dX4_goOn_27 : decode cX4_goOn 27 = .ok (.iconst 1, 1) := by decide +kernel
theorem dX4_goOn_28 : decode cX4_goOn 28 = .ok (.if_icmp .ne 41, 3) := by decide +kernel
theorem dX4_goOn_31 : decode cX4_goOn 31 = .ok (.aload_n 0, 1) := by decide +kernel
theorem dX4_goOn_32 : decode cX4_goOn 32 = .ok (.getfield 28, 3) := by decide +kernel
theorem dX4_goOn_35 : decode cX4_goOn 35 = .ok (.invokevirtual 205, 3) := by decide +kernel
theorem dX4_goOn_38 : decode cX4_goOn 38 = .ok (.ifCond .eq 31, 3) := by decide +kernel
theorem dX4_goOn_41 : decode cX4_goOn 41 = .ok (.aload_n 0, 1) := by decide +kernel
theorem dX4_goOn_42 : decode cX4_goOn 42 = .ok (.getfield 12, 3) := by decide +kernel
theorem dX4_goOn_45 : decode cX4_goOn 45 = .ok (.aload_n 0, 1) := by decide +kernel
theorem dX4_goOn_46 : decode cX4_goOn 46 = .ok (.getfield 28, 3) := by decide +kernel
theorem dX4_goOn_49 : decode cX4_goOn 49 = .ok (.getfield 180, 3) := by decide +kernel
theorem dX4_goOn_52 : decode cX4_goOn 52 = .ok (.iconst 2, 1) := by decide +kernel
theorem dX4_goOn_53 : decode cX4_goOn 53 = .ok (.invokevirtual 208, 3) := by decide +kernel
theorem dX4_goOn_56 : decode cX4_goOn 56 = .ok (.aload_n 0, 1) := by decide +kernel
theorem dX4_goOn_57 : decode cX4_goOn 57 = .ok (.getfield 35, 3) := by decide +kernel
theorem dX4_goOn_60 : decode cX4_goOn 60 = .ok (.dup, 1) := by decide +kernel
theorem dX4_goOn_61 : decode cX4_goOn 61 = .ok (.getfield 211, 3) := by decide +kernel
theorem dX4_goOn_64 : decode cX4_goOn 64 = .ok (.iconst 1, 1) := by decide +kernel
theorem dX4_goOn_65 : decode cX4_goOn 65 = .ok (.iadd, 1) := by decide +kernel
theorem dX4_goOn_66 : decode cX4_goOn 66 = .ok (.putfield 211, 3) := by decide +kernel
theorem dX4_goOn_69 : decode cX4_goOn 69 = .ok (.aload_n 0, 1) := by decide +kernel
theorem dX4_goOn_70 : decode cX4_goOn 70 = .ok (.getfield 28, 3) := by decide +kernel
theorem dX4_goOn_73 : decode cX4_goOn 73 = .ok (.getfield 111, 3) := by decide +kernel
theorem dX4_goOn_76 : decode cX4_goOn 76 = .ok (.ifCond .gt 7, 3) := by decide +kernel
theorem dX4_goOn_79 : decode cX4_goOn 79 = .ok (.aload_n 0, 1) := by decide +kernel
theorem dX4_goOn_80 : decode cX4_goOn 80 = .ok (.invokevirtual 214, 3) := by decide +kernel
theorem dX4_goOn_83 : decode cX4_goOn 83 = .ok (.return_, 1) := by decide +kernel
theorem dX4_finishWriting_0 : decode cX4_finishWriting 0 = .ok (.aload_n 0, 1) := by decide +kernel
theorem dX4_finishWriting_1 : decode cX4_finishWriting 1 = .ok (.getfield 28, 3) := by decide +kernel
theorem dX4_finishWriting_4 : decode cX4_finishWriting 4 = .ok (.iconst 0, 1) := by decide +kernel
theorem dX4_finishWriting_5 : decode cX4_finishWriting 5 = .ok (.putfield 105, 3) := by decide +kernel
theorem dX4_finishWriting_8 : decode cX4_finishWriting 8 = .ok (.aload_n 0, 1) := by decide +kernel
theorem dX4_finishWriting_9 : decode cX4_finishWriting 9 = .ok (.getfield 12, 3) := by decide +kernel
theorem dX4_finishWriting_12 : decode cX4_finishWriting 12 = .ok (.aload_n 0, 1) := by decide +kernel
theorem dX4_finishWriting_13 : decode cX4_finishWriting 13 = .ok (.getfield 28, 3) := by decide +kernel
theorem dX4_finishWriting_16 : decode cX4_finishWriting 16 = .ok (.getfield 171, 3) := by decide +kernel
theorem dX4_finishWriting_19 : decode cX4_finishWriting 19 = .ok (.iconst 2, 1) := by decide +kernel
theorem dX4_finishWriting_20 : decode cX4_finishWriting 20 = .ok (.invokevirtual 208, 3) := by decide +kernel
theorem dX4_finishWriting_23 : decode cX4_finishWriting 23 = .ok (.aload_n 0, 1) := by decide +kernel
theorem dX4_finishWriting_24 : decode cX4_finishWriting 24 = .ok (.getfield 28, 3) := by decide +kernel
theorem dX4_finishWriting_27 : decode cX4_finishWriting 27 = .ok (.getfield 163, 3) := by decide +kernel
theorem dX4_finishWriting_30 : decode cX4_finishWriting 30 = .ok (.ifCond .eq 18, 3) := by decide +kernel
theorem dX4_finishWriting_33 : decode cX4_finishWriting 33 = .ok (.aload_n 0, 1) := by decide +kernel
theorem dX4_finishWriting_34 : decode cX4_finishWriting 34 = .ok (.getfield 12, 3) := by decide +kernel
theorem dX4_finishWriting_37 : decode cX4_finishWriting 37 = .ok (.aload_n 0, 1) := by decide +kernel
theorem dX4_finishWriting_38 : decode cX4_finishWriting 38 = .ok (.getfield 28, 3) := by decide +kernel
theorem dX4_finishWriting_41 : decode cX4_finishWriting 41 = .ok (.getfield 180, 3) := by decide +kernel
theorem dX4_finishWriting_44 : decode cX4_finishWriting 44 = .ok (.iconst 0, 1) := by decide +kernel
theorem dX4_finishWriting_45 : decode cX4_finishWriting 45 = .ok (.invokevirtual 208, 3) := by decide +kernel
theorem dX4_finishWriting_48 : decode cX4_finishWriting 48 = .ok (.aload_n 0, 1) := by decide +kernel
theorem dX4_finishWriting_49 : decode cX4_finishWriting 49 = .ok (.getfield 28, 3) := by decide +kernel
theorem dX4_finishWriting_52 : decode cX4_finishWriting 52 = .ok (.invokevirtual 217, 3) := by decide +kernel
theorem dX4_finishWriting_55 : decode cX4_finishWriting 55 = .ok (.ifCond .eq 16, 3) := by decide +kernel
theorem dX4_finishWriting_58 : decode cX4_finishWriting 58 = .ok (.aload_n 0, 1) := by decide +kernel
theorem dX4_finishWriting_59 : decode cX4_finishWriting 59 = .ok (.getfield 35, 3) := by decide +kernel
theorem dX4_finishWriting_62 : decode cX4_finishWriting 62 = .ok (.dup, 1) := by decide +kernel
theorem dX4_finishWriting_63 : decode cX4_finishWriting 63 = .ok (.getfield 98, 3) := by decide +kernel
theorem dX4_finishWriting_66 : decode cX4_finishWriting 66 = .ok (.iconst 1, 1) := by decide +kernel
theorem dX4_finishWriting_67 : decode cX4_finishWriting 67 = .ok (.iadd, 1) := by decide +kernel
theorem dX4_finishWriting_68 : decode cX4_finishWriting 68 = .ok (.putfield 98, 3) := by decide +kernel
theorem dX4_finishWriting_71 : decode cX4_finishWriting 71 = .ok (.return_, 1) := by decide +kernel
theorem dX4_cutPower_0 : decode cX4_cutPower 0 = .ok (.aload_n 0, 1) := by decide +kernel
theorem dX4_cutPower_1 : decode cX4_cutPower 1 = .ok (.getfield 52, 3) := by decide +kernel
theorem dX4_cutPower_4 : decode cX4_cutPower 4 = .ok (.ifCond .eq 13, 3) := by decide +kernel
theorem dX4_cutPower_7 : decode cX4_cutPower 7 = .ok (.aload_n 0, 1) := by decide +kernel
theorem dX4_cutPower_8 : decode cX4_cutPower 8 = .ok (.invokevirtual 220, 3) := by decide +kernel
theorem dX4_cutPower_11 : decode cX4_cutPower 11 = .ok (.invokestatic 223, 3) := by decide +kernel
theorem dX4_cutPower_14 : decode cX4_cutPower 14 = .ok (.goto 5, 3) := by decide +kernel
theorem dX4_cutPower_17 : decode cX4_cutPower 17 = .ok (.bipush (-2), 2) := by decide +kernel
theorem dX4_cutPower_19 : decode cX4_cutPower 19 = .ok (.ireturn, 1) := by decide +kernel
theorem dX4_loseByCut_0 : decode cX4_loseByCut 0 = .ok (.iconst 0, 1) := by decide +kernel
theorem dX4_loseByCut_1 : decode cX4_loseByCut 1 = .ok (.istore_n 1, 1) := by decide +kernel
theorem dX4_loseByCut_2 : decode cX4_loseByCut 2 = .ok (.iload_n 1, 1) := by decide +kernel
theorem dX4_loseByCut_3 : decode cX4_loseByCut 3 = .ok (.aload_n 0, 1) := by decide +kernel
theorem dX4_loseByCut_4 : decode cX4_loseByCut 4 = .ok (.getfield 49, 3) := by decide +kernel
theorem dX4_loseByCut_7 : decode cX4_loseByCut 7 = .ok (.arraylength, 1) := by decide +kernel
theorem dX4_loseByCut_8 : decode cX4_loseByCut 8 = .ok (.if_icmp .ge 23, 3) := by decide +kernel
theorem dX4_loseByCut_11 : decode cX4_loseByCut 11 = .ok (.aload_n 0, 1) := by decide +kernel
theorem dX4_loseByCut_12 : decode cX4_loseByCut 12 = .ok (.getfield 49, 3) := by decide +kernel
theorem dX4_loseByCut_15 : decode cX4_loseByCut 15 = .ok (.iload_n 1, 1) := by decide +kernel
theorem dX4_loseByCut_16 : decode cX4_loseByCut 16 = .ok (.aload_n 0, 1) := by decide +kernel
theorem dX4_loseByCut_17 : decode cX4_loseByCut 17 = .ok (.getfield 12, 3) := by decide +kernel
theorem dX4_loseByCut_20 : decode cX4_loseByCut 20 = .ok (.iload_n 1, 1) := by decide +kernel
theorem dX4_loseByCut_21 : decode cX4_loseByCut 21 = .ok (.invokevirtual 228, 3) := by decide +kernel
theorem dX4_loseByCut_24 : decode cX4_loseByCut 24 = .ok (.iastore, 1) := by decide +kernel
theorem dX4_loseByCut_25 : decode cX4_loseByCut 25 = .ok (.iinc 1 1, 3) := by decide +kernel
theorem dX4_loseByCut_28 : decode cX4_loseByCut 28 = .ok (.goto (-26), 3) := by decide +kernel
theorem dX4_loseByCut_31 : decode cX4_loseByCut 31 = .ok (.aload_n 0, 1) := by decide +kernel
theorem dX4_loseByCut_32 : decode cX4_loseByCut 32 = .ok (.iconst 0, 1) := by decide +kernel
theorem dX4_loseByCut_33 : decode cX4_loseByCut 33 = .ok (.putfield 52, 3) := by decide +kernel
theorem dX4_loseByCut_36 : decode cX4_loseByCut 36 = .ok (.aload_n 0, 1) := by decide +kernel
theorem dX4_loseByCut_37 : decode cX4_loseByCut 37 = .ok (.getfield 35, 3) := by decide +kernel
theorem dX4_loseByCut_40 : decode cX4_loseByCut 40 = .ok (.dup, 1) := by decide +kernel
theorem dX4_loseByCut_41 : decode cX4_loseByCut 41 = .ok (.getfield 231, 3) := by decide +kernel
theorem dX4_loseByCut_44 : decode cX4_loseByCut 44 = .ok (.iconst 1, 1) := by decide +kernel
theorem dX4_loseByCut_45 : decode cX4_loseByCut 45 = .ok (.iadd, 1) := by decide +kernel
theorem dX4_loseByCut_46 : decode cX4_loseByCut 46 = .ok (.putfield 231, 3) := by decide +kernel
theorem dX4_loseByCut_49 : decode cX4_loseByCut 49 = .ok (.aload_n 0, 1) := by decide +kernel
theorem dX4_loseByCut_50 : decode cX4_loseByCut 50 = .ok (.getfield 35, 3) := by decide +kernel
theorem dX4_loseByCut_53 : decode cX4_loseByCut 53 = .ok (.dup, 1) := by decide +kernel
theorem dX4_loseByCut_54 : decode cX4_loseByCut 54 = .ok (.getfield 234, 3) := by decide +kernel
theorem dX4_loseByCut_57 : decode cX4_loseByCut 57 = .ok (.aload_n 0, 1) := by decide +kernel
theorem dX4_loseByCut_58 : decode cX4_loseByCut 58 = .ok (.getfield 21, 3) := by decide +kernel
theorem dX4_loseByCut_61 : decode cX4_loseByCut 61 = .ok (.invokevirtual 87, 3) := by decide +kernel
theorem dX4_loseByCut_64 : decode cX4_loseByCut 64 = .ok (.aload_n 0, 1) := by decide +kernel
theorem dX4_loseByCut_65 : decode cX4_loseByCut 65 = .ok (.getfield 28, 3) := by decide +kernel
theorem dX4_loseByCut_68 : decode cX4_loseByCut 68 = .ok (.getfield 105, 3) := by decide +kernel
theorem dX4_loseByCut_71 : decode cX4_loseByCut 71 = .ok (.ifCond .eq 7, 3) := by decide +kernel
theorem dX4_loseByCut_74 : decode cX4_loseByCut 74 = .ok (.iconst 1, 1) := by decide +kernel
theorem dX4_loseByCut_75 : decode cX4_loseByCut 75 = .ok (.goto 4, 3) := by decide +kernel
theorem dX4_loseByCut_78 : decode cX4_loseByCut 78 = .ok (.iconst 0, 1) := by decide +kernel
theorem dX4_loseByCut_79 : decode cX4_loseByCut 79 = .ok (.iadd, 1) := by decide +kernel
theorem dX4_loseByCut_80 : decode cX4_loseByCut 80 = .ok (.iadd, 1) := by decide +kernel
theorem dX4_loseByCut_81 : decode cX4_loseByCut 81 = .ok (.putfield 234, 3) := by decide +kernel
theorem dX4_loseByCut_84 : decode cX4_loseByCut 84 = .ok (.aload_n 0, 1) := by decide +kernel
theorem dX4_loseByCut_85 : decode cX4_loseByCut 85 = .ok (.getfield 21, 3) := by decide +kernel
theorem dX4_loseByCut_88 : decode cX4_loseByCut 88 = .ok (.invokevirtual 237, 3) := by decide +kernel
theorem dX4_loseByCut_91 : decode cX4_loseByCut 91 = .ok (.aload_n 0, 1) := by decide +kernel
theorem dX4_loseByCut_92 : decode cX4_loseByCut 92 = .ok (.getfield 28, 3) := by decide +kernel
theorem dX4_loseByCut_95 : decode cX4_loseByCut 95 = .ok (.getfield 105, 3) := by decide +kernel
theorem dX4_loseByCut_98 : decode cX4_loseByCut 98 = .ok (.ifCond .eq 7, 3) := by decide +kernel
theorem dX4_loseByCut_101 : decode cX4_loseByCut 101 = .ok (.aload_n 0, 1) := by decide +kernel
theorem dX4_loseByCut_102 : decode cX4_loseByCut 102 = .ok (.invokevirtual 240, 3) := by decide +kernel
theorem dX4_loseByCut_105 : decode cX4_loseByCut 105 = .ok (.iconst 0, 1) := by decide +kernel
theorem dX4_loseByCut_106 : decode cX4_loseByCut 106 = .ok (.istore_n 1, 1) := by decide +kernel
theorem dX4_loseByCut_107 : decode cX4_loseByCut 107 = .ok (.iconst 0, 1) := by decide +kernel
theorem dX4_loseByCut_108 : decode cX4_loseByCut 108 = .ok (.istore_n 2, 1) := by decide +kernel
theorem dX4_loseByCut_109 : decode cX4_loseByCut 109 = .ok (.iload_n 2, 1) := by decide +kernel
theorem dX4_loseByCut_110 : decode cX4_loseByCut 110 = .ok (.aload_n 0, 1) := by decide +kernel
theorem dX4_loseByCut_111 : decode cX4_loseByCut 111 = .ok (.getfield 49, 3) := by decide +kernel
theorem dX4_loseByCut_114 : decode cX4_loseByCut 114 = .ok (.arraylength, 1) := by decide +kernel
theorem dX4_loseByCut_115 : decode cX4_loseByCut 115 = .ok (.if_icmp .ge 41, 3) := by decide +kernel
theorem dX4_loseByCut_118 : decode cX4_loseByCut 118 = .ok (.aload_n 0, 1) := by decide +kernel
theorem dX4_loseByCut_119 : decode cX4_loseByCut 119 = .ok (.getfield 49, 3) := by decide +kernel
theorem dX4_loseByCut_122 : decode cX4_loseByCut 122 = .ok (.iload_n 2, 1) := by decide +kernel
theorem dX4_loseByCut_123 : decode cX4_loseByCut 123 = .ok (.iaload, 1) := by decide +kernel
theorem dX4_loseByCut_124 : decode cX4_loseByCut 124 = .ok (.ifCond .le 26, 3) := by decide +kernel
theorem dX4_loseByCut_127 : decode cX4_loseByCut 127 = .ok (.aload_n 0, 1) := by decide +kernel
theorem dX4_loseByCut_128 : decode cX4_loseByCut 128 = .ok (.getfield 12, 3) := by decide +kernel
theorem dX4_loseByCut_131 : decode cX4_loseByCut 131 = .ok (.iload_n 2, 1) := by decide +kernel
theorem dX4_loseByCut_132 : decode cX4_loseByCut 132 = .ok (.invokevirtual 228, 3) := by decide +kernel
theorem dX4_loseByCut_135 : decode cX4_loseByCut 135 = .ok (.aload_n 0, 1) := by decide +kernel
theorem dX4_loseByCut_136 : decode cX4_loseByCut 136 = .ok (.getfield 49, 3) := by decide +kernel
theorem dX4_loseByCut_139 : decode cX4_loseByCut 139 = .ok (.iload_n 2, 1) := by decide +kernel
theorem dX4_loseByCut_140 : decode cX4_loseByCut 140 = .ok (.iaload, 1) := by decide +kernel
theorem dX4_loseByCut_141 : decode cX4_loseByCut 141 = .ok (.if_icmp .eq 9, 3) := by decide +kernel
theorem dX4_loseByCut_144 : decode cX4_loseByCut 144 = .ok (.iload_n 1, 1) := by decide +kernel
theorem dX4_loseByCut_145 : decode cX4_loseByCut 145 = .ok (.iconst 1, 1) := by decide +kernel
theorem dX4_loseByCut_146 : decode cX4_loseByCut 146 = .ok (.iload_n 2, 1) := by decide +kernel
theorem dX4_loseByCut_147 : decode cX4_loseByCut 147 = .ok (.ishl, 1) := by decide +kernel
theorem dX4_loseByCut_148 : decode cX4_loseByCut 148 = .ok (.ior, 1) := by decide +kernel
theorem dX4_loseByCut_149 : decode cX4_loseByCut 149 = .ok (.istore_n 1, 1) := by decide +kernel
theorem dX4_loseByCut_150 : decode cX4_loseByCut 150 = .ok (.iinc 2 1, 3) := by decide +kernel
theorem dX4_loseByCut_153 : decode cX4_loseByCut 153 = .ok (.goto (-44), 3) := by decide +kernel
theorem dX4_loseByCut_156 : decode cX4_loseByCut 156 = .ok (.aload_n 0, 1) := by decide +kernel
theorem dX4_loseByCut_157 : decode cX4_loseByCut 157 = .ok (.getfield 35, 3) := by decide +kernel
theorem dX4_loseByCut_160 : decode cX4_loseByCut 160 = .ok (.dup, 1) := by decide +kernel
theorem dX4_loseByCut_161 : decode cX4_loseByCut 161 = .ok (.getfield 243, 3) := by decide +kernel
theorem dX4_loseByCut_164 : decode cX4_loseByCut 164 = .ok (.iload_n 1, 1) := by decide +kernel
theorem dX4_loseByCut_165 : decode cX4_loseByCut 165 = .ok (.invokestatic 223, 3) := by decide +kernel
theorem dX4_loseByCut_168 : decode cX4_loseByCut 168 = .ok (.iadd, 1) := by decide +kernel
theorem dX4_loseByCut_169 : decode cX4_loseByCut 169 = .ok (.putfield 243, 3) := by decide +kernel
theorem dX4_loseByCut_172 : decode cX4_loseByCut 172 = .ok (.iload_n 1, 1) := by decide +kernel
theorem dX4_loseByCut_173 : decode cX4_loseByCut 173 = .ok (.ireturn, 1) := by decide +kernel
theorem dX4_tearWriting_0 : decode cX4_tearWriting 0 = .ok (.aload_n 0, 1) := by decide +kernel
theorem dX4_tearWriting_1 : decode cX4_tearWriting 1 = .ok (.getfield 28, 3) := by decide +kernel
theorem dX4_tearWriting_4 : decode cX4_tearWriting 4 = .ok (.iconst 0, 1) := by decide +kernel
theorem dX4_tearWriting_5 : decode cX4_tearWriting 5 = .ok (.putfield 105, 3) := by decide +kernel
theorem dX4_tearWriting_8 : decode cX4_tearWriting 8 = .ok (.aload_n 0, 1) := by decide +kernel
theorem dX4_tearWriting_9 : decode cX4_tearWriting 9 = .ok (.getfield 12, 3) := by decide +kernel
theorem dX4_tearWriting_12 : decode cX4_tearWriting 12 = .ok (.aload_n 0, 1) := by decide +kernel
theorem dX4_tearWriting_13 : decode cX4_tearWriting 13 = .ok (.getfield 28, 3) := by decide +kernel
theorem dX4_tearWriting_16 : decode cX4_tearWriting 16 = .ok (.getfield 171, 3) := by decide +kernel
theorem dX4_tearWriting_19 : decode cX4_tearWriting 19 = .ok (.iconst 3, 1) := by decide +kernel
theorem dX4_tearWriting_20 : decode cX4_tearWriting 20 = .ok (.invokevirtual 208, 3) := by decide +kernel
theorem dX4_tearWriting_23 : decode cX4_tearWriting 23 = .ok (.aload_n 0, 1) := by decide +kernel
theorem dX4_tearWriting_24 : decode cX4_tearWriting 24 = .ok (.getfield 28, 3) := by decide +kernel
theorem dX4_tearWriting_27 : decode cX4_tearWriting 27 = .ok (.getfield 163, 3) := by decide +kernel
theorem dX4_tearWriting_30 : decode cX4_tearWriting 30 = .ok (.ifCond .eq 28, 3) := by decide +kernel
theorem dX4_tearWriting_33 : decode cX4_tearWriting 33 = .ok (.aload_n 0, 1) := by decide +kernel
theorem dX4_tearWriting_34 : decode cX4_tearWriting 34 = .ok (.getfield 28, 3) := by decide +kernel
theorem dX4_tearWriting_37 : decode cX4_tearWriting 37 = .ok (.invokevirtual 246, 3) := by decide +kernel
theorem dX4_tearWriting_40 : decode cX4_tearWriting 40 = .ok (.ifCond .eq 18, 3) := by decide +kernel
theorem dX4_tearWriting_43 : decode cX4_tearWriting 43 = .ok (.aload_n 0, 1) := by decide +kernel
theorem dX4_tearWriting_44 : decode cX4_tearWriting 44 = .ok (.getfield 12, 3) := by decide +kernel
theorem dX4_tearWriting_47 : decode cX4_tearWriting 47 = .ok (.aload_n 0, 1) := by decide +kernel
theorem dX4_tearWriting_48 : decode cX4_tearWriting 48 = .ok (.getfield 28, 3) := by decide +kernel
theorem dX4_tearWriting_51 : decode cX4_tearWriting 51 = .ok (.getfield 177, 3) := by decide +kernel
theorem dX4_tearWriting_54 : decode cX4_tearWriting 54 = .ok (.iconst 3, 1) := by decide +kernel
theorem dX4_tearWriting_55 : decode cX4_tearWriting 55 = .ok (.invokevirtual 208, 3) := by decide +kernel
theorem dX4_tearWriting_58 : decode cX4_tearWriting 58 = .ok (.aload_n 0, 1) := by decide +kernel
theorem dX4_tearWriting_59 : decode cX4_tearWriting 59 = .ok (.getfield 12, 3) := by decide +kernel
theorem dX4_tearWriting_62 : decode cX4_tearWriting 62 = .ok (.aload_n 0, 1) := by decide +kernel
theorem dX4_tearWriting_63 : decode cX4_tearWriting 63 = .ok (.getfield 28, 3) := by decide +kernel
theorem dX4_tearWriting_66 : decode cX4_tearWriting 66 = .ok (.getfield 180, 3) := by decide +kernel
theorem dX4_tearWriting_69 : decode cX4_tearWriting 69 = .ok (.invokevirtual 198, 3) := by decide +kernel
theorem dX4_tearWriting_72 : decode cX4_tearWriting 72 = .ok (.iconst 1, 1) := by decide +kernel
theorem dX4_tearWriting_73 : decode cX4_tearWriting 73 = .ok (.if_icmp .ne 18, 3) := by decide +kernel
theorem dX4_tearWriting_76 : decode cX4_tearWriting 76 = .ok (.aload_n 0, 1) := by decide +kernel
theorem dX4_tearWriting_77 : decode cX4_tearWriting 77 = .ok (.getfield 12, 3) := by decide +kernel
theorem dX4_tearWriting_80 : decode cX4_tearWriting 80 = .ok (.aload_n 0, 1) := by decide +kernel
theorem dX4_tearWriting_81 : decode cX4_tearWriting 81 = .ok (.getfield 28, 3) := by decide +kernel
theorem dX4_tearWriting_84 : decode cX4_tearWriting 84 = .ok (.getfield 180, 3) := by decide +kernel
theorem dX4_tearWriting_87 : decode cX4_tearWriting 87 = .ok (.iconst 0, 1) := by decide +kernel
theorem dX4_tearWriting_88 : decode cX4_tearWriting 88 = .ok (.invokevirtual 208, 3) := by decide +kernel
theorem dX4_tearWriting_91 : decode cX4_tearWriting 91 = .ok (.return_, 1) := by decide +kernel
theorem dX4_restorePower_0 : decode cX4_restorePower 0 = .ok (.aload_n 0, 1) := by decide +kernel
theorem dX4_restorePower_1 : decode cX4_restorePower 1 = .ok (.getfield 52, 3) := by decide +kernel
theorem dX4_restorePower_4 : decode cX4_restorePower 4 = .ok (.ifCond .eq 6, 3) := by decide +kernel
theorem dX4_restorePower_7 : decode cX4_restorePower 7 = .ok (.bipush (-2), 2) := by decide +kernel
theorem dX4_restorePower_9 : decode cX4_restorePower 9 = .ok (.ireturn, 1) := by decide +kernel
theorem dX4_restorePower_10 : decode cX4_restorePower 10 = .ok (.aload_n 0, 1) := by decide +kernel
theorem dX4_restorePower_11 : decode cX4_restorePower 11 = .ok (.iconst 1, 1) := by decide +kernel
theorem dX4_restorePower_12 : decode cX4_restorePower 12 = .ok (.putfield 52, 3) := by decide +kernel
theorem dX4_restorePower_15 : decode cX4_restorePower 15 = .ok (.iconst 0, 1) := by decide +kernel
theorem dX4_restorePower_16 : decode cX4_restorePower 16 = .ok (.istore_n 1, 1) := by decide +kernel
theorem dX4_restorePower_17 : decode cX4_restorePower 17 = .ok (.iload_n 1, 1) := by decide +kernel
theorem dX4_restorePower_18 : decode cX4_restorePower 18 = .ok (.iconst 2, 1) := by decide +kernel
theorem dX4_restorePower_19 : decode cX4_restorePower 19 = .ok (.if_icmp .ge 34, 3) := by decide +kernel
theorem dX4_restorePower_22 : decode cX4_restorePower 22 = .ok (.bipush 16, 2) := by decide +kernel
theorem dX4_restorePower_24 : decode cX4_restorePower 24 = .ok (.istore_n 2, 1) := by decide +kernel
theorem dX4_restorePower_25 : decode cX4_restorePower 25 = .ok (.iload_n 2, 1) := by decide +kernel
theorem dX4_restorePower_26 : decode cX4_restorePower 26 = .ok (.bipush 24, 2) := by decide +kernel
theorem dX4_restorePower_28 : decode cX4_restorePower 28 = .ok (.if_icmp .ge 19, 3) := by decide +kernel
theorem dX4_restorePower_31 : decode cX4_restorePower 31 = .ok (.aload_n 0, 1) := by decide +kernel
theorem dX4_restorePower_32 : decode cX4_restorePower 32 = .ok (.iload_n 1, 1) := by decide +kernel
theorem dX4_restorePower_33 : decode cX4_restorePower 33 = .ok (.iload_n 2, 1) := by decide +kernel
theorem dX4_restorePower_34 : decode cX4_restorePower 34 = .ok (.invokestatic 168, 3) := by decide +kernel
theorem dX4_restorePower_37 : decode cX4_restorePower 37 = .ok (.iconst 0, 1) := by decide +kernel
theorem dX4_restorePower_38 : decode cX4_restorePower 38 = .ok (.invokevirtual 249, 3) := by decide +kernel
theorem dX4_restorePower_41 : decode cX4_restorePower 41 = .ok (.iinc 2 1, 3) := by decide +kernel
theorem dX4_restorePower_44 : decode cX4_restorePower 44 = .ok (.goto (-19), 3) := by decide +kernel
theorem dX4_restorePower_47 : decode cX4_restorePower 47 = .ok (.iinc 1 1, 3) := by decide +kernel
theorem dX4_restorePower_50 : decode cX4_restorePower 50 = .ok (.goto (-33), 3) := by decide +kernel
theorem dX4_restorePower_53 : decode cX4_restorePower 53 = .ok (.aload_n 0, 1) := by decide +kernel
theorem dX4_restorePower_54 : decode cX4_restorePower 54 = .ok (.getfield 21, 3) := by decide +kernel
theorem dX4_restorePower_57 : decode cX4_restorePower 57 = .ok (.invokevirtual 87, 3) := by decide +kernel
theorem dX4_restorePower_60 : decode cX4_restorePower 60 = .ok (.ireturn, 1) := by decide +kernel
theorem dX4_askForCopy_0 : decode cX4_askForCopy 0 = .ok (.aload_n 0, 1) := by decide +kernel
theorem dX4_askForCopy_1 : decode cX4_askForCopy 1 = .ok (.getfield 12, 3) := by decide +kernel
theorem dX4_askForCopy_4 : decode cX4_askForCopy 4 = .ok (.iload_n 1, 1) := by decide +kernel
theorem dX4_askForCopy_5 : decode cX4_askForCopy 5 = .ok (.invokevirtual 252, 3) := by decide +kernel
theorem dX4_askForCopy_8 : decode cX4_askForCopy 8 = .ok (.ifCond .eq 35, 3) := by decide +kernel
theorem dX4_askForCopy_11 : decode cX4_askForCopy 11 = .ok (.aload_n 0, 1) := by decide +kernel
theorem dX4_askForCopy_12 : decode cX4_askForCopy 12 = .ok (.getfield 21, 3) := by decide +kernel
theorem dX4_askForCopy_15 : decode cX4_askForCopy 15 = .ok (.aload_n 0, 1) := by decide +kernel
theorem dX4_askForCopy_16 : decode cX4_askForCopy 16 = .ok (.getfield 12, 3) := by decide +kernel
theorem dX4_askForCopy_19 : decode cX4_askForCopy 19 = .ok (.iload_n 1, 1) := by decide +kernel
theorem dX4_askForCopy_20 : decode cX4_askForCopy 20 = .ok (.invokevirtual 256, 3) := by decide +kernel
theorem dX4_askForCopy_23 : decode cX4_askForCopy 23 = .ok (.aload_n 0, 1) := by decide +kernel
theorem dX4_askForCopy_24 : decode cX4_askForCopy 24 = .ok (.getfield 12, 3) := by decide +kernel
theorem dX4_askForCopy_27 : decode cX4_askForCopy 27 = .ok (.iload_n 1, 1) := by decide +kernel
theorem dX4_askForCopy_28 : decode cX4_askForCopy 28 = .ok (.invokevirtual 257, 3) := by decide +kernel
theorem dX4_askForCopy_31 : decode cX4_askForCopy 31 = .ok (.iload_n 2, 1) := by decide +kernel
theorem dX4_askForCopy_32 : decode cX4_askForCopy 32 = .ok (.aload_n 0, 1) := by decide +kernel
theorem dX4_askForCopy_33 : decode cX4_askForCopy 33 = .ok (.getfield 12, 3) := by decide +kernel
theorem dX4_askForCopy_36 : decode cX4_askForCopy 36 = .ok (.iload_n 1, 1) := by decide +kernel
theorem dX4_askForCopy_37 : decode cX4_askForCopy 37 = .ok (.invokevirtual 149, 3) := by decide +kernel
theorem dX4_askForCopy_40 : decode cX4_askForCopy 40 = .ok (.invokevirtual 91, 3) := by decide +kernel
theorem dX4_askForCopy_43 : decode cX4_askForCopy 43 = .ok (.return_, 1) := by decide +kernel
theorem dX4_turnToOther_0 : decode cX4_turnToOther 0 = .ok (.iconst 1, 1) := by decide +kernel
theorem dX4_turnToOther_1 : decode cX4_turnToOther 1 = .ok (.aload_n 0, 1) := by decide +kernel
theorem dX4_turnToOther_2 : decode cX4_turnToOther 2 = .ok (.getfield 76, 3) := by decide +kernel
theorem dX4_turnToOther_5 : decode cX4_turnToOther 5 = .ok (.isub, 1) := by decide +kernel
theorem dX4_turnToOther_6 : decode cX4_turnToOther 6 = .ok (.istore_n 1, 1) := by decide +kernel
theorem dX4_turnToOther_7 : decode cX4_turnToOther 7 = .ok (.aload_n 0, 1) := by decide +kernel
theorem dX4_turnToOther_8 : decode cX4_turnToOther 8 = .ok (.getfield 52, 3) := by decide +kernel
theorem dX4_turnToOther_11 : decode cX4_turnToOther 11 = .ok (.ifCond .eq 24, 3) := by decide +kernel
theorem dX4_turnToOther_14 : decode cX4_turnToOther 14 = .ok (.aload_n 0, 1) := by decide +kernel
theorem dX4_turnToOther_15 : decode cX4_turnToOther 15 = .ok (.getfield 28, 3) := by decide +kernel
theorem dX4_turnToOther_18 : decode cX4_turnToOther 18 = .ok (.getfield 105, 3) := by decide +kernel
theorem dX4_turnToOther_21 : decode cX4_turnToOther 21 = .ok (.ifCond .ne 14, 3) := by decide +kernel
theorem dX4_turnToOther_24 : decode cX4_turnToOther 24 = .ok (.aload_n 0, 1) := by decide +kernel
theorem dX4_turnToOther_25 : decode cX4_turnToOther 25 = .ok (.getfield 12, 3) := by decide +kernel
theorem dX4_turnToOther_28 : decode cX4_turnToOther 28 = .ok (.iload_n 1, 1) := by decide +kernel
theorem dX4_turnToOther_29 : decode cX4_turnToOther 29 = .ok (.invokevirtual 258, 3) := by decide +kernel
theorem dX4_turnToOther_32 : decode cX4_turnToOther 32 = .ok (.ifCond .ne 6, 3) := by decide +kernel
theorem dX4_turnToOther_35 : decode cX4_turnToOther 35 = .ok (.bipush (-2), 2) := by decide +kernel
theorem dX4_turnToOther_37 : decode cX4_turnToOther 37 = .ok (.ireturn, 1) := by decide +kernel
theorem dX4_turnToOther_38 : decode cX4_turnToOther 38 = .ok (.aload_n 0, 1) := by decide +kernel
theorem dX4_turnToOther_39 : decode cX4_turnToOther 39 = .ok (.iload_n 1, 1) := by decide +kernel
theorem dX4_turnToOther_40 : decode cX4_turnToOther 40 = .ok (.putfield 76, 3) := by decide +kernel
theorem dX4_turnToOther_43 : decode cX4_turnToOther 43 = .ok (.aload_n 0, 1) := by decide +kernel
theorem dX4_turnToOther_44 : decode cX4_turnToOther 44 = .ok (.iconst 0, 1) := by decide +kernel
theorem dX4_turnToOther_45 : decode cX4_turnToOther 45 = .ok (.putfield 80, 3) := by decide +kernel
theorem dX4_turnToOther_48 : decode cX4_turnToOther 48 = .ok (.iload_n 1, 1) := by decide +kernel
theorem dX4_turnToOther_49 : decode cX4_turnToOther 49 = .ok (.ireturn, 1) := by decide +kernel
theorem dX4_cleanBlock_0 : decode cX4_cleanBlock 0 = .ok (.iload_n 1, 1) := by decide +kernel
theorem dX4_cleanBlock_1 : decode cX4_cleanBlock 1 = .ok (.iconst 0, 1) := by decide +kernel
theorem dX4_cleanBlock_2 : decode cX4_cleanBlock 2 = .ok (.iconst 1, 1) := by decide +kernel
theorem dX4_cleanBlock_3 : decode cX4_cleanBlock 3 = .ok (.invokestatic 83, 3) := by decide +kernel
theorem dX4_cleanBlock_6 : decode cX4_cleanBlock 6 = .ok (.ifCond .ne 5, 3) := by decide +kernel
theorem dX4_cleanBlock_9 : decode cX4_cleanBlock 9 = .ok (.iconst (-1), 1) := by decide +kernel
theorem dX4_cleanBlock_10 : decode cX4_cleanBlock 10 = .ok (.ireturn, 1) := by decide +kernel
theorem dX4_cleanBlock_11 : decode cX4_cleanBlock 11 = .ok (.aload_n 0, 1) := by decide +kernel
theorem dX4_cleanBlock_12 : decode cX4_cleanBlock 12 = .ok (.getfield 52, 3) := by decide +kernel
theorem dX4_cleanBlock_15 : decode cX4_cleanBlock 15 = .ok (.ifCond .eq 11, 3) := by decide +kernel
theorem dX4_cleanBlock_18 : decode cX4_cleanBlock 18 = .ok (.iload_n 1, 1) := by decide +kernel
theorem dX4_cleanBlock_19 : decode cX4_cleanBlock 19 = .ok (.aload_n 0, 1) := by decide +kernel
theorem dX4_cleanBlock_20 : decode cX4_cleanBlock 20 = .ok (.getfield 76, 3) := by decide +kernel
theorem dX4_cleanBlock_23 : decode cX4_cleanBlock 23 = .ok (.if_icmp .ne 6, 3) := by decide +kernel
theorem dX4_cleanBlock_26 : decode cX4_cleanBlock 26 = .ok (.bipush (-2), 2) := by decide +kernel
theorem dX4_cleanBlock_28 : decode cX4_cleanBlock 28 = .ok (.ireturn, 1) := by decide +kernel
theorem dX4_cleanBlock_29 : decode cX4_cleanBlock 29 = .ok (.aload_n 0, 1) := by decide +kernel
theorem dX4_cleanBlock_30 : decode cX4_cleanBlock 30 = .ok (.getfield 12, 3) := by decide +kernel
theorem dX4_cleanBlock_33 : decode cX4_cleanBlock 33 = .ok (.iload_n 1, 1) := by decide +kernel
theorem dX4_cleanBlock_34 : decode cX4_cleanBlock 34 = .ok (.invokevirtual 261, 3) := by decide +kernel
theorem dX4_cleanBlock_37 : decode cX4_cleanBlock 37 = .ok (.istore_n 2, 1) := by decide +kernel
theorem dX4_cleanBlock_38 : decode cX4_cleanBlock 38 = .ok (.aload_n 0, 1) := by decide +kernel
theorem dX4_cleanBlock_39 : decode cX4_cleanBlock 39 = .ok (.getfield 21, 3) := by decide +kernel
theorem dX4_cleanBlock_42 : decode cX4_cleanBlock 42 = .ok (.invokevirtual 87, 3) := by decide +kernel
theorem dX4_cleanBlock_45 : decode cX4_cleanBlock 45 = .ok (.iload_n 2, 1) := by decide +kernel
theorem dX4_cleanBlock_46 : decode cX4_cleanBlock 46 = .ok (.iadd, 1) := by decide +kernel
theorem dX4_cleanBlock_47 : decode cX4_cleanBlock 47 = .ok (.bipush 8, 2) := by decide +kernel
theorem dX4_cleanBlock_49 : decode cX4_cleanBlock 49 = .ok (.if_icmp .le 6, 3) := by decide +kernel
theorem dX4_cleanBlock_52 : decode cX4_cleanBlock 52 = .ok (.bipush (-3), 2) := by decide +kernel
theorem dX4_cleanBlock_54 : decode cX4_cleanBlock 54 = .ok (.ireturn, 1) := by decide +kernel
theorem dX4_cleanBlock_55 : decode cX4_cleanBlock 55 = .ok (.iconst 0, 1) := by decide +kernel
theorem dX4_cleanBlock_56 : decode cX4_cleanBlock 56 = .ok (.istore_n 3, 1) := by decide +kernel
theorem dX4_cleanBlock_57 : decode cX4_cleanBlock 57 = .ok (.iload_n 3, 1) := by decide +kernel
theorem dX4_cleanBlock_58 : decode cX4_cleanBlock 58 = .ok (.bipush 24, 2) := by decide +kernel
theorem dX4_cleanBlock_60 : decode cX4_cleanBlock 60 = .ok (.if_icmp .ge 19, 3) := by decide +kernel
theorem dX4_cleanBlock_63 : decode cX4_cleanBlock 63 = .ok (.aload_n 0, 1) := by decide +kernel
theorem dX4_cleanBlock_64 : decode cX4_cleanBlock 64 = .ok (.iload_n 1, 1) := by decide +kernel
theorem dX4_cleanBlock_65 : decode cX4_cleanBlock 65 = .ok (.iload_n 3, 1) := by decide +kernel
theorem dX4_cleanBlock_66 : decode cX4_cleanBlock 66 = .ok (.invokestatic 168, 3) := by decide +kernel
theorem dX4_cleanBlock_69 : decode cX4_cleanBlock 69 = .ok (.iconst 3, 1) := by decide +kernel
theorem dX4_cleanBlock_70 : decode cX4_cleanBlock 70 = .ok (.invokevirtual 249, 3) := by decide +kernel
theorem dX4_cleanBlock_73 : decode cX4_cleanBlock 73 = .ok (.iinc 3 1, 3) := by decide +kernel
theorem dX4_cleanBlock_76 : decode cX4_cleanBlock 76 = .ok (.goto (-19), 3) := by decide +kernel
theorem dX4_cleanBlock_79 : decode cX4_cleanBlock 79 = .ok (.iload_n 2, 1) := by decide +kernel
theorem dX4_cleanBlock_80 : decode cX4_cleanBlock 80 = .ok (.ireturn, 1) := by decide +kernel
theorem dX4_eraseBlock_0 : decode cX4_eraseBlock 0 = .ok (.iload_n 1, 1) := by decide +kernel
theorem dX4_eraseBlock_1 : decode cX4_eraseBlock 1 = .ok (.iconst 0, 1) := by decide +kernel
theorem dX4_eraseBlock_2 : decode cX4_eraseBlock 2 = .ok (.iconst 1, 1) := by decide +kernel
theorem dX4_eraseBlock_3 : decode cX4_eraseBlock 3 = .ok (.invokestatic 83, 3) := by decide +kernel
theorem dX4_eraseBlock_6 : decode cX4_eraseBlock 6 = .ok (.ifCond .ne 5, 3) := by decide +kernel
theorem dX4_eraseBlock_9 : decode cX4_eraseBlock 9 = .ok (.iconst (-1), 1) := by decide +kernel
theorem dX4_eraseBlock_10 : decode cX4_eraseBlock 10 = .ok (.ireturn, 1) := by decide +kernel
theorem dX4_eraseBlock_11 : decode cX4_eraseBlock 11 = .ok (.aload_n 0, 1) := by decide +kernel
theorem dX4_eraseBlock_12 : decode cX4_eraseBlock 12 = .ok (.getfield 52, 3) := by decide +kernel
theorem dX4_eraseBlock_15 : decode cX4_eraseBlock 15 = .ok (.ifCond .eq 22, 3) := by decide +kernel
theorem dX4_eraseBlock_18 : decode cX4_eraseBlock 18 = .ok (.iload_n 1, 1) := by decide +kernel
theorem dX4_eraseBlock_19 : decode cX4_eraseBlock 19 = .ok (.aload_n 0, 1) := by decide +kernel
theorem dX4_eraseBlock_20 : decode cX4_eraseBlock 20 = .ok (.getfield 76, 3) := by decide +kernel
theorem dX4_eraseBlock_23 : decode cX4_eraseBlock 23 = .ok (.if_icmp .eq 14, 3) := by decide +kernel
theorem dX4_eraseBlock_26 : decode cX4_eraseBlock 26 = .ok (.aload_n 0, 1) := by decide +kernel
theorem dX4_eraseBlock_27 : decode cX4_eraseBlock 27 = .ok (.getfield 12, 3) := by decide +kernel
theorem dX4_eraseBlock_30 : decode cX4_eraseBlock 30 = .ok (.iload_n 1, 1) := by decide +kernel
theorem dX4_eraseBlock_31 : decode cX4_eraseBlock 31 = .ok (.invokevirtual 261, 3) := by decide +kernel
theorem dX4_eraseBlock_34 : decode cX4_eraseBlock 34 = .ok (.ifCond .le 6, 3) := by decide +kernel
theorem dX4_eraseBlock_37 : decode cX4_eraseBlock 37 = .ok (.bipush (-2), 2) := by decide +kernel
theorem dX4_eraseBlock_39 : decode cX4_eraseBlock 39 = .ok (.ireturn, 1) := by decide +kernel
theorem dX4_eraseBlock_40 : decode cX4_eraseBlock 40 = .ok (.aload_n 0, 1) := by decide +kernel
theorem dX4_eraseBlock_41 : decode cX4_eraseBlock 41 = .ok (.getfield 12, 3) := by decide +kernel
theorem dX4_eraseBlock_44 : decode cX4_eraseBlock 44 = .ok (.iload_n 1, 1) := by decide +kernel
theorem dX4_eraseBlock_45 : decode cX4_eraseBlock 45 = .ok (.invokevirtual 264, 3) := by decide +kernel
theorem dX4_eraseBlock_48 : decode cX4_eraseBlock 48 = .ok (.aload_n 0, 1) := by decide +kernel
theorem dX4_eraseBlock_49 : decode cX4_eraseBlock 49 = .ok (.getfield 46, 3) := by decide +kernel
theorem dX4_eraseBlock_52 : decode cX4_eraseBlock 52 = .ok (.iload_n 1, 1) := by decide +kernel
theorem dX4_eraseBlock_53 : decode cX4_eraseBlock 53 = .ok (.invokestatic 156, 3) := by decide +kernel
theorem dX4_eraseBlock_56 : decode cX4_eraseBlock 56 = .ok (.iconst 1, 1) := by decide +kernel
theorem dX4_eraseBlock_57 : decode cX4_eraseBlock 57 = .ok (.iadd, 1) := by decide +kernel
theorem dX4_eraseBlock_58 : decode cX4_eraseBlock 58 = .ok (.istore_n 2, 1) := by decide +kernel
theorem dX4_eraseBlock_59 : decode cX4_eraseBlock 59 = .ok (.aload_n 0, 1) := by decide +kernel
theorem dX4_eraseBlock_60 : decode cX4_eraseBlock 60 = .ok (.getfield 46, 3) := by decide +kernel
theorem dX4_eraseBlock_63 : decode cX4_eraseBlock 63 = .ok (.iload_n 1, 1) := by decide +kernel
theorem dX4_eraseBlock_64 : decode cX4_eraseBlock 64 = .ok (.iload_n 2, 1) := by decide +kernel
theorem dX4_eraseBlock_65 : decode cX4_eraseBlock 65 = .ok (.invokestatic 267, 3) := by decide +kernel
theorem dX4_eraseBlock_68 : decode cX4_eraseBlock 68 = .ok (.iload_n 2, 1) := by decide +kernel
theorem dX4_eraseBlock_69 : decode cX4_eraseBlock 69 = .ok (.ireturn, 1) := by decide +kernel
theorem dX4_changeSlowness_0 : decode cX4_changeSlowness 0 = .ok (.iload_n 1, 1) := by decide +kernel
theorem dX4_changeSlowness_1 : decode cX4_changeSlowness 1 = .ok (.iconst 0, 1) := by decide +kernel
theorem dX4_changeSlowness_2 : decode cX4_changeSlowness 2 = .ok (.bipush 7, 2) := by decide +kernel
theorem dX4_changeSlowness_4 : decode cX4_changeSlowness 4 = .ok (.invokestatic 83, 3) := by decide +kernel
theorem dX4_changeSlowness_7 : decode cX4_changeSlowness 7 = .ok (.ifCond .eq 12, 3) := by decide +kernel
theorem dX4_changeSlowness_10 : decode cX4_changeSlowness 10 = .ok (.iload_n 2, 1) := by decide +kernel
theorem dX4_changeSlowness_11 : decode cX4_changeSlowness 11 = .ok (.iconst 0, 1) := by decide +kernel
theorem dX4_changeSlowness_12 : decode cX4_changeSlowness 12 = .ok (.iconst 5, 1) := by decide +kernel
theorem dX4_changeSlowness_13 : decode cX4_changeSlowness 13 = .ok (.invokestatic 83, 3) := by decide +kernel
theorem dX4_changeSlowness_16 : decode cX4_changeSlowness 16 = .ok (.ifCond .ne 5, 3) := by decide +kernel
theorem dX4_changeSlowness_19 : decode cX4_changeSlowness 19 = .ok (.iconst (-1), 1) := by decide +kernel
theorem dX4_changeSlowness_20 : decode cX4_changeSlowness 20 = .ok (.ireturn, 1) := by decide +kernel
theorem dX4_changeSlowness_21 : decode cX4_changeSlowness 21 = .ok (.aload_n 0, 1) := by decide +kernel
theorem dX4_changeSlowness_22 : decode cX4_changeSlowness 22 = .ok (.getfield 43, 3) := by decide +kernel
theorem dX4_changeSlowness_25 : decode cX4_changeSlowness 25 = .ok (.iload_n 1, 1) := by decide +kernel
theorem dX4_changeSlowness_26 : decode cX4_changeSlowness 26 = .ok (.invokestatic 156, 3) := by decide +kernel
theorem dX4_changeSlowness_29 : decode cX4_changeSlowness 29 = .ok (.istore_n 3, 1) := by decide +kernel
theorem dX4_changeSlowness_30 : decode cX4_changeSlowness 30 = .ok (.aload_n 0, 1) := by decide +kernel
theorem dX4_changeSlowness_31 : decode cX4_changeSlowness 31 = .ok (.getfield 43, 3) := by decide +kernel
theorem dX4_changeSlowness_34 : decode cX4_changeSlowness 34 = .ok (.iload_n 1, 1) := by decide +kernel
theorem dX4_changeSlowness_35 : decode cX4_changeSlowness 35 = .ok (.iload_n 2, 1) := by decide +kernel
theorem dX4_changeSlowness_36 : decode cX4_changeSlowness 36 = .ok (.invokestatic 267, 3) := by decide +kernel
theorem dX4_changeSlowness_39 : decode cX4_changeSlowness 39 = .ok (.iload_n 3, 1) := by decide +kernel
theorem dX4_changeSlowness_40 : decode cX4_changeSlowness 40 = .ok (.ireturn, 1) := by decide +kernel
theorem dX4_changeSetting_0 : decode cX4_changeSetting 0 = .ok (.iload_n 1, 1) := by decide +kernel
theorem dX4_changeSetting_1 : decode cX4_changeSetting 1 = .ok (.iconst 0, 1) := by decide +kernel
theorem dX4_changeSetting_2 : decode cX4_changeSetting 2 = .ok (.iconst 3, 1) := by decide +kernel
theorem dX4_changeSetting_3 : decode cX4_changeSetting 3 = .ok (.invokestatic 83, 3) := by decide +kernel
theorem dX4_changeSetting_6 : decode cX4_changeSetting 6 = .ok (.ifCond .eq 24, 3) := by decide +kernel
theorem dX4_changeSetting_9 : decode cX4_changeSetting 9 = .ok (.iload_n 2, 1) := by decide +kernel
theorem dX4_changeSetting_10 : decode cX4_changeSetting 10 = .ok (.getstatic 271, 3) := by decide +kernel
theorem dX4_changeSetting_13 : decode cX4_changeSetting 13 = .ok (.iload_n 1, 1) := by decide +kernel
theorem dX4_changeSetting_14 : decode cX4_changeSetting 14 = .ok (.invokestatic 156, 3) := by decide +kernel
theorem dX4_changeSetting_17 : decode cX4_changeSetting 17 = .ok (.getstatic 274, 3) := by decide +kernel
theorem dX4_changeSetting_20 : decode cX4_changeSetting 20 = .ok (.iload_n 1, 1) := by decide +kernel
theorem dX4_changeSetting_21 : decode cX4_changeSetting 21 = .ok (.invokestatic 156, 3) := by decide +kernel
theorem dX4_changeSetting_24 : decode cX4_changeSetting 24 = .ok (.invokestatic 83, 3) := by decide +kernel
theorem dX4_changeSetting_27 : decode cX4_changeSetting 27 = .ok (.ifCond .ne 5, 3) := by decide +kernel
theorem dX4_changeSetting_30 : decode cX4_changeSetting 30 = .ok (.iconst (-1), 1) := by decide +kernel
theorem dX4_changeSetting_31 : decode cX4_changeSetting 31 = .ok (.ireturn, 1) := by decide +kernel
theorem dX4_changeSetting_32 : decode cX4_changeSetting 32 = .ok (.aload_n 0, 1) := by decide +kernel
theorem dX4_changeSetting_33 : decode cX4_changeSetting 33 = .ok (.getfield 39, 3) := by decide +kernel
theorem dX4_changeSetting_36 : decode cX4_changeSetting 36 = .ok (.iload_n 1, 1) := by decide +kernel
theorem dX4_changeSetting_37 : decode cX4_changeSetting 37 = .ok (.invokestatic 156, 3) := by decide +kernel
theorem dX4_changeSetting_40 : decode cX4_changeSetting 40 = .ok (.istore_n 3, 1) := by decide +kernel
theorem dX4_changeSetting_41 : decode cX4_changeSetting 41 = .ok (.aload_n 0, 1) := by decide +kernel
theorem dX4_changeSetting_42 : decode cX4_changeSetting 42 = .ok (.getfield 39, 3) := by decide +kernel
theorem dX4_changeSetting_45 : decode cX4_changeSetting 45 = .ok (.iload_n 1, 1) := by decide +kernel
theorem dX4_changeSetting_46 : decode cX4_changeSetting 46 = .ok (.iload_n 2, 1) := by decide +kernel
theorem dX4_changeSetting_47 : decode cX4_changeSetting 47 = .ok (.invokestatic 267, 3) := by decide +kernel
theorem dX4_changeSetting_50 : decode cX4_changeSetting 50 = .ok (.iload_n 3, 1) := by decide +kernel
theorem dX4_changeSetting_51 : decode cX4_changeSetting 51 = .ok (.ireturn, 1) := by decide +kernel
theorem dX4_placeFact_0 : decode cX4_placeFact 0 = .ok (.iload_n 1, 1) := by decide +kernel
theorem dX4_placeFact_1 : decode cX4_placeFact 1 = .ok (.iconst 0, 1) := by decide +kernel
theorem dX4_placeFact_2 : decode cX4_placeFact 2 = .ok (.bipush 11, 2) := by decide +kernel
theorem dX4_placeFact_4 : decode cX4_placeFact 4 = .ok (.invokestatic 83, 3) := by decide +kernel
theorem dX4_placeFact_7 : decode cX4_placeFact 7 = .ok (.ifCond .eq 12, 3) := by decide +kernel
theorem dX4_placeFact_10 : decode cX4_placeFact 10 = .ok (.iload_n 2, 1) := by decide +kernel
theorem dX4_placeFact_11 : decode cX4_placeFact 11 = .ok (.iconst 0, 1) := by decide +kernel
theorem dX4_placeFact_12 : decode cX4_placeFact 12 = .ok (.iconst 2, 1) := by decide +kernel
theorem dX4_placeFact_13 : decode cX4_placeFact 13 = .ok (.invokestatic 83, 3) := by decide +kernel
theorem dX4_placeFact_16 : decode cX4_placeFact 16 = .ok (.ifCond .ne 5, 3) := by decide +kernel
theorem dX4_placeFact_19 : decode cX4_placeFact 19 = .ok (.iconst (-1), 1) := by decide +kernel
theorem dX4_placeFact_20 : decode cX4_placeFact 20 = .ok (.ireturn, 1) := by decide +kernel
theorem dX4_placeFact_21 : decode cX4_placeFact 21 = .ok (.aload_n 0, 1) := by decide +kernel
theorem dX4_placeFact_22 : decode cX4_placeFact 22 = .ok (.getfield 12, 3) := by decide +kernel
theorem dX4_placeFact_25 : decode cX4_placeFact 25 = .ok (.iload_n 1, 1) := by decide +kernel
theorem dX4_placeFact_26 : decode cX4_placeFact 26 = .ok (.invokevirtual 146, 3) := by decide +kernel
theorem dX4_placeFact_29 : decode cX4_placeFact 29 = .ok (.istore_n 3, 1) := by decide +kernel
theorem dX4_placeFact_30 : decode cX4_placeFact 30 = .ok (.iload_n 3, 1) := by decide +kernel
theorem dX4_placeFact_31 : decode cX4_placeFact 31 = .ok (.iconst (-1), 1) := by decide +kernel
theorem dX4_placeFact_32 : decode cX4_placeFact 32 = .ok (.if_icmp .ne 6, 3) := by decide +kernel
theorem dX4_placeFact_35 : decode cX4_placeFact 35 = .ok (.bipush (-4), 2) := by decide +kernel
theorem dX4_placeFact_37 : decode cX4_placeFact 37 = .ok (.ireturn, 1) := by decide +kernel
theorem dX4_placeFact_38 : decode cX4_placeFact 38 = .ok (.iload_n 2, 1) := by decide +kernel
theorem dX4_placeFact_39 : decode cX4_placeFact 39 = .ok (.ifCond .ne 8, 3) := by decide +kernel
theorem dX4_placeFact_42 : decode cX4_placeFact 42 = .ok (.iload_n 3, 1) := by decide +kernel
theorem dX4_placeFact_43 : decode cX4_placeFact 43 = .ok (.bipush 24, 2) := by decide +kernel
theorem dX4_placeFact_45 : decode cX4_placeFact 45 = .ok (.idiv, 1) := by decide +kernel
theorem dX4_placeFact_46 : decode cX4_placeFact 46 = .ok (.ireturn, 1) := by decide +kernel
theorem dX4_placeFact_47 : decode cX4_placeFact 47 = .ok (.iload_n 2, 1) := by decide +kernel
theorem dX4_placeFact_48 : decode cX4_placeFact 48 = .ok (.iconst 1, 1) := by decide +kernel
theorem dX4_placeFact_49 : decode cX4_placeFact 49 = .ok (.if_icmp .ne 10, 3) := by decide +kernel
theorem dX4_placeFact_52 : decode cX4_placeFact 52 = .ok (.iload_n 3, 1) := by decide +kernel
theorem dX4_placeFact_53 : decode cX4_placeFact 53 = .ok (.bipush 24, 2) := by decide +kernel
theorem dX4_placeFact_55 : decode cX4_placeFact 55 = .ok (.irem, 1) := by decide +kernel
theorem dX4_placeFact_56 : decode cX4_placeFact 56 = .ok (.goto 11, 3) := by decide +kernel
theorem dX4_placeFact_59 : decode cX4_placeFact 59 = .ok (.aload_n 0, 1) := by decide +kernel
theorem dX4_placeFact_60 : decode cX4_placeFact 60 = .ok (.getfield 12, 3) := by decide +kernel
theorem dX4_placeFact_63 : decode cX4_placeFact 63 = .ok (.iload_n 3, 1) := by decide +kernel
theorem dX4_placeFact_64 : decode cX4_placeFact 64 = .ok (.invokevirtual 149, 3) := by decide +kernel
theorem dX4_placeFact_67 : decode cX4_placeFact 67 = .ok (.ireturn, 1) := by decide +kernel
theorem dX4_pageFact_0 : decode cX4_pageFact 0 = .ok (.iload_n 1, 1) := by decide +kernel
theorem dX4_pageFact_1 : decode cX4_pageFact 1 = .ok (.iconst 0, 1) := by decide +kernel
theorem dX4_pageFact_2 : decode cX4_pageFact 2 = .ok (.iconst 1, 1) := by decide +kernel
theorem dX4_pageFact_3 : decode cX4_pageFact 3 = .ok (.invokestatic 83, 3) := by decide +kernel
theorem dX4_pageFact_6 : decode cX4_pageFact 6 = .ok (.ifCond .eq 22, 3) := by decide +kernel
theorem dX4_pageFact_9 : decode cX4_pageFact 9 = .ok (.iload_n 2, 1) := by decide +kernel
theorem dX4_pageFact_10 : decode cX4_pageFact 10 = .ok (.iconst 0, 1) := by decide +kernel
theorem dX4_pageFact_11 : decode cX4_pageFact 11 = .ok (.bipush 15, 2) := by decide +kernel
theorem dX4_pageFact_13 : decode cX4_pageFact 13 = .ok (.invokestatic 83, 3) := by decide +kernel
theorem dX4_pageFact_16 : decode cX4_pageFact 16 = .ok (.ifCond .eq 12, 3) := by decide +kernel
theorem dX4_pageFact_19 : decode cX4_pageFact 19 = .ok (.iload_n 3, 1) := by decide +kernel
theorem dX4_pageFact_20 : decode cX4_pageFact 20 = .ok (.iconst 0, 1) := by decide +kernel
theorem dX4_pageFact_21 : decode cX4_pageFact 21 = .ok (.iconst 5, 1) := by decide +kernel
theorem dX4_pageFact_22 : decode cX4_pageFact 22 = .ok (.invokestatic 83, 3) := by decide +kernel
theorem dX4_pageFact_25 : decode cX4_pageFact 25 = .ok (.ifCond .ne 5, 3) := by decide +kernel
theorem dX4_pageFact_28 : decode cX4_pageFact 28 = .ok (.iconst (-1), 1) := by decide +kernel
theorem dX4_pageFact_29 : decode cX4_pageFact 29 = .ok (.ireturn, 1) := by decide +kernel
theorem dX4_pageFact_30 : decode cX4_pageFact 30 = .ok (.iload_n 1, 1) := by decide +kernel
theorem dX4_pageFact_31 : decode cX4_pageFact 31 = .ok (.iload_n 2, 1) := by decide +kernel
theorem dX4_pageFact_32 : decode cX4_pageFact 32 = .ok (.invokestatic 168, 3) := by decide +kernel
theorem dX4_pageFact_35 : decode cX4_pageFact 35 = .ok (.istore 4, 2) := by decide +kernel
theorem dX4_pageFact_37 : decode cX4_pageFact 37 = .ok (.iload_n 3, 1) := by decide +kernel
theorem dX4_pageFact_38 : decode cX4_pageFact 38 = .ok (.ifCond .ne 13, 3) := by decide +kernel
theorem dX4_pageFact_41 : decode cX4_pageFact 41 = .ok (.aload_n 0, 1) := by decide +kernel
theorem dX4_pageFact_42 : decode cX4_pageFact 42 = .ok (.getfield 12, 3) := by decide +kernel
theorem dX4_pageFact_45 : decode cX4_pageFact 45 = .ok (.iload 4, 2) := by decide +kernel
theorem dX4_pageFact_47 : decode cX4_pageFact 47 = .ok (.invokevirtual 198, 3) := by decide +kernel
theorem dX4_pageFact_50 : decode cX4_pageFact 50 = .ok (.ireturn, 1) := by decide +kernel
theorem dX4_pageFact_51 : decode cX4_pageFact 51 = .ok (.iload_n 3, 1) := by decide +kernel
theorem dX4_pageFact_52 : decode cX4_pageFact 52 = .ok (.iconst 4, 1) := by decide +kernel
theorem dX4_pageFact_53 : decode cX4_pageFact 53 = .ok (.if_icmp .ne 11, 3) := by decide +kernel
theorem dX4_pageFact_56 : decode cX4_pageFact 56 = .ok (.getstatic 153, 3) := by decide +kernel
theorem dX4_pageFact_59 : decode cX4_pageFact 59 = .ok (.iload_n 2, 1) := by decide +kernel
theorem dX4_pageFact_60 : decode cX4_pageFact 60 = .ok (.invokestatic 156, 3) := by decide +kernel
theorem dX4_pageFact_63 : decode cX4_pageFact 63 = .ok (.ireturn, 1) := by decide +kernel
theorem dX4_pageFact_64 : decode cX4_pageFact 64 = .ok (.iload_n 3, 1) := by decide +kernel
theorem dX4_pageFact_65 : decode cX4_pageFact 65 = .ok (.iconst 5, 1) := by decide +kernel
theorem dX4_pageFact_66 : decode cX4_pageFact 66 = .ok (.if_icmp .ne 11, 3) := by decide +kernel
theorem dX4_pageFact_69 : decode cX4_pageFact 69 = .ok (.getstatic 160, 3) := by decide +kernel
theorem dX4_pageFact_72 : decode cX4_pageFact 72 = .ok (.iload_n 2, 1) := by decide +kernel
theorem dX4_pageFact_73 : decode cX4_pageFact 73 = .ok (.invokestatic 156, 3) := by decide +kernel
theorem dX4_pageFact_76 : decode cX4_pageFact 76 = .ok (.ireturn, 1) := by decide +kernel
theorem dX4_pageFact_77 : decode cX4_pageFact 77 = .ok (.aload_n 0, 1) := by decide +kernel
theorem dX4_pageFact_78 : decode cX4_pageFact 78 = .ok (.getfield 12, 3) := by decide +kernel
theorem dX4_pageFact_81 : decode cX4_pageFact 81 = .ok (.iload 4, 2) := by decide +kernel
theorem dX4_pageFact_83 : decode cX4_pageFact 83 = .ok (.invokevirtual 198, 3) := by decide +kernel
theorem dX4_pageFact_86 : decode cX4_pageFact 86 = .ok (.iconst 2, 1) := by decide +kernel
theorem dX4_pageFact_87 : decode cX4_pageFact 87 = .ok (.if_icmp .ne 16, 3) := by decide +kernel
theorem dX4_pageFact_90 : decode cX4_pageFact 90 = .ok (.aload_n 0, 1) := by decide +kernel
theorem dX4_pageFact_91 : decode cX4_pageFact 91 = .ok (.getfield 12, 3) := by decide +kernel
theorem dX4_pageFact_94 : decode cX4_pageFact 94 = .ok (.iload 4, 2) := by decide +kernel
theorem dX4_pageFact_96 : decode cX4_pageFact 96 = .ok (.iload_n 3, 1) := by decide +kernel
theorem dX4_pageFact_97 : decode cX4_pageFact 97 = .ok (.invokevirtual 277, 3) := by decide +kernel
theorem dX4_pageFact_100 : decode cX4_pageFact 100 = .ok (.goto 5, 3) := by decide +kernel
theorem dX4_pageFact_103 : decode cX4_pageFact 103 = .ok (.bipush (-4), 2) := by decide +kernel
theorem dX4_pageFact_105 : decode cX4_pageFact 105 = .ok (.ireturn, 1) := by decide +kernel
theorem dX4_backupFact_0 : decode cX4_backupFact 0 = .ok (.iload_n 1, 1) := by decide +kernel
theorem dX4_backupFact_1 : decode cX4_backupFact 1 = .ok (.iconst 0, 1) := by decide +kernel
theorem dX4_backupFact_2 : decode cX4_backupFact 2 = .ok (.iconst 1, 1) := by decide +kernel
theorem dX4_backupFact_3 : decode cX4_backupFact 3 = .ok (.invokestatic 83, 3) := by decide +kernel
theorem dX4_backupFact_6 : decode cX4_backupFact 6 = .ok (.ifCond .eq 22, 3) := by decide +kernel
theorem dX4_backupFact_9 : decode cX4_backupFact 9 = .ok (.iload_n 2, 1) := by decide +kernel
theorem dX4_backupFact_10 : decode cX4_backupFact 10 = .ok (.iconst 0, 1) := by decide +kernel
theorem dX4_backupFact_11 : decode cX4_backupFact 11 = .ok (.bipush 7, 2) := by decide +kernel
theorem dX4_backupFact_13 : decode cX4_backupFact 13 = .ok (.invokestatic 83, 3) := by decide +kernel
theorem dX4_backupFact_16 : decode cX4_backupFact 16 = .ok (.ifCond .eq 12, 3) := by decide +kernel
theorem dX4_backupFact_19 : decode cX4_backupFact 19 = .ok (.iload_n 3, 1) := by decide +kernel
theorem dX4_backupFact_20 : decode cX4_backupFact 20 = .ok (.iconst 0, 1) := by decide +kernel
theorem dX4_backupFact_21 : decode cX4_backupFact 21 = .ok (.iconst 3, 1) := by decide +kernel
theorem dX4_backupFact_22 : decode cX4_backupFact 22 = .ok (.invokestatic 83, 3) := by decide +kernel
theorem dX4_backupFact_25 : decode cX4_backupFact 25 = .ok (.ifCond .ne 5, 3) := by decide +kernel
theorem dX4_backupFact_28 : decode cX4_backupFact 28 = .ok (.iconst (-1), 1) := by decide +kernel
theorem dX4_backupFact_29 : decode cX4_backupFact 29 = .ok (.ireturn, 1) := by decide +kernel
theorem dX4_backupFact_30 : decode cX4_backupFact 30 = .ok (.iload_n 1, 1) := by decide +kernel
theorem dX4_backupFact_31 : decode cX4_backupFact 31 = .ok (.bipush 16, 2) := by decide +kernel
theorem dX4_backupFact_33 : decode cX4_backupFact 33 = .ok (.iload_n 2, 1) := by decide +kernel
theorem dX4_backupFact_34 : decode cX4_backupFact 34 = .ok (.iadd, 1) := by decide +kernel
theorem dX4_backupFact_35 : decode cX4_backupFact 35 = .ok (.invokestatic 168, 3) := by decide +kernel
theorem dX4_backupFact_38 : decode cX4_backupFact 38 = .ok (.istore 4, 2) := by decide +kernel
theorem dX4_backupFact_40 : decode cX4_backupFact 40 = .ok (.aload_n 0, 1) := by decide +kernel
theorem dX4_backupFact_41 : decode cX4_backupFact 41 = .ok (.getfield 12, 3) := by decide +kernel
theorem dX4_backupFact_44 : decode cX4_backupFact 44 = .ok (.iload 4, 2) := by decide +kernel
theorem dX4_backupFact_46 : decode cX4_backupFact 46 = .ok (.invokevirtual 198, 3) := by decide +kernel
theorem dX4_backupFact_49 : decode cX4_backupFact 49 = .ok (.ifCond .ne 6, 3) := by decide +kernel
theorem dX4_backupFact_52 : decode cX4_backupFact 52 = .ok (.bipush (-4), 2) := by decide +kernel
theorem dX4_backupFact_54 : decode cX4_backupFact 54 = .ok (.ireturn, 1) := by decide +kernel
theorem dX4_backupFact_55 : decode cX4_backupFact 55 = .ok (.iload_n 3, 1) := by decide +kernel
theorem dX4_backupFact_56 : decode cX4_backupFact 56 = .ok (.ifCond .ne 22, 3) := by decide +kernel
theorem dX4_backupFact_59 : decode cX4_backupFact 59 = .ok (.aload_n 0, 1) := by decide +kernel
theorem dX4_backupFact_60 : decode cX4_backupFact 60 = .ok (.getfield 12, 3) := by decide +kernel
theorem dX4_backupFact_63 : decode cX4_backupFact 63 = .ok (.iload 4, 2) := by decide +kernel
theorem dX4_backupFact_65 : decode cX4_backupFact 65 = .ok (.invokevirtual 198, 3) := by decide +kernel
theorem dX4_backupFact_68 : decode cX4_backupFact 68 = .ok (.iconst 2, 1) := by decide +kernel
theorem dX4_backupFact_69 : decode cX4_backupFact 69 = .ok (.if_icmp .ne 7, 3) := by decide +kernel
theorem dX4_backupFact_72 : decode cX4_backupFact 72 = .ok (.iconst 1, 1) := by decide +kernel
theorem dX4_backupFact_73 : decode cX4_backupFact 73 = .ok (.goto 4, 3) := by decide +kernel
theorem dX4_backupFact_76 : decode cX4_backupFact 76 = .ok (.iconst 0, 1) := by decide +kernel
theorem dX4_backupFact_77 : decode cX4_backupFact 77 = .ok (.ireturn, 1) := by decide +kernel
theorem dX4_backupFact_78 : decode cX4_backupFact 78 = .ok (.aload_n 0, 1) := by decide +kernel
theorem dX4_backupFact_79 : decode cX4_backupFact 79 = .ok (.getfield 12, 3) := by decide +kernel
theorem dX4_backupFact_82 : decode cX4_backupFact 82 = .ok (.iload 4, 2) := by decide +kernel
theorem dX4_backupFact_84 : decode cX4_backupFact 84 = .ok (.iload_n 3, 1) := by decide +kernel
theorem dX4_backupFact_85 : decode cX4_backupFact 85 = .ok (.invokevirtual 277, 3) := by decide +kernel
theorem dX4_backupFact_88 : decode cX4_backupFact 88 = .ok (.ireturn, 1) := by decide +kernel
theorem dX4_requestFact_0 : decode cX4_requestFact 0 = .ok (.iload_n 1, 1) := by decide +kernel
theorem dX4_requestFact_1 : decode cX4_requestFact 1 = .ok (.ifCond .lt 12, 3) := by decide +kernel
theorem dX4_requestFact_4 : decode cX4_requestFact 4 = .ok (.iload_n 2, 1) := by decide +kernel
theorem dX4_requestFact_5 : decode cX4_requestFact 5 = .ok (.iconst 0, 1) := by decide +kernel
theorem dX4_requestFact_6 : decode cX4_requestFact 6 = .ok (.iconst 2, 1) := by decide +kernel
theorem dX4_requestFact_7 : decode cX4_requestFact 7 = .ok (.invokestatic 83, 3) := by decide +kernel
theorem dX4_requestFact_10 : decode cX4_requestFact 10 = .ok (.ifCond .ne 5, 3) := by decide +kernel
theorem dX4_requestFact_13 : decode cX4_requestFact 13 = .ok (.iconst (-1), 1) := by decide +kernel
theorem dX4_requestFact_14 : decode cX4_requestFact 14 = .ok (.ireturn, 1) := by decide +kernel
theorem dX4_requestFact_15 : decode cX4_requestFact 15 = .ok (.iload_n 1, 1) := by decide +kernel
theorem dX4_requestFact_16 : decode cX4_requestFact 16 = .ok (.aload_n 0, 1) := by decide +kernel
theorem dX4_requestFact_17 : decode cX4_requestFact 17 = .ok (.getfield 21, 3) := by decide +kernel
theorem dX4_requestFact_20 : decode cX4_requestFact 20 = .ok (.invokevirtual 87, 3) := by decide +kernel
theorem dX4_requestFact_23 : decode cX4_requestFact 23 = .ok (.if_icmp .lt 6, 3) := by decide +kernel
theorem dX4_requestFact_26 : decode cX4_requestFact 26 = .ok (.bipush (-4), 2) := by decide +kernel
theorem dX4_requestFact_28 : decode cX4_requestFact 28 = .ok (.ireturn, 1) := by decide +kernel
theorem dX4_requestFact_29 : decode cX4_requestFact 29 = .ok (.iload_n 2, 1) := by decide +kernel
theorem dX4_requestFact_30 : decode cX4_requestFact 30 = .ok (.ifCond .ne 12, 3) := by decide +kernel
theorem dX4_requestFact_33 : decode cX4_requestFact 33 = .ok (.aload_n 0, 1) := by decide +kernel
theorem dX4_requestFact_34 : decode cX4_requestFact 34 = .ok (.getfield 21, 3) := by decide +kernel
theorem dX4_requestFact_37 : decode cX4_requestFact 37 = .ok (.iload_n 1, 1) := by decide +kernel
theorem dX4_requestFact_38 : decode cX4_requestFact 38 = .ok (.invokevirtual 143, 3) := by decide +kernel
theorem dX4_requestFact_41 : decode cX4_requestFact 41 = .ok (.ireturn, 1) := by decide +kernel
theorem dX4_requestFact_42 : decode cX4_requestFact 42 = .ok (.iload_n 2, 1) := by decide +kernel
theorem dX4_requestFact_43 : decode cX4_requestFact 43 = .ok (.iconst 1, 1) := by decide +kernel
theorem dX4_requestFact_44 : decode cX4_requestFact 44 = .ok (.if_icmp .ne 14, 3) := by decide +kernel
theorem dX4_requestFact_47 : decode cX4_requestFact 47 = .ok (.aload_n 0, 1) := by decide +kernel
theorem dX4_requestFact_48 : decode cX4_requestFact 48 = .ok (.getfield 21, 3) := by decide +kernel
theorem dX4_requestFact_51 : decode cX4_requestFact 51 = .ok (.iload_n 1, 1) := by decide +kernel
theorem dX4_requestFact_52 : decode cX4_requestFact 52 = .ok (.invokevirtual 192, 3) := by decide +kernel
theorem dX4_requestFact_55 : decode cX4_requestFact 55 = .ok (.goto 11, 3) := by decide +kernel
theorem dX4_requestFact_58 : decode cX4_requestFact 58 = .ok (.aload_n 0, 1) := by decide +kernel
theorem dX4_requestFact_59 : decode cX4_requestFact 59 = .ok (.getfield 21, 3) := by decide +kernel
theorem dX4_requestFact_62 : decode cX4_requestFact 62 = .ok (.iload_n 1, 1) := by decide +kernel
theorem dX4_requestFact_63 : decode cX4_requestFact 63 = .ok (.invokevirtual 139, 3) := by decide +kernel
theorem dX4_requestFact_66 : decode cX4_requestFact 66 = .ok (.ireturn, 1) := by decide +kernel
theorem dX4_numberOf_0 : decode cX4_numberOf 0 = .ok (.iload_n 1, 1) := by decide +kernel
theorem dX4_numberOf_1 : decode cX4_numberOf 1 = .ok (.tableswitch 231 0 15 #[79, 87, 100, 105, 110, 118, 134, 157, 165, 173, 181, 189, 197, 206, 215, 223], 79) := by decide +kernel
theorem dX4_numberOf_80 : decode cX4_numberOf 80 = .ok (.aload_n 0, 1) := by decide +kernel
theorem dX4_numberOf_81 : decode cX4_numberOf 81 = .ok (.getfield 35, 3) := by decide +kernel
theorem dX4_numberOf_84 : decode cX4_numberOf 84 = .ok (.getfield 95, 3) := by decide +kernel
theorem dX4_numberOf_87 : decode cX4_numberOf 87 = .ok (.ireturn, 1) := by decide +kernel
theorem dX4_numberOf_88 : decode cX4_numberOf 88 = .ok (.aload_n 0, 1) := by decide +kernel
theorem dX4_numberOf_89 : decode cX4_numberOf 89 = .ok (.getfield 52, 3) := by decide +kernel
theorem dX4_numberOf_92 : decode cX4_numberOf 92 = .ok (.ifCond .eq 7, 3) := by decide +kernel
theorem dX4_numberOf_95 : decode cX4_numberOf 95 = .ok (.iconst 1, 1) := by decide +kernel
theorem dX4_numberOf_96 : decode cX4_numberOf 96 = .ok (.goto 4, 3) := by decide +kernel
theorem dX4_numberOf_99 : decode cX4_numberOf 99 = .ok (.iconst 0, 1) := by decide +kernel
theorem dX4_numberOf_100 : decode cX4_numberOf 100 = .ok (.ireturn, 1) := by decide +kernel
theorem dX4_numberOf_101 : decode cX4_numberOf 101 = .ok (.aload_n 0, 1) := by decide +kernel
theorem dX4_numberOf_102 : decode cX4_numberOf 102 = .ok (.getfield 76, 3) := by decide +kernel
theorem dX4_numberOf_105 : decode cX4_numberOf 105 = .ok (.ireturn, 1) := by decide +kernel
theorem dX4_numberOf_106 : decode cX4_numberOf 106 = .ok (.aload_n 0, 1) := by decide +kernel
theorem dX4_numberOf_107 : decode cX4_numberOf 107 = .ok (.getfield 80, 3) := by decide +kernel
theorem dX4_numberOf_110 : decode cX4_numberOf 110 = .ok (.ireturn, 1) := by decide +kernel
theorem dX4_numberOf_111 : decode cX4_numberOf 111 = .ok (.aload_n 0, 1) := by decide +kernel
theorem dX4_numberOf_112 : decode cX4_numberOf 112 = .ok (.getfield 21, 3) := by decide +kernel
theorem dX4_numberOf_115 : decode cX4_numberOf 115 = .ok (.invokevirtual 87, 3) := by decide +kernel
theorem dX4_numberOf_118 : decode cX4_numberOf 118 = .ok (.ireturn, 1) := by decide +kernel
theorem dX4_numberOf_119 : decode cX4_numberOf 119 = .ok (.aload_n 0, 1) := by decide +kernel
theorem dX4_numberOf_120 : decode cX4_numberOf 120 = .ok (.getfield 28, 3) := by decide +kernel
theorem dX4_numberOf_123 : decode cX4_numberOf 123 = .ok (.getfield 105, 3) := by decide +kernel
theorem dX4_numberOf_126 : decode cX4_numberOf 126 = .ok (.ifCond .eq 7, 3) := by decide +kernel
theorem dX4_numberOf_129 : decode cX4_numberOf 129 = .ok (.iconst 1, 1) := by decide +kernel
theorem dX4_numberOf_130 : decode cX4_numberOf 130 = .ok (.goto 4, 3) := by decide +kernel
theorem dX4_numberOf_133 : decode cX4_numberOf 133 = .ok (.iconst 0, 1) := by decide +kernel
theorem dX4_numberOf_134 : decode cX4_numberOf 134 = .ok (.ireturn, 1) := by decide +kernel
theorem dX4_numberOf_135 : decode cX4_numberOf 135 = .ok (.aload_n 0, 1) := by decide +kernel
theorem dX4_numberOf_136 : decode cX4_numberOf 136 = .ok (.getfield 28, 3) := by decide +kernel
theorem dX4_numberOf_139 : decode cX4_numberOf 139 = .ok (.getfield 105, 3) := by decide +kernel
theorem dX4_numberOf_142 : decode cX4_numberOf 142 = .ok (.ifCond .eq 13, 3) := by decide +kernel
theorem dX4_numberOf_145 : decode cX4_numberOf 145 = .ok (.aload_n 0, 1) := by decide +kernel
theorem dX4_numberOf_146 : decode cX4_numberOf 146 = .ok (.getfield 28, 3) := by decide +kernel
theorem dX4_numberOf_149 : decode cX4_numberOf 149 = .ok (.getfield 111, 3) := by decide +kernel
theorem dX4_numberOf_152 : decode cX4_numberOf 152 = .ok (.goto 5, 3) := by decide +kernel
theorem dX4_numberOf_155 : decode cX4_numberOf 155 = .ok (.bipush (-4), 2) := by decide +kernel
theorem dX4_numberOf_157 : decode cX4_numberOf 157 = .ok (.ireturn, 1) := by decide +kernel
theorem dX4_numberOf_158 : decode cX4_numberOf 158 = .ok (.aload_n 0, 1) := by decide +kernel
theorem dX4_numberOf_159 : decode cX4_numberOf 159 = .ok (.getfield 35, 3) := by decide +kernel
theorem dX4_numberOf_162 : decode cX4_numberOf 162 = .ok (.getfield 98, 3) := by decide +kernel
theorem dX4_numberOf_165 : decode cX4_numberOf 165 = .ok (.ireturn, 1) := by decide +kernel
theorem dX4_numberOf_166 : decode cX4_numberOf 166 = .ok (.aload_n 0, 1) := by decide +kernel
theorem dX4_numberOf_167 : decode cX4_numberOf 167 = .ok (.getfield 35, 3) := by decide +kernel
theorem dX4_numberOf_170 : decode cX4_numberOf 170 = .ok (.getfield 234, 3) := by decide +kernel
theorem dX4_numberOf_173 : decode cX4_numberOf 173 = .ok (.ireturn, 1) := by decide +kernel
theorem dX4_numberOf_174 : decode cX4_numberOf 174 = .ok (.aload_n 0, 1) := by decide +kernel
theorem dX4_numberOf_175 : decode cX4_numberOf 175 = .ok (.getfield 35, 3) := by decide +kernel
theorem dX4_numberOf_178 : decode cX4_numberOf 178 = .ok (.getfield 243, 3) := by decide +kernel
theorem dX4_numberOf_181 : decode cX4_numberOf 181 = .ok (.ireturn, 1) := by decide +kernel
theorem dX4_numberOf_182 : decode cX4_numberOf 182 = .ok (.aload_n 0, 1) := by decide +kernel
theorem dX4_numberOf_183 : decode cX4_numberOf 183 = .ok (.getfield 12, 3) := by decide +kernel
theorem dX4_numberOf_186 : decode cX4_numberOf 186 = .ok (.invokevirtual 280, 3) := by decide +kernel
theorem dX4_numberOf_189 : decode cX4_numberOf 189 = .ok (.ireturn, 1) := by decide +kernel
theorem dX4_numberOf_190 : decode cX4_numberOf 190 = .ok (.aload_n 0, 1) := by decide +kernel
theorem dX4_numberOf_191 : decode cX4_numberOf 191 = .ok (.getfield 12, 3) := by decide +kernel
theorem dX4_numberOf_194 : decode cX4_numberOf 194 = .ok (.invokevirtual 283, 3) := by decide +kernel
theorem dX4_numberOf_197 : decode cX4_numberOf 197 = .ok (.ireturn, 1) := by decide +kernel
theorem dX4_numberOf_198 : decode cX4_numberOf 198 = .ok (.aload_n 0, 1) := by decide +kernel
theorem dX4_numberOf_199 : decode cX4_numberOf 199 = .ok (.getfield 46, 3) := by decide +kernel
theorem dX4_numberOf_202 : decode cX4_numberOf 202 = .ok (.iconst 0, 1) := by decide +kernel
theorem dX4_numberOf_203 : decode cX4_numberOf 203 = .ok (.invokestatic 156, 3) := by decide +kernel
theorem dX4_numberOf_206 : decode cX4_numberOf 206 = .ok (.ireturn, 1) := by decide +kernel
theorem dX4_numberOf_207 : decode cX4_numberOf 207 = .ok (.aload_n 0, 1) := by decide +kernel
theorem dX4_numberOf_208 : decode cX4_numberOf 208 = .ok (.getfield 46, 3) := by decide +kernel
theorem dX4_numberOf_211 : decode cX4_numberOf 211 = .ok (.iconst 1, 1) := by decide +kernel
theorem dX4_numberOf_212 : decode cX4_numberOf 212 = .ok (.invokestatic 156, 3) := by decide +kernel
theorem dX4_numberOf_215 : decode cX4_numberOf 215 = .ok (.ireturn, 1) := by decide +kernel
theorem dX4_numberOf_216 : decode cX4_numberOf 216 = .ok (.aload_n 0, 1) := by decide +kernel
theorem dX4_numberOf_217 : decode cX4_numberOf 217 = .ok (.getfield 35, 3) := by decide +kernel
theorem dX4_numberOf_220 : decode cX4_numberOf 220 = .ok (.getfield 231, 3) := by decide +kernel
theorem dX4_numberOf_223 : decode cX4_numberOf 223 = .ok (.ireturn, 1) := by decide +kernel
theorem dX4_numberOf_224 : decode cX4_numberOf 224 = .ok (.aload_n 0, 1) := by decide +kernel
theorem dX4_numberOf_225 : decode cX4_numberOf 225 = .ok (.getfield 35, 3) := by decide +kernel
theorem dX4_numberOf_228 : decode cX4_numberOf 228 = .ok (.getfield 211, 3) := by decide +kernel
theorem dX4_numberOf_231 : decode cX4_numberOf 231 = .ok (.ireturn, 1) := by decide +kernel
theorem dX4_numberOf_232 : decode cX4_numberOf 232 = .ok (.aload_n 0, 1) := by decide +kernel
theorem dX4_numberOf_233 : decode cX4_numberOf 233 = .ok (.iload_n 1, 1) := by decide +kernel
theorem dX4_numberOf_234 : decode cX4_numberOf 234 = .ok (.invokevirtual 286, 3) := by decide +kernel
theorem dX4_numberOf_237 : decode cX4_numberOf 237 = .ok (.ireturn, 1) := by decide +kernel
theorem dX4_settingOrSlowness_0 : decode cX4_settingOrSlowness 0 = .ok (.iload_n 1, 1) := by decide +kernel
theorem dX4_settingOrSlowness_1 : decode cX4_settingOrSlowness 1 = .ok (.bipush 20, 2) := by decide +kernel
theorem dX4_settingOrSlowness_3 : decode cX4_settingOrSlowness 3 = .ok (.bipush 23, 2) := by decide +kernel
theorem dX4_settingOrSlowness_5 : decode cX4_settingOrSlowness 5 = .ok (.invokestatic 83, 3) := by decide +kernel
theorem dX4_settingOrSlowness_8 : decode cX4_settingOrSlowness 8 = .ok (.ifCond .eq 15, 3) := by decide +kernel
theorem dX4_settingOrSlowness_11 : decode cX4_settingOrSlowness 11 = .ok (.aload_n 0, 1) := by decide +kernel
theorem dX4_settingOrSlowness_12 : decode cX4_settingOrSlowness 12 = .ok (.getfield 39, 3) := by decide +kernel
theorem dX4_settingOrSlowness_15 : decode cX4_settingOrSlowness 15 = .ok (.iload_n 1, 1) := by decide +kernel
theorem dX4_settingOrSlowness_16 : decode cX4_settingOrSlowness 16 = .ok (.bipush 20, 2) := by decide +kernel
theorem dX4_settingOrSlowness_18 : decode cX4_settingOrSlowness 18 = .ok (.isub, 1) := by decide +kernel
theorem dX4_settingOrSlowness_19 : decode cX4_settingOrSlowness 19 = .ok (.invokestatic 156, 3) := by decide +kernel
theorem dX4_settingOrSlowness_22 : decode cX4_settingOrSlowness 22 = .ok (.ireturn, 1) := by decide +kernel
theorem dX4_settingOrSlowness_23 : decode cX4_settingOrSlowness 23 = .ok (.iload_n 1, 1) := by decide +kernel
theorem dX4_settingOrSlowness_24 : decode cX4_settingOrSlowness 24 = .ok (.bipush 30, 2) := by decide +kernel
theorem dX4_settingOrSlowness_26 : decode cX4_settingOrSlowness 26 = .ok (.bipush 37, 2) := by decide +kernel
theorem dX4_settingOrSlowness_28 : decode cX4_settingOrSlowness 28 = .ok (.invokestatic 83, 3) := by decide +kernel
theorem dX4_settingOrSlowness_31 : decode cX4_settingOrSlowness 31 = .ok (.ifCond .eq 15, 3) := by decide +kernel
theorem dX4_settingOrSlowness_34 : decode cX4_settingOrSlowness 34 = .ok (.aload_n 0, 1) := by decide +kernel
theorem dX4_settingOrSlowness_35 : decode cX4_settingOrSlowness 35 = .ok (.getfield 43, 3) := by decide +kernel
theorem dX4_settingOrSlowness_38 : decode cX4_settingOrSlowness 38 = .ok (.iload_n 1, 1) := by decide +kernel
theorem dX4_settingOrSlowness_39 : decode cX4_settingOrSlowness 39 = .ok (.bipush 30, 2) := by decide +kernel
theorem dX4_settingOrSlowness_41 : decode cX4_settingOrSlowness 41 = .ok (.isub, 1) := by decide +kernel
theorem dX4_settingOrSlowness_42 : decode cX4_settingOrSlowness 42 = .ok (.invokestatic 156, 3) := by decide +kernel
theorem dX4_settingOrSlowness_45 : decode cX4_settingOrSlowness 45 = .ok (.ireturn, 1) := by decide +kernel
theorem dX4_settingOrSlowness_46 : decode cX4_settingOrSlowness 46 = .ok (.iconst (-1), 1) := by decide +kernel
theorem dX4_settingOrSlowness_47 : decode cX4_settingOrSlowness 47 = .ok (.ireturn, 1) := by decide +kernel
theorem dX5_init_0 : decode cX5_init 0 = .ok (.aload_n 0, 1) := by decide +kernel
theorem dX5_init_1 : decode cX5_init 1 = .ok (.invokespecial 1, 3) := by decide +kernel
theorem dX5_init_4 : decode cX5_init 4 = .ok (.return_, 1) := by decide +kernel
theorem dX5_copyFrom_0 : decode cX5_copyFrom 0 = .ok (.aload_n 0, 1) := by decide +kernel
end
section
theorem dX5_copyFrom_1 : decode cX5_copyFrom 1 = .ok (.aload_n 1, 1) := by decide +kernel
theorem dX5_copyFrom_2 : decode cX5_copyFrom 2 = .ok (.getfield 7, 3) := by decide +kernel
theorem dX5_copyFrom_5 : decode cX5_copyFrom 5 = .ok (.putfield 7, 3) := by decide +kernel
theorem dX5_copyFrom_8 : decode cX5_copyFrom 8 = .ok (.aload_n 0, 1) := by decide +kernel
theorem dX5_copyFrom_9 : decode cX5_copyFrom 9 = .ok (.aload_n 1, 1) := by decide +kernel
theorem dX5_copyFrom_10 : decode cX5_copyFrom 10 = .ok (.getfield 13, 3) := by decide +kernel
theorem dX5_copyFrom_13 : decode cX5_copyFrom 13 = .ok (.putfield 13, 3) := by decide +kernel
theorem dX5_copyFrom_16 : decode cX5_copyFrom 16 = .ok (.aload_n 0, 1) := by decide +kernel
theorem dX5_copyFrom_17 : decode cX5_copyFrom 17 = .ok (.aload_n 1, 1) := by decide +kernel
theorem dX5_copyFrom_18 : decode cX5_copyFrom 18 = .ok (.getfield 16, 3) := by decide +kernel
theorem dX5_copyFrom_21 : decode cX5_copyFrom 21 = .ok (.putfield 16, 3) := by decide +kernel
theorem dX5_copyFrom_24 : decode cX5_copyFrom 24 = .ok (.aload_n 0, 1) := by decide +kernel
theorem dX5_copyFrom_25 : decode cX5_copyFrom 25 = .ok (.aload_n 1, 1) := by decide +kernel
theorem dX5_copyFrom_26 : decode cX5_copyFrom 26 = .ok (.getfield 19, 3) := by decide +kernel
theorem dX5_copyFrom_29 : decode cX5_copyFrom 29 = .ok (.putfield 19, 3) := by decide +kernel
theorem dX5_copyFrom_32 : decode cX5_copyFrom 32 = .ok (.aload_n 0, 1) := by decide +kernel
theorem dX5_copyFrom_33 : decode cX5_copyFrom 33 = .ok (.aload_n 1, 1) := by decide +kernel
theorem dX5_copyFrom_34 : decode cX5_copyFrom 34 = .ok (.getfield 22, 3) := by decide +kernel
theorem dX5_copyFrom_37 : decode cX5_copyFrom 37 = .ok (.putfield 22, 3) := by decide +kernel
theorem dX5_copyFrom_40 : decode cX5_copyFrom 40 = .ok (.aload_n 0, 1) := by decide +kernel
theorem dX5_copyFrom_41 : decode cX5_copyFrom 41 = .ok (.aload_n 1, 1) := by decide +kernel
theorem dX5_copyFrom_42 : decode cX5_copyFrom 42 = .ok (.getfield 25, 3) := by decide +kernel
theorem dX5_copyFrom_45 : decode cX5_copyFrom 45 = .ok (.putfield 25, 3) := by decide +kernel
theorem dX5_copyFrom_48 : decode cX5_copyFrom 48 = .ok (.aload_n 0, 1) := by decide +kernel
theorem dX5_copyFrom_49 : decode cX5_copyFrom 49 = .ok (.aload_n 1, 1) := by decide +kernel
theorem dX5_copyFrom_50 : decode cX5_copyFrom 50 = .ok (.getfield 28, 3) := by decide +kernel
theorem dX5_copyFrom_53 : decode cX5_copyFrom 53 = .ok (.putfield 28, 3) := by decide +kernel
theorem dX5_copyFrom_56 : decode cX5_copyFrom 56 = .ok (.return_, 1) := by decide +kernel
theorem dX6_init_0 : decode cX6_init 0 = .ok (.aload_n 0, 1) := by decide +kernel
theorem dX6_init_1 : decode cX6_init 1 = .ok (.invokespecial 3, 3) := by decide +kernel
theorem dX6_init_4 : decode cX6_init 4 = .ok (.aload_n 0, 1) := by decide +kernel
theorem dX6_init_5 : decode cX6_init 5 = .ok (.bipush 60, 2) := by decide +kernel
theorem dX6_init_7 : decode cX6_init 7 = .ok (.newarray .int, 2) := by decide +kernel
theorem dX6_init_9 : decode cX6_init 9 = .ok (.putfield 9, 3) := by decide +kernel
theorem dX6_init_12 : decode cX6_init 12 = .ok (.return_, 1) := by decide +kernel
theorem dX6_length_0 : decode cX6_length 0 = .ok (.aload_n 0, 1) := by decide +kernel
theorem dX6_length_1 : decode cX6_length 1 = .ok (.getfield 15, 3) := by decide +kernel
theorem dX6_length_4 : decode cX6_length 4 = .ok (.ireturn, 1) := by decide +kernel
theorem dX6_append_0 : decode cX6_append 0 = .ok (.iload_n 1, 1) := by decide +kernel
theorem dX6_append_1 : decode cX6_append 1 = .ok (.bipush 32, 2) := by decide +kernel
theorem dX6_append_3 : decode cX6_append 3 = .ok (.bipush 126, 2) := by decide +kernel
theorem dX6_append_5 : decode cX6_append 5 = .ok (.invokestatic 19, 3) := by decide +kernel
theorem dX6_append_8 : decode cX6_append 8 = .ok (.ifCond .ne 5, 3) := by decide +kernel
theorem dX6_append_11 : decode cX6_append 11 = .ok (.iconst (-1), 1) := by decide +kernel
theorem dX6_append_12 : decode cX6_append 12 = .ok (.ireturn, 1) := by decide +kernel
theorem dX6_append_13 : decode cX6_append 13 = .ok (.aload_n 0, 1) := by decide +kernel
theorem dX6_append_14 : decode cX6_append 14 = .ok (.getfield 15, 3) := by decide +kernel
theorem dX6_append_17 : decode cX6_append 17 = .ok (.bipush 60, 2) := by decide +kernel
theorem dX6_append_19 : decode cX6_append 19 = .ok (.if_icmp .lt 6, 3) := by decide +kernel
theorem dX6_append_22 : decode cX6_append 22 = .ok (.bipush (-3), 2) := by decide +kernel
theorem dX6_append_24 : decode cX6_append 24 = .ok (.ireturn, 1) := by decide +kernel
theorem dX6_append_25 : decode cX6_append 25 = .ok (.aload_n 0, 1) := by decide +kernel
theorem dX6_append_26 : decode cX6_append 26 = .ok (.getfield 9, 3) := by decide +kernel
theorem dX6_append_29 : decode cX6_append 29 = .ok (.aload_n 0, 1) := by decide +kernel
theorem dX6_append_30 : decode cX6_append 30 = .ok (.getfield 15, 3) := by decide +kernel
theorem dX6_append_33 : decode cX6_append 33 = .ok (.iload_n 1, 1) := by decide +kernel
theorem dX6_append_34 : decode cX6_append 34 = .ok (.invokestatic 23, 3) := by decide +kernel
theorem dX6_append_37 : decode cX6_append 37 = .ok (.aload_n 0, 1) := by decide +kernel
theorem dX6_append_38 : decode cX6_append 38 = .ok (.dup, 1) := by decide +kernel
theorem dX6_append_39 : decode cX6_append 39 = .ok (.getfield 15, 3) := by decide +kernel
theorem dX6_append_42 : decode cX6_append 42 = .ok (.iconst 1, 1) := by decide +kernel
theorem dX6_append_43 : decode cX6_append 43 = .ok (.iadd, 1) := by decide +kernel
theorem dX6_append_44 : decode cX6_append 44 = .ok (.putfield 15, 3) := by decide +kernel
theorem dX6_append_47 : decode cX6_append 47 = .ok (.aload_n 0, 1) := by decide +kernel
theorem dX6_append_48 : decode cX6_append 48 = .ok (.getfield 15, 3) := by decide +kernel
theorem dX6_append_51 : decode cX6_append 51 = .ok (.ireturn, 1) := by decide +kernel
theorem dX6_makeEmpty_0 : decode cX6_makeEmpty 0 = .ok (.aload_n 0, 1) := by decide +kernel
theorem dX6_makeEmpty_1 : decode cX6_makeEmpty 1 = .ok (.getfield 15, 3) := by decide +kernel
theorem dX6_makeEmpty_4 : decode cX6_makeEmpty 4 = .ok (.istore_n 1, 1) := by decide +kernel
theorem dX6_makeEmpty_5 : decode cX6_makeEmpty 5 = .ok (.aload_n 0, 1) := by decide +kernel
theorem dX6_makeEmpty_6 : decode cX6_makeEmpty 6 = .ok (.iconst 0, 1) := by decide +kernel
theorem dX6_makeEmpty_7 : decode cX6_makeEmpty 7 = .ok (.putfield 15, 3) := by decide +kernel
theorem dX6_makeEmpty_10 : decode cX6_makeEmpty 10 = .ok (.iload_n 1, 1) := by decide +kernel
theorem dX6_makeEmpty_11 : decode cX6_makeEmpty 11 = .ok (.ireturn, 1) := by decide +kernel
theorem dX6_rewind_0 : decode cX6_rewind 0 = .ok (.aload_n 0, 1) := by decide +kernel
theorem dX6_rewind_1 : decode cX6_rewind 1 = .ok (.iconst 0, 1) := by decide +kernel
theorem dX6_rewind_2 : decode cX6_rewind 2 = .ok (.putfield 27, 3) := by decide +kernel
theorem dX6_rewind_5 : decode cX6_rewind 5 = .ok (.return_, 1) := by decide +kernel
theorem dX6_hasMore_0 : decode cX6_hasMore 0 = .ok (.aload_n 0, 1) := by decide +kernel
theorem dX6_hasMore_1 : decode cX6_hasMore 1 = .ok (.getfield 27, 3) := by decide +kernel
theorem dX6_hasMore_4 : decode cX6_hasMore 4 = .ok (.aload_n 0, 1) := by decide +kernel
theorem dX6_hasMore_5 : decode cX6_hasMore 5 = .ok (.getfield 15, 3) := by decide +kernel
theorem dX6_hasMore_8 : decode cX6_hasMore 8 = .ok (.if_icmp .ge 7, 3) := by decide +kernel
theorem dX6_hasMore_11 : decode cX6_hasMore 11 = .ok (.iconst 1, 1) := by decide +kernel
theorem dX6_hasMore_12 : decode cX6_hasMore 12 = .ok (.goto 4, 3) := by decide +kernel
theorem dX6_hasMore_15 : decode cX6_hasMore 15 = .ok (.iconst 0, 1) := by decide +kernel
theorem dX6_hasMore_16 : decode cX6_hasMore 16 = .ok (.ireturn, 1) := by decide +kernel
theorem dX6_readCommand_0 : decode cX6_readCommand 0 = .ok (.aload_n 0, 1) := by decide +kernel
theorem dX6_readCommand_1 : decode cX6_readCommand 1 = .ok (.aload_n 0, 1) := by decide +kernel
theorem dX6_readCommand_2 : decode cX6_readCommand 2 = .ok (.invokevirtual 30, 3) := by decide +kernel
theorem dX6_readCommand_5 : decode cX6_readCommand 5 = .ok (.putfield 34, 3) := by decide +kernel
theorem dX6_readCommand_8 : decode cX6_readCommand 8 = .ok (.aload_n 0, 1) := by decide +kernel
theorem dX6_readCommand_9 : decode cX6_readCommand 9 = .ok (.dup, 1) := by decide +kernel
theorem dX6_readCommand_10 : decode cX6_readCommand 10 = .ok (.getfield 27, 3) := by decide +kernel
theorem dX6_readCommand_13 : decode cX6_readCommand 13 = .ok (.iconst 1, 1) := by decide +kernel
theorem dX6_readCommand_14 : decode cX6_readCommand 14 = .ok (.iadd, 1) := by decide +kernel
theorem dX6_readCommand_15 : decode cX6_readCommand 15 = .ok (.putfield 27, 3) := by decide +kernel
theorem dX6_readCommand_18 : decode cX6_readCommand 18 = .ok (.aload_n 0, 1) := by decide +kernel
theorem dX6_readCommand_19 : decode cX6_readCommand 19 = .ok (.getfield 34, 3) := by decide +kernel
theorem dX6_readCommand_22 : decode cX6_readCommand 22 = .ok (.invokestatic 37, 3) := by decide +kernel
theorem dX6_readCommand_25 : decode cX6_readCommand 25 = .ok (.istore_n 1, 1) := by decide +kernel
theorem dX6_readCommand_26 : decode cX6_readCommand 26 = .ok (.iload_n 1, 1) := by decide +kernel
theorem dX6_readCommand_27 : decode cX6_readCommand 27 = .ok (.ifCond .ge 5, 3) := by decide +kernel
theorem dX6_readCommand_30 : decode cX6_readCommand 30 = .ok (.iconst 0, 1) := by decide +kernel
theorem dX6_readCommand_31 : decode cX6_readCommand 31 = .ok (.ireturn, 1) := by decide +kernel
theorem dX6_readCommand_32 : decode cX6_readCommand 32 = .ok (.aload_n 0, 1) := by decide +kernel
theorem dX6_readCommand_33 : decode cX6_readCommand 33 = .ok (.iload_n 1, 1) := by decide +kernel
theorem dX6_readCommand_34 : decode cX6_readCommand 34 = .ok (.ifCond .le 10, 3) := by decide +kernel
theorem dX6_readCommand_37 : decode cX6_readCommand 37 = .ok (.aload_n 0, 1) := by decide +kernel
theorem dX6_readCommand_38 : decode cX6_readCommand 38 = .ok (.invokevirtual 41, 3) := by decide +kernel
theorem dX6_readCommand_41 : decode cX6_readCommand 41 = .ok (.goto 4, 3) := by decide +kernel
theorem dX6_readCommand_44 : decode cX6_readCommand 44 = .ok (.iconst 0, 1) := by decide +kernel
theorem dX6_readCommand_45 : decode cX6_readCommand 45 = .ok (.putfield 44, 3) := by decide +kernel
theorem dX6_readCommand_48 : decode cX6_readCommand 48 = .ok (.aload_n 0, 1) := by decide +kernel
theorem dX6_readCommand_49 : decode cX6_readCommand 49 = .ok (.getfield 44, 3) := by decide +kernel
theorem dX6_readCommand_52 : decode cX6_readCommand 52 = .ok (.ifCond .ge 5, 3) := by decide +kernel
theorem dX6_readCommand_55 : decode cX6_readCommand 55 = .ok (.iconst 0, 1) := by decide +kernel
theorem dX6_readCommand_56 : decode cX6_readCommand 56 = .ok (.ireturn, 1) := by decide +kernel
theorem dX6_readCommand_57 : decode cX6_readCommand 57 = .ok (.iload_n 1, 1) := by decide +kernel
theorem dX6_readCommand_58 : decode cX6_readCommand 58 = .ok (.iconst 2, 1) := by decide +kernel
theorem dX6_readCommand_59 : decode cX6_readCommand 59 = .ok (.if_icmp .ne 14, 3) := by decide +kernel
theorem dX6_readCommand_62 : decode cX6_readCommand 62 = .ok (.aload_n 0, 1) := by decide +kernel
theorem dX6_readCommand_63 : decode cX6_readCommand 63 = .ok (.bipush 44, 2) := by decide +kernel
theorem dX6_readCommand_65 : decode cX6_readCommand 65 = .ok (.invokevirtual 47, 3) := by decide +kernel
theorem dX6_readCommand_68 : decode cX6_readCommand 68 = .ok (.ifCond .ne 5, 3) := by decide +kernel
theorem dX6_readCommand_71 : decode cX6_readCommand 71 = .ok (.iconst 0, 1) := by decide +kernel
theorem dX6_readCommand_72 : decode cX6_readCommand 72 = .ok (.ireturn, 1) := by decide +kernel
theorem dX6_readCommand_73 : decode cX6_readCommand 73 = .ok (.aload_n 0, 1) := by decide +kernel
theorem dX6_readCommand_74 : decode cX6_readCommand 74 = .ok (.iload_n 1, 1) := by decide +kernel
theorem dX6_readCommand_75 : decode cX6_readCommand 75 = .ok (.iconst 2, 1) := by decide +kernel
theorem dX6_readCommand_76 : decode cX6_readCommand 76 = .ok (.if_icmp .ne 10, 3) := by decide +kernel
theorem dX6_readCommand_79 : decode cX6_readCommand 79 = .ok (.aload_n 0, 1) := by decide +kernel
theorem dX6_readCommand_80 : decode cX6_readCommand 80 = .ok (.invokevirtual 41, 3) := by decide +kernel
theorem dX6_readCommand_83 : decode cX6_readCommand 83 = .ok (.goto 4, 3) := by decide +kernel
theorem dX6_readCommand_86 : decode cX6_readCommand 86 = .ok (.iconst 0, 1) := by decide +kernel
theorem dX6_readCommand_87 : decode cX6_readCommand 87 = .ok (.putfield 51, 3) := by decide +kernel
theorem dX6_readCommand_90 : decode cX6_readCommand 90 = .ok (.aload_n 0, 1) := by decide +kernel
theorem dX6_readCommand_91 : decode cX6_readCommand 91 = .ok (.getfield 51, 3) := by decide +kernel
theorem dX6_readCommand_94 : decode cX6_readCommand 94 = .ok (.ifCond .lt 16, 3) := by decide +kernel
theorem dX6_readCommand_97 : decode cX6_readCommand 97 = .ok (.aload_n 0, 1) := by decide +kernel
theorem dX6_readCommand_98 : decode cX6_readCommand 98 = .ok (.bipush 59, 2) := by decide +kernel
theorem dX6_readCommand_100 : decode cX6_readCommand 100 = .ok (.invokevirtual 47, 3) := by decide +kernel
theorem dX6_readCommand_103 : decode cX6_readCommand 103 = .ok (.ifCond .eq 7, 3) := by decide +kernel
theorem dX6_readCommand_106 : decode cX6_readCommand 106 = .ok (.iconst 1, 1) := by decide +kernel
theorem dX6_readCommand_107 : decode cX6_readCommand 107 = .ok (.goto 4, 3) := by decide +kernel
theorem dX6_readCommand_110 : decode cX6_readCommand 110 = .ok (.iconst 0, 1) := by decide +kernel
theorem dX6_readCommand_111 : decode cX6_readCommand 111 = .ok (.ireturn, 1) := by decide +kernel
theorem dX6_numbersOf_0 : decode cX6_numbersOf 0 = .ok (.iload_n 0, 1) := by decide +kernel
theorem dX6_numbersOf_1 : decode cX6_numbersOf 1 = .ok (.tableswitch 109 99 120 #[105, 109, 105, 109, 109, 109, 109, 109, 109, 109, 109, 109, 107, 109, 109, 109, 107, 105, 103, 109, 103, 107], 103) := by decide +kernel
theorem dX6_numbersOf_104 : decode cX6_numbersOf 104 = .ok (.iconst 2, 1) := by decide +kernel
theorem dX6_numbersOf_105 : decode cX6_numbersOf 105 = .ok (.ireturn, 1) := by decide +kernel
theorem dX6_numbersOf_106 : decode cX6_numbersOf 106 = .ok (.iconst 1, 1) := by decide +kernel
theorem dX6_numbersOf_107 : decode cX6_numbersOf 107 = .ok (.ireturn, 1) := by decide +kernel
theorem dX6_numbersOf_108 : decode cX6_numbersOf 108 = .ok (.iconst 0, 1) := by decide +kernel
theorem dX6_numbersOf_109 : decode cX6_numbersOf 109 = .ok (.ireturn, 1) := by decide +kernel
theorem dX6_numbersOf_110 : decode cX6_numbersOf 110 = .ok (.iconst (-1), 1) := by decide +kernel
theorem dX6_numbersOf_111 : decode cX6_numbersOf 111 = .ok (.ireturn, 1) := by decide +kernel
theorem dX6_readNumber_0 : decode cX6_readNumber 0 = .ok (.iconst 0, 1) := by decide +kernel
theorem dX6_readNumber_1 : decode cX6_readNumber 1 = .ok (.istore_n 1, 1) := by decide +kernel
theorem dX6_readNumber_2 : decode cX6_readNumber 2 = .ok (.iconst 0, 1) := by decide +kernel
theorem dX6_readNumber_3 : decode cX6_readNumber 3 = .ok (.istore_n 2, 1) := by decide +kernel
theorem dX6_readNumber_4 : decode cX6_readNumber 4 = .ok (.iload_n 2, 1) := by decide +kernel
theorem dX6_readNumber_5 : decode cX6_readNumber 5 = .ok (.iconst 3, 1) := by decide +kernel
theorem dX6_readNumber_6 : decode cX6_readNumber 6 = .ok (.if_icmp .ge 46, 3) := by decide +kernel
theorem dX6_readNumber_9 : decode cX6_readNumber 9 = .ok (.aload_n 0, 1) := by decide +kernel
theorem dX6_readNumber_10 : decode cX6_readNumber 10 = .ok (.invokevirtual 30, 3) := by decide +kernel
theorem dX6_readNumber_13 : decode cX6_readNumber 13 = .ok (.bipush 48, 2) := by decide +kernel
theorem dX6_readNumber_15 : decode cX6_readNumber 15 = .ok (.bipush 57, 2) := by decide +kernel
theorem dX6_readNumber_17 : decode cX6_readNumber 17 = .ok (.invokestatic 19, 3) := by decide +kernel
theorem dX6_readNumber_20 : decode cX6_readNumber 20 = .ok (.ifCond .eq 32, 3) := by decide +kernel
theorem dX6_readNumber_23 : decode cX6_readNumber 23 = .ok (.iload_n 1, 1) := by decide +kernel
theorem dX6_readNumber_24 : decode cX6_readNumber 24 = .ok (.bipush 10, 2) := by decide +kernel
theorem dX6_readNumber_26 : decode cX6_readNumber 26 = .ok (.imul, 1) := by decide +kernel
theorem dX6_readNumber_27 : decode cX6_readNumber 27 = .ok (.aload_n 0, 1) := by decide +kernel
theorem dX6_readNumber_28 : decode cX6_readNumber 28 = .ok (.invokevirtual 30, 3) := by decide +kernel
theorem dX6_readNumber_31 : decode cX6_readNumber 31 = .ok (.bipush 48, 2) := by decide +kernel
theorem dX6_readNumber_33 : decode cX6_readNumber 33 = .ok (.isub, 1) := by decide +kernel
theorem dX6_readNumber_34 : decode cX6_readNumber 34 = .ok (.iadd, 1) := by decide +kernel
theorem dX6_readNumber_35 : decode cX6_readNumber 35 = .ok (.istore_n 1, 1) := by decide +kernel
theorem dX6_readNumber_36 : decode cX6_readNumber 36 = .ok (.iinc 2 1, 3) := by decide +kernel
theorem dX6_readNumber_39 : decode cX6_readNumber 39 = .ok (.aload_n 0, 1) := by decide +kernel
theorem dX6_readNumber_40 : decode cX6_readNumber 40 = .ok (.dup, 1) := by decide +kernel
theorem dX6_readNumber_41 : decode cX6_readNumber 41 = .ok (.getfield 27, 3) := by decide +kernel
theorem dX6_readNumber_44 : decode cX6_readNumber 44 = .ok (.iconst 1, 1) := by decide +kernel
theorem dX6_readNumber_45 : decode cX6_readNumber 45 = .ok (.iadd, 1) := by decide +kernel
theorem dX6_readNumber_46 : decode cX6_readNumber 46 = .ok (.putfield 27, 3) := by decide +kernel
theorem dX6_readNumber_49 : decode cX6_readNumber 49 = .ok (.goto (-45), 3) := by decide +kernel
theorem dX6_readNumber_52 : decode cX6_readNumber 52 = .ok (.iload_n 2, 1) := by decide +kernel
theorem dX6_readNumber_53 : decode cX6_readNumber 53 = .ok (.ifCond .ne 7, 3) := by decide +kernel
theorem dX6_readNumber_56 : decode cX6_readNumber 56 = .ok (.iconst (-1), 1) := by decide +kernel
theorem dX6_readNumber_57 : decode cX6_readNumber 57 = .ok (.goto 4, 3) := by decide +kernel
theorem dX6_readNumber_60 : decode cX6_readNumber 60 = .ok (.iload_n 1, 1) := by decide +kernel
theorem dX6_readNumber_61 : decode cX6_readNumber 61 = .ok (.ireturn, 1) := by decide +kernel
theorem dX6_readSign_0 : decode cX6_readSign 0 = .ok (.aload_n 0, 1) := by decide +kernel
theorem dX6_readSign_1 : decode cX6_readSign 1 = .ok (.invokevirtual 30, 3) := by decide +kernel
theorem dX6_readSign_4 : decode cX6_readSign 4 = .ok (.iload_n 1, 1) := by decide +kernel
theorem dX6_readSign_5 : decode cX6_readSign 5 = .ok (.if_icmp .ne 7, 3) := by decide +kernel
theorem dX6_readSign_8 : decode cX6_readSign 8 = .ok (.iconst 1, 1) := by decide +kernel
theorem dX6_readSign_9 : decode cX6_readSign 9 = .ok (.goto 4, 3) := by decide +kernel
theorem dX6_readSign_12 : decode cX6_readSign 12 = .ok (.iconst 0, 1) := by decide +kernel
theorem dX6_readSign_13 : decode cX6_readSign 13 = .ok (.istore_n 2, 1) := by decide +kernel
theorem dX6_readSign_14 : decode cX6_readSign 14 = .ok (.aload_n 0, 1) := by decide +kernel
theorem dX6_readSign_15 : decode cX6_readSign 15 = .ok (.dup, 1) := by decide +kernel
theorem dX6_readSign_16 : decode cX6_readSign 16 = .ok (.getfield 27, 3) := by decide +kernel
theorem dX6_readSign_19 : decode cX6_readSign 19 = .ok (.iconst 1, 1) := by decide +kernel
theorem dX6_readSign_20 : decode cX6_readSign 20 = .ok (.iadd, 1) := by decide +kernel
theorem dX6_readSign_21 : decode cX6_readSign 21 = .ok (.putfield 27, 3) := by decide +kernel
theorem dX6_readSign_24 : decode cX6_readSign 24 = .ok (.iload_n 2, 1) := by decide +kernel
theorem dX6_readSign_25 : decode cX6_readSign 25 = .ok (.ireturn, 1) := by decide +kernel
theorem dX6_sign_0 : decode cX6_sign 0 = .ok (.aload_n 0, 1) := by decide +kernel
theorem dX6_sign_1 : decode cX6_sign 1 = .ok (.getfield 27, 3) := by decide +kernel
theorem dX6_sign_4 : decode cX6_sign 4 = .ok (.aload_n 0, 1) := by decide +kernel
theorem dX6_sign_5 : decode cX6_sign 5 = .ok (.getfield 15, 3) := by decide +kernel
theorem dX6_sign_8 : decode cX6_sign 8 = .ok (.if_icmp .ge 17, 3) := by decide +kernel
theorem dX6_sign_11 : decode cX6_sign 11 = .ok (.aload_n 0, 1) := by decide +kernel
theorem dX6_sign_12 : decode cX6_sign 12 = .ok (.getfield 9, 3) := by decide +kernel
theorem dX6_sign_15 : decode cX6_sign 15 = .ok (.aload_n 0, 1) := by decide +kernel
theorem dX6_sign_16 : decode cX6_sign 16 = .ok (.getfield 27, 3) := by decide +kernel
theorem dX6_sign_19 : decode cX6_sign 19 = .ok (.invokestatic 54, 3) := by decide +kernel
theorem dX6_sign_22 : decode cX6_sign 22 = .ok (.goto 4, 3) := by decide +kernel
theorem dX6_sign_25 : decode cX6_sign 25 = .ok (.iconst 0, 1) := by decide +kernel
theorem dX6_sign_26 : decode cX6_sign 26 = .ok (.ireturn, 1) := by decide +kernel
theorem dX7_init_0 : decode cX7_init 0 = .ok (.aload_n 0, 1) := by decide +kernel
theorem dX7_init_1 : decode cX7_init 1 = .ok (.invokespecial 3, 3) := by decide +kernel
theorem dX7_init_4 : decode cX7_init 4 = .ok (.return_, 1) := by decide +kernel
theorem dX7_copyFrom_0 : decode cX7_copyFrom 0 = .ok (.aload_n 0, 1) := by decide +kernel
theorem dX7_copyFrom_1 : decode cX7_copyFrom 1 = .ok (.aload_n 1, 1) := by decide +kernel
theorem dX7_copyFrom_2 : decode cX7_copyFrom 2 = .ok (.getfield 9, 3) := by decide +kernel
theorem dX7_copyFrom_5 : decode cX7_copyFrom 5 = .ok (.putfield 9, 3) := by decide +kernel
theorem dX7_copyFrom_8 : decode cX7_copyFrom 8 = .ok (.aload_n 0, 1) := by decide +kernel
theorem dX7_copyFrom_9 : decode cX7_copyFrom 9 = .ok (.aload_n 1, 1) := by decide +kernel
theorem dX7_copyFrom_10 : decode cX7_copyFrom 10 = .ok (.getfield 15, 3) := by decide +kernel
theorem dX7_copyFrom_13 : decode cX7_copyFrom 13 = .ok (.putfield 15, 3) := by decide +kernel
theorem dX7_copyFrom_16 : decode cX7_copyFrom 16 = .ok (.aload_n 0, 1) := by decide +kernel
theorem dX7_copyFrom_17 : decode cX7_copyFrom 17 = .ok (.aload_n 1, 1) := by decide +kernel
theorem dX7_copyFrom_18 : decode cX7_copyFrom 18 = .ok (.getfield 18, 3) := by decide +kernel
theorem dX7_copyFrom_21 : decode cX7_copyFrom 21 = .ok (.putfield 18, 3) := by decide +kernel
theorem dX7_copyFrom_24 : decode cX7_copyFrom 24 = .ok (.aload_n 0, 1) := by decide +kernel
theorem dX7_copyFrom_25 : decode cX7_copyFrom 25 = .ok (.aload_n 1, 1) := by decide +kernel
theorem dX7_copyFrom_26 : decode cX7_copyFrom 26 = .ok (.getfield 22, 3) := by decide +kernel
theorem dX7_copyFrom_29 : decode cX7_copyFrom 29 = .ok (.putfield 22, 3) := by decide +kernel
theorem dX7_copyFrom_32 : decode cX7_copyFrom 32 = .ok (.aload_n 0, 1) := by decide +kernel
theorem dX7_copyFrom_33 : decode cX7_copyFrom 33 = .ok (.aload_n 1, 1) := by decide +kernel
theorem dX7_copyFrom_34 : decode cX7_copyFrom 34 = .ok (.getfield 25, 3) := by decide +kernel
theorem dX7_copyFrom_37 : decode cX7_copyFrom 37 = .ok (.putfield 25, 3) := by decide +kernel
theorem dX7_copyFrom_40 : decode cX7_copyFrom 40 = .ok (.aload_n 0, 1) := by decide +kernel
theorem dX7_copyFrom_41 : decode cX7_copyFrom 41 = .ok (.aload_n 1, 1) := by decide +kernel
theorem dX7_copyFrom_42 : decode cX7_copyFrom 42 = .ok (.getfield 28, 3) := by decide +kernel
theorem dX7_copyFrom_45 : decode cX7_copyFrom 45 = .ok (.putfield 28, 3) := by decide +kernel
theorem dX7_copyFrom_48 : decode cX7_copyFrom 48 = .ok (.aload_n 0, 1) := by decide +kernel
theorem dX7_copyFrom_49 : decode cX7_copyFrom 49 = .ok (.aload_n 1, 1) := by decide +kernel
theorem dX7_copyFrom_50 : decode cX7_copyFrom 50 = .ok (.getfield 31, 3) := by decide +kernel
theorem dX7_copyFrom_53 : decode cX7_copyFrom 53 = .ok (.putfield 31, 3) := by decide +kernel
theorem dX7_copyFrom_56 : decode cX7_copyFrom 56 = .ok (.aload_n 0, 1) := by decide +kernel
theorem dX7_copyFrom_57 : decode cX7_copyFrom 57 = .ok (.aload_n 1, 1) := by decide +kernel
theorem dX7_copyFrom_58 : decode cX7_copyFrom 58 = .ok (.getfield 34, 3) := by decide +kernel
theorem dX7_copyFrom_61 : decode cX7_copyFrom 61 = .ok (.putfield 34, 3) := by decide +kernel
theorem dX7_copyFrom_64 : decode cX7_copyFrom 64 = .ok (.return_, 1) := by decide +kernel
theorem dX7_isBehindBackup_0 : decode cX7_isBehindBackup 0 = .ok (.aload_n 0, 1) := by decide +kernel
theorem dX7_isBehindBackup_1 : decode cX7_isBehindBackup 1 = .ok (.getfield 34, 3) := by decide +kernel
theorem dX7_isBehindBackup_4 : decode cX7_isBehindBackup 4 = .ok (.aload_n 0, 1) := by decide +kernel
theorem dX7_isBehindBackup_5 : decode cX7_isBehindBackup 5 = .ok (.getfield 31, 3) := by decide +kernel
theorem dX7_isBehindBackup_8 : decode cX7_isBehindBackup 8 = .ok (.if_icmp .gt 7, 3) := by decide +kernel
theorem dX7_isBehindBackup_11 : decode cX7_isBehindBackup 11 = .ok (.iconst 1, 1) := by decide +kernel
theorem dX7_isBehindBackup_12 : decode cX7_isBehindBackup 12 = .ok (.goto 4, 3) := by decide +kernel
theorem dX7_isBehindBackup_15 : decode cX7_isBehindBackup 15 = .ok (.iconst 0, 1) := by decide +kernel
theorem dX7_isBehindBackup_16 : decode cX7_isBehindBackup 16 = .ok (.ireturn, 1) := by decide +kernel
theorem dX7_hasBegunItself_0 : decode cX7_hasBegunItself 0 = .ok (.aload_n 0, 1) := by decide +kernel
theorem dX7_hasBegunItself_1 : decode cX7_hasBegunItself 1 = .ok (.getfield 34, 3) := by decide +kernel
theorem dX7_hasBegunItself_4 : decode cX7_hasBegunItself 4 = .ok (.aload_n 0, 1) := by decide +kernel
theorem dX7_hasBegunItself_5 : decode cX7_hasBegunItself 5 = .ok (.getfield 31, 3) := by decide +kernel
theorem dX7_hasBegunItself_8 : decode cX7_hasBegunItself 8 = .ok (.if_icmp .ge 7, 3) := by decide +kernel
theorem dX7_hasBegunItself_11 : decode cX7_hasBegunItself 11 = .ok (.iconst 1, 1) := by decide +kernel
theorem dX7_hasBegunItself_12 : decode cX7_hasBegunItself 12 = .ok (.goto 4, 3) := by decide +kernel
theorem dX7_hasBegunItself_15 : decode cX7_hasBegunItself 15 = .ok (.iconst 0, 1) := by decide +kernel
theorem dX7_hasBegunItself_16 : decode cX7_hasBegunItself 16 = .ok (.ireturn, 1) := by decide +kernel
theorem dX7_isAskedFor_0 : decode cX7_isAskedFor 0 = .ok (.aload_n 0, 1) := by decide +kernel
theorem dX7_isAskedFor_1 : decode cX7_isAskedFor 1 = .ok (.getfield 18, 3) := by decide +kernel
theorem dX7_isAskedFor_4 : decode cX7_isAskedFor 4 = .ok (.iconst 1, 1) := by decide +kernel
theorem dX7_isAskedFor_5 : decode cX7_isAskedFor 5 = .ok (.if_icmp .eq 11, 3) := by decide +kernel
theorem dX7_isAskedFor_8 : decode cX7_isAskedFor 8 = .ok (.aload_n 0, 1) := by decide +kernel
theorem dX7_isAskedFor_9 : decode cX7_isAskedFor 9 = .ok (.getfield 18, 3) := by decide +kernel
theorem dX7_isAskedFor_12 : decode cX7_isAskedFor 12 = .ok (.iconst 2, 1) := by decide +kernel
theorem dX7_isAskedFor_13 : decode cX7_isAskedFor 13 = .ok (.if_icmp .ne 7, 3) := by decide +kernel
theorem dX7_isAskedFor_16 : decode cX7_isAskedFor 16 = .ok (.iconst 1, 1) := by decide +kernel
theorem dX7_isAskedFor_17 : decode cX7_isAskedFor 17 = .ok (.goto 4, 3) := by decide +kernel
theorem dX7_isAskedFor_20 : decode cX7_isAskedFor 20 = .ok (.iconst 0, 1) := by decide +kernel
theorem dX7_isAskedFor_21 : decode cX7_isAskedFor 21 = .ok (.ireturn, 1) := by decide +kernel
theorem dX8_init_0 : decode cX8_init 0 = .ok (.aload_n 0, 1) := by decide +kernel
theorem dX8_init_1 : decode cX8_init 1 = .ok (.invokespecial 3, 3) := by decide +kernel
theorem dX8_init_4 : decode cX8_init 4 = .ok (.aload_n 0, 1) := by decide +kernel
theorem dX8_init_5 : decode cX8_init 5 = .ok (.new 9, 3) := by decide +kernel
theorem dX8_init_8 : decode cX8_init 8 = .ok (.dup, 1) := by decide +kernel
theorem dX8_init_9 : decode cX8_init 9 = .ok (.invokespecial 11, 3) := by decide +kernel
theorem dX8_init_12 : decode cX8_init 12 = .ok (.putfield 12, 3) := by decide +kernel
theorem dX8_init_15 : decode cX8_init 15 = .ok (.aload_n 0, 1) := by decide +kernel
theorem dX8_init_16 : decode cX8_init 16 = .ok (.new 9, 3) := by decide +kernel
theorem dX8_init_19 : decode cX8_init 19 = .ok (.dup, 1) := by decide +kernel
theorem dX8_init_20 : decode cX8_init 20 = .ok (.invokespecial 11, 3) := by decide +kernel
theorem dX8_init_23 : decode cX8_init 23 = .ok (.putfield 16, 3) := by decide +kernel
theorem dX8_init_26 : decode cX8_init 26 = .ok (.aload_n 0, 1) := by decide +kernel
theorem dX8_init_27 : decode cX8_init 27 = .ok (.new 19, 3) := by decide +kernel
theorem dX8_init_30 : decode cX8_init 30 = .ok (.dup, 1) := by decide +kernel
theorem dX8_init_31 : decode cX8_init 31 = .ok (.invokespecial 21, 3) := by decide +kernel
theorem dX8_init_34 : decode cX8_init 34 = .ok (.putfield 22, 3) := by decide +kernel
theorem dX8_init_37 : decode cX8_init 37 = .ok (.aload_n 0, 1) := by decide +kernel
theorem dX8_init_38 : decode cX8_init 38 = .ok (.new 26, 3) := by decide +kernel
theorem dX8_init_41 : decode cX8_init 41 = .ok (.dup, 1) := by decide +kernel
theorem dX8_init_42 : decode cX8_init 42 = .ok (.invokespecial 28, 3) := by decide +kernel
theorem dX8_init_45 : decode cX8_init 45 = .ok (.putfield 29, 3) := by decide +kernel
theorem dX8_init_48 : decode cX8_init 48 = .ok (.aload_n 0, 1) := by decide +kernel
theorem dX8_init_49 : decode cX8_init 49 = .ok (.new 33, 3) := by decide +kernel
theorem dX8_init_52 : decode cX8_init 52 = .ok (.dup, 1) := by decide +kernel
theorem dX8_init_53 : decode cX8_init 53 = .ok (.invokespecial 35, 3) := by decide +kernel
theorem dX8_init_56 : decode cX8_init 56 = .ok (.putfield 36, 3) := by decide +kernel
theorem dX8_init_59 : decode cX8_init 59 = .ok (.return_, 1) := by decide +kernel
theorem dX8_write_0 : decode cX8_write 0 = .ok (.iload_n 3, 1) := by decide +kernel
theorem dX8_write_1 : decode cX8_write 1 = .ok (.iconst 0, 1) := by decide +kernel
theorem dX8_write_2 : decode cX8_write 2 = .ok (.iconst 1, 1) := by decide +kernel
theorem dX8_write_3 : decode cX8_write 3 = .ok (.invokestatic 40, 3) := by decide +kernel
theorem dX8_write_6 : decode cX8_write 6 = .ok (.ifCond .ne 5, 3) := by decide +kernel
theorem dX8_write_9 : decode cX8_write 9 = .ok (.iconst (-1), 1) := by decide +kernel
theorem dX8_write_10 : decode cX8_write 10 = .ok (.ireturn, 1) := by decide +kernel
theorem dX8_write_11 : decode cX8_write 11 = .ok (.aload_n 0, 1) := by decide +kernel
theorem dX8_write_12 : decode cX8_write 12 = .ok (.getfield 22, 3) := by decide +kernel
theorem dX8_write_15 : decode cX8_write 15 = .ok (.aload_n 0, 1) := by decide +kernel
theorem dX8_write_16 : decode cX8_write 16 = .ok (.getfield 12, 3) := by decide +kernel
theorem dX8_write_19 : decode cX8_write 19 = .ok (.invokevirtual 44, 3) := by decide +kernel
theorem dX8_write_22 : decode cX8_write 22 = .ok (.aload_n 0, 1) := by decide +kernel
theorem dX8_write_23 : decode cX8_write 23 = .ok (.aload_n 0, 1) := by decide +kernel
theorem dX8_write_24 : decode cX8_write 24 = .ok (.getfield 12, 3) := by decide +kernel
theorem dX8_write_27 : decode cX8_write 27 = .ok (.iload_n 1, 1) := by decide +kernel
theorem dX8_write_28 : decode cX8_write 28 = .ok (.iload_n 2, 1) := by decide +kernel
theorem dX8_write_29 : decode cX8_write 29 = .ok (.iload_n 3, 1) := by decide +kernel
theorem dX8_write_30 : decode cX8_write 30 = .ok (.iconst 1, 1) := by decide +kernel
theorem dX8_write_31 : decode cX8_write 31 = .ok (.if_icmp .ne 7, 3) := by decide +kernel
theorem dX8_write_34 : decode cX8_write 34 = .ok (.iconst 1, 1) := by decide +kernel
theorem dX8_write_35 : decode cX8_write 35 = .ok (.goto 4, 3) := by decide +kernel
theorem dX8_write_38 : decode cX8_write 38 = .ok (.iconst 2, 1) := by decide +kernel
theorem dX8_write_39 : decode cX8_write 39 = .ok (.invokevirtual 48, 3) := by decide +kernel
theorem dX8_write_42 : decode cX8_write 42 = .ok (.invokevirtual 52, 3) := by decide +kernel
theorem dX8_write_45 : decode cX8_write 45 = .ok (.ireturn, 1) := by decide +kernel
theorem dX8_tick_0 : decode cX8_tick 0 = .ok (.aload_n 0, 1) := by decide +kernel
theorem dX8_tick_1 : decode cX8_tick 1 = .ok (.getfield 22, 3) := by decide +kernel
theorem dX8_tick_4 : decode cX8_tick 4 = .ok (.aload_n 0, 1) := by decide +kernel
theorem dX8_tick_5 : decode cX8_tick 5 = .ok (.getfield 12, 3) := by decide +kernel
theorem dX8_tick_8 : decode cX8_tick 8 = .ok (.invokevirtual 44, 3) := by decide +kernel
theorem dX8_tick_11 : decode cX8_tick 11 = .ok (.aload_n 0, 1) := by decide +kernel
theorem dX8_tick_12 : decode cX8_tick 12 = .ok (.aload_n 0, 1) := by decide +kernel
theorem dX8_tick_13 : decode cX8_tick 13 = .ok (.getfield 12, 3) := by decide +kernel
theorem dX8_tick_16 : decode cX8_tick 16 = .ok (.iload_n 1, 1) := by decide +kernel
theorem dX8_tick_17 : decode cX8_tick 17 = .ok (.invokevirtual 56, 3) := by decide +kernel
theorem dX8_tick_20 : decode cX8_tick 20 = .ok (.invokevirtual 52, 3) := by decide +kernel
theorem dX8_tick_23 : decode cX8_tick 23 = .ok (.ireturn, 1) := by decide +kernel
theorem dX8_cut_0 : decode cX8_cut 0 = .ok (.aload_n 0, 1) := by decide +kernel
theorem dX8_cut_1 : decode cX8_cut 1 = .ok (.getfield 22, 3) := by decide +kernel
theorem dX8_cut_4 : decode cX8_cut 4 = .ok (.aload_n 0, 1) := by decide +kernel
theorem dX8_cut_5 : decode cX8_cut 5 = .ok (.getfield 12, 3) := by decide +kernel
theorem dX8_cut_8 : decode cX8_cut 8 = .ok (.invokevirtual 44, 3) := by decide +kernel
theorem dX8_cut_11 : decode cX8_cut 11 = .ok (.aload_n 0, 1) := by decide +kernel
theorem dX8_cut_12 : decode cX8_cut 12 = .ok (.aload_n 0, 1) := by decide +kernel
theorem dX8_cut_13 : decode cX8_cut 13 = .ok (.getfield 12, 3) := by decide +kernel
theorem dX8_cut_16 : decode cX8_cut 16 = .ok (.invokevirtual 59, 3) := by decide +kernel
theorem dX8_cut_19 : decode cX8_cut 19 = .ok (.invokevirtual 52, 3) := by decide +kernel
theorem dX8_cut_22 : decode cX8_cut 22 = .ok (.ireturn, 1) := by decide +kernel
theorem dX8_on_0 : decode cX8_on 0 = .ok (.aload_n 0, 1) := by decide +kernel
theorem dX8_on_1 : decode cX8_on 1 = .ok (.getfield 22, 3) := by decide +kernel
theorem dX8_on_4 : decode cX8_on 4 = .ok (.aload_n 0, 1) := by decide +kernel
theorem dX8_on_5 : decode cX8_on 5 = .ok (.getfield 12, 3) := by decide +kernel
theorem dX8_on_8 : decode cX8_on 8 = .ok (.invokevirtual 44, 3) := by decide +kernel
theorem dX8_on_11 : decode cX8_on 11 = .ok (.aload_n 0, 1) := by decide +kernel
theorem dX8_on_12 : decode cX8_on 12 = .ok (.aload_n 0, 1) := by decide +kernel
theorem dX8_on_13 : decode cX8_on 13 = .ok (.getfield 12, 3) := by decide +kernel
theorem dX8_on_16 : decode cX8_on 16 = .ok (.invokevirtual 63, 3) := by decide +kernel
theorem dX8_on_19 : decode cX8_on 19 = .ok (.invokevirtual 52, 3) := by decide +kernel
theorem dX8_on_22 : decode cX8_on 22 = .ok (.ireturn, 1) := by decide +kernel
theorem dX8_turn_0 : decode cX8_turn 0 = .ok (.aload_n 0, 1) := by decide +kernel
theorem dX8_turn_1 : decode cX8_turn 1 = .ok (.getfield 22, 3) := by decide +kernel
theorem dX8_turn_4 : decode cX8_turn 4 = .ok (.aload_n 0, 1) := by decide +kernel
theorem dX8_turn_5 : decode cX8_turn 5 = .ok (.getfield 12, 3) := by decide +kernel
theorem dX8_turn_8 : decode cX8_turn 8 = .ok (.invokevirtual 44, 3) := by decide +kernel
theorem dX8_turn_11 : decode cX8_turn 11 = .ok (.aload_n 0, 1) := by decide +kernel
theorem dX8_turn_12 : decode cX8_turn 12 = .ok (.aload_n 0, 1) := by decide +kernel
theorem dX8_turn_13 : decode cX8_turn 13 = .ok (.getfield 12, 3) := by decide +kernel
theorem dX8_turn_16 : decode cX8_turn 16 = .ok (.invokevirtual 66, 3) := by decide +kernel
theorem dX8_turn_19 : decode cX8_turn 19 = .ok (.invokevirtual 52, 3) := by decide +kernel
theorem dX8_turn_22 : decode cX8_turn 22 = .ok (.ireturn, 1) := by decide +kernel
theorem dX8_clean_0 : decode cX8_clean 0 = .ok (.aload_n 0, 1) := by decide +kernel
theorem dX8_clean_1 : decode cX8_clean 1 = .ok (.getfield 22, 3) := by decide +kernel
theorem dX8_clean_4 : decode cX8_clean 4 = .ok (.aload_n 0, 1) := by decide +kernel
theorem dX8_clean_5 : decode cX8_clean 5 = .ok (.getfield 12, 3) := by decide +kernel
theorem dX8_clean_8 : decode cX8_clean 8 = .ok (.invokevirtual 44, 3) := by decide +kernel
theorem dX8_clean_11 : decode cX8_clean 11 = .ok (.aload_n 0, 1) := by decide +kernel
theorem dX8_clean_12 : decode cX8_clean 12 = .ok (.aload_n 0, 1) := by decide +kernel
theorem dX8_clean_13 : decode cX8_clean 13 = .ok (.getfield 12, 3) := by decide +kernel
theorem dX8_clean_16 : decode cX8_clean 16 = .ok (.iload_n 1, 1) := by decide +kernel
theorem dX8_clean_17 : decode cX8_clean 17 = .ok (.invokevirtual 69, 3) := by decide +kernel
theorem dX8_clean_20 : decode cX8_clean 20 = .ok (.invokevirtual 52, 3) := by decide +kernel
theorem dX8_clean_23 : decode cX8_clean 23 = .ok (.ireturn, 1) := by decide +kernel
theorem dX8_erase_0 : decode cX8_erase 0 = .ok (.aload_n 0, 1) := by decide +kernel
theorem dX8_erase_1 : decode cX8_erase 1 = .ok (.getfield 22, 3) := by decide +kernel
theorem dX8_erase_4 : decode cX8_erase 4 = .ok (.aload_n 0, 1) := by decide +kernel
theorem dX8_erase_5 : decode cX8_erase 5 = .ok (.getfield 12, 3) := by decide +kernel
theorem dX8_erase_8 : decode cX8_erase 8 = .ok (.invokevirtual 44, 3) := by decide +kernel
theorem dX8_erase_11 : decode cX8_erase 11 = .ok (.aload_n 0, 1) := by decide +kernel
theorem dX8_erase_12 : decode cX8_erase 12 = .ok (.aload_n 0, 1) := by decide +kernel
theorem dX8_erase_13 : decode cX8_erase 13 = .ok (.getfield 12, 3) := by decide +kernel
theorem dX8_erase_16 : decode cX8_erase 16 = .ok (.iload_n 1, 1) := by decide +kernel
theorem dX8_erase_17 : decode cX8_erase 17 = .ok (.invokevirtual 72, 3) := by decide +kernel
theorem dX8_erase_20 : decode cX8_erase 20 = .ok (.invokevirtual 52, 3) := by decide +kernel
theorem dX8_erase_23 : decode cX8_erase 23 = .ok (.ireturn, 1) := by decide +kernel
theorem dX8_slow_0 : decode cX8_slow 0 = .ok (.aload_n 0, 1) := by decide +kernel
theorem dX8_slow_1 : decode cX8_slow 1 = .ok (.getfield 22, 3) := by decide +kernel
theorem dX8_slow_4 : decode cX8_slow 4 = .ok (.aload_n 0, 1) := by decide +kernel
theorem dX8_slow_5 : decode cX8_slow 5 = .ok (.getfield 12, 3) := by decide +kernel
theorem dX8_slow_8 : decode cX8_slow 8 = .ok (.invokevirtual 44, 3) := by decide +kernel
theorem dX8_slow_11 : decode cX8_slow 11 = .ok (.aload_n 0, 1) := by decide +kernel
theorem dX8_slow_12 : decode cX8_slow 12 = .ok (.aload_n 0, 1) := by decide +kernel
theorem dX8_slow_13 : decode cX8_slow 13 = .ok (.getfield 12, 3) := by decide +kernel
theorem dX8_slow_16 : decode cX8_slow 16 = .ok (.iload_n 1, 1) := by decide +kernel
theorem dX8_slow_17 : decode cX8_slow 17 = .ok (.iload_n 2, 1) := by decide +kernel
theorem dX8_slow_18 : decode cX8_slow 18 = .ok (.invokevirtual 75, 3) := by decide +kernel
theorem dX8_slow_21 : decode cX8_slow 21 = .ok (.invokevirtual 52, 3) := by decide +kernel
theorem dX8_slow_24 : decode cX8_slow 24 = .ok (.ireturn, 1) := by decide +kernel
theorem dX8_set_0 : decode cX8_set 0 = .ok (.aload_n 0, 1) := by decide +kernel
theorem dX8_set_1 : decode cX8_set 1 = .ok (.getfield 22, 3) := by decide +kernel
theorem dX8_set_4 : decode cX8_set 4 = .ok (.aload_n 0, 1) := by decide +kernel
theorem dX8_set_5 : decode cX8_set 5 = .ok (.getfield 12, 3) := by decide +kernel
theorem dX8_set_8 : decode cX8_set 8 = .ok (.invokevirtual 44, 3) := by decide +kernel
theorem dX8_set_11 : decode cX8_set 11 = .ok (.aload_n 0, 1) := by decide +kernel
theorem dX8_set_12 : decode cX8_set 12 = .ok (.aload_n 0, 1) := by decide +kernel
theorem dX8_set_13 : decode cX8_set 13 = .ok (.getfield 12, 3) := by decide +kernel
theorem dX8_set_16 : decode cX8_set 16 = .ok (.iload_n 1, 1) := by decide +kernel
theorem dX8_set_17 : decode cX8_set 17 = .ok (.iload_n 2, 1) := by decide +kernel
theorem dX8_set_18 : decode cX8_set 18 = .ok (.invokevirtual 79, 3) := by decide +kernel
theorem dX8_set_21 : decode cX8_set 21 = .ok (.invokevirtual 52, 3) := by decide +kernel
theorem dX8_set_24 : decode cX8_set 24 = .ok (.ireturn, 1) := by decide +kernel
theorem dX8_placeOf_0 : decode cX8_placeOf 0 = .ok (.aload_n 0, 1) := by decide +kernel
theorem dX8_placeOf_1 : decode cX8_placeOf 1 = .ok (.getfield 12, 3) := by decide +kernel
theorem dX8_placeOf_4 : decode cX8_placeOf 4 = .ok (.iload_n 1, 1) := by decide +kernel
theorem dX8_placeOf_5 : decode cX8_placeOf 5 = .ok (.iload_n 2, 1) := by decide +kernel
theorem dX8_placeOf_6 : decode cX8_placeOf 6 = .ok (.invokevirtual 85, 3) := by decide +kernel
theorem dX8_placeOf_9 : decode cX8_placeOf 9 = .ok (.ireturn, 1) := by decide +kernel
theorem dX8_pageOf_0 : decode cX8_pageOf 0 = .ok (.aload_n 0, 1) := by decide +kernel
theorem dX8_pageOf_1 : decode cX8_pageOf 1 = .ok (.getfield 12, 3) := by decide +kernel
theorem dX8_pageOf_4 : decode cX8_pageOf 4 = .ok (.iload_n 1, 1) := by decide +kernel
theorem dX8_pageOf_5 : decode cX8_pageOf 5 = .ok (.iload_n 2, 1) := by decide +kernel
theorem dX8_pageOf_6 : decode cX8_pageOf 6 = .ok (.iload_n 3, 1) := by decide +kernel
theorem dX8_pageOf_7 : decode cX8_pageOf 7 = .ok (.invokevirtual 88, 3) := by decide +kernel
theorem dX8_pageOf_10 : decode cX8_pageOf 10 = .ok (.ireturn, 1) := by decide +kernel
theorem dX8_backupOf_0 : decode cX8_backupOf 0 = .ok (.aload_n 0, 1) := by decide +kernel
theorem dX8_backupOf_1 : decode cX8_backupOf 1 = .ok (.getfield 12, 3) := by decide +kernel
theorem dX8_backupOf_4 : decode cX8_backupOf 4 = .ok (.iload_n 1, 1) := by decide +kernel
theorem dX8_backupOf_5 : decode cX8_backupOf 5 = .ok (.iload_n 2, 1) := by decide +kernel
theorem dX8_backupOf_6 : decode cX8_backupOf 6 = .ok (.iload_n 3, 1) := by decide +kernel
theorem dX8_backupOf_7 : decode cX8_backupOf 7 = .ok (.invokevirtual 91, 3) := by decide +kernel
theorem dX8_backupOf_10 : decode cX8_backupOf 10 = .ok (.ireturn, 1) := by decide +kernel
theorem dX8_waits_0 : decode cX8_waits 0 = .ok (.aload_n 0, 1) := by decide +kernel
theorem dX8_waits_1 : decode cX8_waits 1 = .ok (.getfield 12, 3) := by decide +kernel
theorem dX8_waits_4 : decode cX8_waits 4 = .ok (.iload_n 1, 1) := by decide +kernel
theorem dX8_waits_5 : decode cX8_waits 5 = .ok (.iload_n 2, 1) := by decide +kernel
theorem dX8_waits_6 : decode cX8_waits 6 = .ok (.invokevirtual 94, 3) := by decide +kernel
theorem dX8_waits_9 : decode cX8_waits 9 = .ok (.ireturn, 1) := by decide +kernel
theorem dX8_count_0 : decode cX8_count 0 = .ok (.iload_n 1, 1) := by decide +kernel
theorem dX8_count_1 : decode cX8_count 1 = .ok (.bipush 16, 2) := by decide +kernel
theorem dX8_count_3 : decode cX8_count 3 = .ok (.if_icmp .ne 11, 3) := by decide +kernel
theorem dX8_count_6 : decode cX8_count 6 = .ok (.aload_n 0, 1) := by decide +kernel
theorem dX8_count_7 : decode cX8_count 7 = .ok (.getfield 22, 3) := by decide +kernel
theorem dX8_count_10 : decode cX8_count 10 = .ok (.invokevirtual 97, 3) := by decide +kernel
theorem dX8_count_13 : decode cX8_count 13 = .ok (.ireturn, 1) := by decide +kernel
theorem dX8_count_14 : decode cX8_count 14 = .ok (.iload_n 1, 1) := by decide +kernel
theorem dX8_count_15 : decode cX8_count 15 = .ok (.bipush 17, 2) := by decide +kernel
theorem dX8_count_17 : decode cX8_count 17 = .ok (.if_icmp .ne 11, 3) := by decide +kernel
theorem dX8_count_20 : decode cX8_count 20 = .ok (.aload_n 0, 1) := by decide +kernel
theorem dX8_count_21 : decode cX8_count 21 = .ok (.getfield 29, 3) := by decide +kernel
theorem dX8_count_24 : decode cX8_count 24 = .ok (.invokevirtual 100, 3) := by decide +kernel
theorem dX8_count_27 : decode cX8_count 27 = .ok (.ireturn, 1) := by decide +kernel
theorem dX8_count_28 : decode cX8_count 28 = .ok (.aload_n 0, 1) := by decide +kernel
theorem dX8_count_29 : decode cX8_count 29 = .ok (.getfield 12, 3) := by decide +kernel
theorem dX8_count_32 : decode cX8_count 32 = .ok (.iload_n 1, 1) := by decide +kernel
theorem dX8_count_33 : decode cX8_count 33 = .ok (.invokevirtual 103, 3) := by decide +kernel
theorem dX8_count_36 : decode cX8_count 36 = .ok (.ireturn, 1) := by decide +kernel
theorem dX8_undo_0 : decode cX8_undo 0 = .ok (.aload_n 0, 1) := by decide +kernel
theorem dX8_undo_1 : decode cX8_undo 1 = .ok (.getfield 22, 3) := by decide +kernel
theorem dX8_undo_4 : decode cX8_undo 4 = .ok (.aload_n 0, 1) := by decide +kernel
theorem dX8_undo_5 : decode cX8_undo 5 = .ok (.getfield 12, 3) := by decide +kernel
theorem dX8_undo_8 : decode cX8_undo 8 = .ok (.invokevirtual 123, 3) := by decide +kernel
theorem dX8_undo_11 : decode cX8_undo 11 = .ok (.ireturn, 1) := by decide +kernel
theorem dX8_type_0 : decode cX8_type 0 = .ok (.aload_n 0, 1) := by decide +kernel
theorem dX8_type_1 : decode cX8_type 1 = .ok (.getfield 29, 3) := by decide +kernel
theorem dX8_type_4 : decode cX8_type 4 = .ok (.iload_n 1, 1) := by decide +kernel
theorem dX8_type_5 : decode cX8_type 5 = .ok (.invokevirtual 127, 3) := by decide +kernel
theorem dX8_type_8 : decode cX8_type 8 = .ok (.ireturn, 1) := by decide +kernel
theorem dX8_clearText_0 : decode cX8_clearText 0 = .ok (.aload_n 0, 1) := by decide +kernel
theorem dX8_clearText_1 : decode cX8_clearText 1 = .ok (.getfield 29, 3) := by decide +kernel
theorem dX8_clearText_4 : decode cX8_clearText 4 = .ok (.invokevirtual 130, 3) := by decide +kernel
theorem dX8_clearText_7 : decode cX8_clearText 7 = .ok (.ireturn, 1) := by decide +kernel
theorem dX8_fault_0 : decode cX8_fault 0 = .ok (.iload_n 1, 1) := by decide +kernel
theorem dX8_fault_1 : decode cX8_fault 1 = .ok (.iconst 0, 1) := by decide +kernel
theorem dX8_fault_2 : decode cX8_fault 2 = .ok (.iconst 2, 1) := by decide +kernel
theorem dX8_fault_3 : decode cX8_fault 3 = .ok (.invokestatic 40, 3) := by decide +kernel
theorem dX8_fault_6 : decode cX8_fault 6 = .ok (.ifCond .ne 5, 3) := by decide +kernel
theorem dX8_fault_9 : decode cX8_fault 9 = .ok (.iconst (-1), 1) := by decide +kernel
theorem dX8_fault_10 : decode cX8_fault 10 = .ok (.ireturn, 1) := by decide +kernel
theorem dX8_fault_11 : decode cX8_fault 11 = .ok (.aload_n 0, 1) := by decide +kernel
theorem dX8_fault_12 : decode cX8_fault 12 = .ok (.getfield 16, 3) := by decide +kernel
theorem dX8_fault_15 : decode cX8_fault 15 = .ok (.aload_n 0, 1) := by decide +kernel
theorem dX8_fault_16 : decode cX8_fault 16 = .ok (.getfield 12, 3) := by decide +kernel
theorem dX8_fault_19 : decode cX8_fault 19 = .ok (.invokevirtual 110, 3) := by decide +kernel
theorem dX8_fault_22 : decode cX8_fault 22 = .ok (.aload_n 0, 1) := by decide +kernel
theorem dX8_fault_23 : decode cX8_fault 23 = .ok (.getfield 36, 3) := by decide +kernel
theorem dX8_fault_26 : decode cX8_fault 26 = .ok (.aload_n 0, 1) := by decide +kernel
theorem dX8_fault_27 : decode cX8_fault 27 = .ok (.getfield 29, 3) := by decide +kernel
theorem dX8_fault_30 : decode cX8_fault 30 = .ok (.aload_n 0, 1) := by decide +kernel
theorem dX8_fault_31 : decode cX8_fault 31 = .ok (.getfield 16, 3) := by decide +kernel
theorem dX8_fault_34 : decode cX8_fault 34 = .ok (.invokevirtual 133, 3) := by decide +kernel
theorem dX8_fault_37 : decode cX8_fault 37 = .ok (.aload_n 0, 1) := by decide +kernel
theorem dX8_fault_38 : decode cX8_fault 38 = .ok (.getfield 36, 3) := by decide +kernel
theorem dX8_fault_41 : decode cX8_fault 41 = .ok (.iload_n 1, 1) := by decide +kernel
theorem dX8_fault_42 : decode cX8_fault 42 = .ok (.invokevirtual 137, 3) := by decide +kernel
theorem dX8_fault_45 : decode cX8_fault 45 = .ok (.ireturn, 1) := by decide +kernel
theorem dX8_play_0 : decode cX8_play 0 = .ok (.aload_n 0, 1) := by decide +kernel
theorem dX8_play_1 : decode cX8_play 1 = .ok (.getfield 16, 3) := by decide +kernel
theorem dX8_play_4 : decode cX8_play 4 = .ok (.aload_n 0, 1) := by decide +kernel
theorem dX8_play_5 : decode cX8_play 5 = .ok (.getfield 12, 3) := by decide +kernel
theorem dX8_play_8 : decode cX8_play 8 = .ok (.invokevirtual 110, 3) := by decide +kernel
theorem dX8_play_11 : decode cX8_play 11 = .ok (.aload_n 0, 1) := by decide +kernel
theorem dX8_play_12 : decode cX8_play 12 = .ok (.getfield 36, 3) := by decide +kernel
theorem dX8_play_15 : decode cX8_play 15 = .ok (.aload_n 0, 1) := by decide +kernel
theorem dX8_play_16 : decode cX8_play 16 = .ok (.getfield 29, 3) := by decide +kernel
theorem dX8_play_19 : decode cX8_play 19 = .ok (.aload_n 0, 1) := by decide +kernel
theorem dX8_play_20 : decode cX8_play 20 = .ok (.getfield 16, 3) := by decide +kernel
theorem dX8_play_23 : decode cX8_play 23 = .ok (.invokevirtual 133, 3) := by decide +kernel
theorem dX8_play_26 : decode cX8_play 26 = .ok (.aload_n 0, 1) := by decide +kernel
theorem dX8_play_27 : decode cX8_play 27 = .ok (.getfield 36, 3) := by decide +kernel
theorem dX8_play_30 : decode cX8_play 30 = .ok (.invokevirtual 140, 3) := by decide +kernel
theorem dX8_play_33 : decode cX8_play 33 = .ok (.ifCond .eq 6, 3) := by decide +kernel
theorem dX8_play_36 : decode cX8_play 36 = .ok (.bipush (-2), 2) := by decide +kernel
theorem dX8_play_38 : decode cX8_play 38 = .ok (.ireturn, 1) := by decide +kernel
theorem dX8_play_39 : decode cX8_play 39 = .ok (.aload_n 0, 1) := by decide +kernel
theorem dX8_play_40 : decode cX8_play 40 = .ok (.getfield 22, 3) := by decide +kernel
theorem dX8_play_43 : decode cX8_play 43 = .ok (.aload_n 0, 1) := by decide +kernel
theorem dX8_play_44 : decode cX8_play 44 = .ok (.getfield 12, 3) := by decide +kernel
theorem dX8_play_47 : decode cX8_play 47 = .ok (.invokevirtual 44, 3) := by decide +kernel
theorem dX8_play_50 : decode cX8_play 50 = .ok (.aload_n 0, 1) := by decide +kernel
theorem dX8_play_51 : decode cX8_play 51 = .ok (.getfield 12, 3) := by decide +kernel
theorem dX8_play_54 : decode cX8_play 54 = .ok (.aload_n 0, 1) := by decide +kernel
theorem dX8_play_55 : decode cX8_play 55 = .ok (.getfield 16, 3) := by decide +kernel
theorem dX8_play_58 : decode cX8_play 58 = .ok (.invokevirtual 110, 3) := by decide +kernel
theorem dX8_play_61 : decode cX8_play 61 = .ok (.aload_n 0, 1) := by decide +kernel
theorem dX8_play_62 : decode cX8_play 62 = .ok (.aload_n 0, 1) := by decide +kernel
theorem dX8_play_63 : decode cX8_play 63 = .ok (.getfield 36, 3) := by decide +kernel
theorem dX8_play_66 : decode cX8_play 66 = .ok (.invokevirtual 143, 3) := by decide +kernel
theorem dX8_play_69 : decode cX8_play 69 = .ok (.invokevirtual 52, 3) := by decide +kernel
theorem dX8_play_72 : decode cX8_play 72 = .ok (.ireturn, 1) := by decide +kernel
theorem dX8_keepChange_0 : decode cX8_keepChange 0 = .ok (.iload_n 1, 1) := by decide +kernel
theorem dX8_keepChange_1 : decode cX8_keepChange 1 = .ok (.ifCond .lt 10, 3) := by decide +kernel
theorem dX8_keepChange_4 : decode cX8_keepChange 4 = .ok (.aload_n 0, 1) := by decide +kernel
theorem dX8_keepChange_5 : decode cX8_keepChange 5 = .ok (.getfield 22, 3) := by decide +kernel
theorem dX8_keepChange_8 : decode cX8_keepChange 8 = .ok (.invokevirtual 146, 3) := by decide +kernel
theorem dX8_keepChange_11 : decode cX8_keepChange 11 = .ok (.iload_n 1, 1) := by decide +kernel
theorem dX8_keepChange_12 : decode cX8_keepChange 12 = .ok (.ireturn, 1) := by decide +kernel
theorem dX8_isIn_0 : decode cX8_isIn 0 = .ok (.iload_n 0, 1) := by decide +kernel
theorem dX8_isIn_1 : decode cX8_isIn 1 = .ok (.iload_n 1, 1) := by decide +kernel
theorem dX8_isIn_2 : decode cX8_isIn 2 = .ok (.if_icmp .lt 12, 3) := by decide +kernel
theorem dX8_isIn_5 : decode cX8_isIn 5 = .ok (.iload_n 0, 1) := by decide +kernel
theorem dX8_isIn_6 : decode cX8_isIn 6 = .ok (.iload_n 2, 1) := by decide +kernel
theorem dX8_isIn_7 : decode cX8_isIn 7 = .ok (.if_icmp .gt 7, 3) := by decide +kernel
theorem dX8_isIn_10 : decode cX8_isIn 10 = .ok (.iconst 1, 1) := by decide +kernel
theorem dX8_isIn_11 : decode cX8_isIn 11 = .ok (.goto 4, 3) := by decide +kernel
theorem dX8_isIn_14 : decode cX8_isIn 14 = .ok (.iconst 0, 1) := by decide +kernel
theorem dX8_isIn_15 : decode cX8_isIn 15 = .ok (.ireturn, 1) := by decide +kernel
theorem dX8_valueAt_0 : decode cX8_valueAt 0 = .ok (.iload_n 1, 1) := by decide +kernel
theorem dX8_valueAt_1 : decode cX8_valueAt 1 = .ok (.ifCond .lt 15, 3) := by decide +kernel
theorem dX8_valueAt_4 : decode cX8_valueAt 4 = .ok (.iload_n 1, 1) := by decide +kernel
theorem dX8_valueAt_5 : decode cX8_valueAt 5 = .ok (.aload_n 0, 1) := by decide +kernel
theorem dX8_valueAt_6 : decode cX8_valueAt 6 = .ok (.arraylength, 1) := by decide +kernel
theorem dX8_valueAt_7 : decode cX8_valueAt 7 = .ok (.if_icmp .ge 9, 3) := by decide +kernel
theorem dX8_valueAt_10 : decode cX8_valueAt 10 = .ok (.aload_n 0, 1) := by decide +kernel
theorem dX8_valueAt_11 : decode cX8_valueAt 11 = .ok (.iload_n 1, 1) := by decide +kernel
theorem dX8_valueAt_12 : decode cX8_valueAt 12 = .ok (.iaload, 1) := by decide +kernel
theorem dX8_valueAt_13 : decode cX8_valueAt 13 = .ok (.goto 4, 3) := by decide +kernel
theorem dX8_valueAt_16 : decode cX8_valueAt 16 = .ok (.iconst 0, 1) := by decide +kernel
theorem dX8_valueAt_17 : decode cX8_valueAt 17 = .ok (.ireturn, 1) := by decide +kernel
theorem dX8_putAt_0 : decode cX8_putAt 0 = .ok (.iload_n 1, 1) := by decide +kernel
theorem dX8_putAt_1 : decode cX8_putAt 1 = .ok (.ifCond .lt 13, 3) := by decide +kernel
theorem dX8_putAt_4 : decode cX8_putAt 4 = .ok (.iload_n 1, 1) := by decide +kernel
theorem dX8_putAt_5 : decode cX8_putAt 5 = .ok (.aload_n 0, 1) := by decide +kernel
theorem dX8_putAt_6 : decode cX8_putAt 6 = .ok (.arraylength, 1) := by decide +kernel
theorem dX8_putAt_7 : decode cX8_putAt 7 = .ok (.if_icmp .ge 7, 3) := by decide +kernel
theorem dX8_putAt_10 : decode cX8_putAt 10 = .ok (.aload_n 0, 1) := by decide +kernel
theorem dX8_putAt_11 : decode cX8_putAt 11 = .ok (.iload_n 1, 1) := by decide +kernel
theorem dX8_putAt_12 : decode cX8_putAt 12 = .ok (.iload_n 2, 1) := by decide +kernel
theorem dX8_putAt_13 : decode cX8_putAt 13 = .ok (.iastore, 1) := by decide +kernel
theorem dX8_putAt_14 : decode cX8_putAt 14 = .ok (.return_, 1) := by decide +kernel
theorem dX8_copyRow_0 : decode cX8_copyRow 0 = .ok (.aload_n 0, 1) := by decide +kernel
theorem dX8_copyRow_1 : decode cX8_copyRow 1 = .ok (.iconst 0, 1) := by decide +kernel
theorem dX8_copyRow_2 : decode cX8_copyRow 2 = .ok (.aload_n 1, 1) := by decide +kernel
theorem dX8_copyRow_3 : decode cX8_copyRow 3 = .ok (.iconst 0, 1) := by decide +kernel
theorem dX8_copyRow_4 : decode cX8_copyRow 4 = .ok (.aload_n 0, 1) := by decide +kernel
theorem dX8_copyRow_5 : decode cX8_copyRow 5 = .ok (.arraylength, 1) := by decide +kernel
theorem dX8_copyRow_6 : decode cX8_copyRow 6 = .ok (.aload_n 1, 1) := by decide +kernel
theorem dX8_copyRow_7 : decode cX8_copyRow 7 = .ok (.arraylength, 1) := by decide +kernel
theorem dX8_copyRow_8 : decode cX8_copyRow 8 = .ok (.invokestatic 149, 3) := by decide +kernel
theorem dX8_copyRow_11 : decode cX8_copyRow 11 = .ok (.invokestatic 154, 3) := by decide +kernel
theorem dX8_copyRow_14 : decode cX8_copyRow 14 = .ok (.return_, 1) := by decide +kernel
theorem dX8_quotient_0 : decode cX8_quotient 0 = .ok (.iload_n 1, 1) := by decide +kernel
theorem dX8_quotient_1 : decode cX8_quotient 1 = .ok (.ifCond .le 9, 3) := by decide +kernel
theorem dX8_quotient_4 : decode cX8_quotient 4 = .ok (.iload_n 0, 1) := by decide +kernel
theorem dX8_quotient_5 : decode cX8_quotient 5 = .ok (.iload_n 1, 1) := by decide +kernel
theorem dX8_quotient_6 : decode cX8_quotient 6 = .ok (.idiv, 1) := by decide +kernel
theorem dX8_quotient_7 : decode cX8_quotient 7 = .ok (.goto 4, 3) := by decide +kernel
theorem dX8_quotient_10 : decode cX8_quotient 10 = .ok (.iconst 0, 1) := by decide +kernel
theorem dX8_quotient_11 : decode cX8_quotient 11 = .ok (.ireturn, 1) := by decide +kernel
theorem dX8_cellOf_0 : decode cX8_cellOf 0 = .ok (.iload_n 0, 1) := by decide +kernel
theorem dX8_cellOf_1 : decode cX8_cellOf 1 = .ok (.bipush 24, 2) := by decide +kernel
theorem dX8_cellOf_3 : decode cX8_cellOf 3 = .ok (.imul, 1) := by decide +kernel
theorem dX8_cellOf_4 : decode cX8_cellOf 4 = .ok (.iload_n 1, 1) := by decide +kernel
theorem dX8_cellOf_5 : decode cX8_cellOf 5 = .ok (.iadd, 1) := by decide +kernel
theorem dX8_cellOf_6 : decode cX8_cellOf 6 = .ok (.ireturn, 1) := by decide +kernel
theorem dX8_earlyPosition_0 : decode cX8_earlyPosition 0 = .ok (.iload_n 0, 1) := by decide +kernel
theorem dX8_earlyPosition_1 : decode cX8_earlyPosition 1 = .ok (.ifCond .ne 7, 3) := by decide +kernel
theorem dX8_earlyPosition_4 : decode cX8_earlyPosition 4 = .ok (.iconst 0, 1) := by decide +kernel
theorem dX8_earlyPosition_5 : decode cX8_earlyPosition 5 = .ok (.goto 8, 3) := by decide +kernel
theorem dX8_earlyPosition_8 : decode cX8_earlyPosition 8 = .ok (.iconst 2, 1) := by decide +kernel
theorem dX8_earlyPosition_9 : decode cX8_earlyPosition 9 = .ok (.iload_n 0, 1) := by decide +kernel
theorem dX8_earlyPosition_10 : decode cX8_earlyPosition 10 = .ok (.imul, 1) := by decide +kernel
theorem dX8_earlyPosition_11 : decode cX8_earlyPosition 11 = .ok (.iconst 1, 1) := by decide +kernel
theorem dX8_earlyPosition_12 : decode cX8_earlyPosition 12 = .ok (.isub, 1) := by decide +kernel
theorem dX8_earlyPosition_13 : decode cX8_earlyPosition 13 = .ok (.ireturn, 1) := by decide +kernel
theorem dJ6_bitCount_0f7a4_0 : decode cJ6_bitCount_0f7a4 0 = .ok (.iload_n 0, 1) := by decide +kernel
theorem dJ6_bitCount_0f7a4_1 : decode cJ6_bitCount_0f7a4 1 = .ok (.iload_n 0, 1) := by decide +kernel
theorem dJ6_bitCount_0f7a4_2 : decode cJ6_bitCount_0f7a4 2 = .ok (.iconst 1, 1) := by decide +kernel
theorem dJ6_bitCount_0f7a4_3 : decode cJ6_bitCount_0f7a4 3 = .ok (.iushr, 1) := by decide +kernel
theorem dJ6_bitCount_0f7a4_4 : decode cJ6_bitCount_0f7a4 4 = .ok (.ldc_w 265, 3) := by decide +kernel
theorem dJ6_bitCount_0f7a4_7 : decode cJ6_bitCount_0f7a4 7 = .ok (.iand, 1) := by decide +kernel
theorem dJ6_bitCount_0f7a4_8 : decode cJ6_bitCount_0f7a4 8 = .ok (.isub, 1) := by decide +kernel
theorem dJ6_bitCount_0f7a4_9 : decode cJ6_bitCount_0f7a4 9 = .ok (.istore_n 0, 1) := by decide +kernel
theorem dJ6_bitCount_0f7a4_10 : decode cJ6_bitCount_0f7a4 10 = .ok (.iload_n 0, 1) := by decide +kernel
theorem dJ6_bitCount_0f7a4_11 : decode cJ6_bitCount_0f7a4 11 = .ok (.ldc_w 266, 3) := by decide +kernel
theorem dJ6_bitCount_0f7a4_14 : decode cJ6_bitCount_0f7a4 14 = .ok (.iand, 1) := by decide +kernel
theorem dJ6_bitCount_0f7a4_15 : decode cJ6_bitCount_0f7a4 15 = .ok (.iload_n 0, 1) := by decide +kernel
theorem dJ6_bitCount_0f7a4_16 : decode cJ6_bitCount_0f7a4 16 = .ok (.iconst 2, 1) := by decide +kernel
theorem dJ6_bitCount_0f7a4_17 : decode cJ6_bitCount_0f7a4 17 = .ok (.iushr, 1) := by decide +kernel
theorem dJ6_bitCount_0f7a4_18 : decode cJ6_bitCount_0f7a4 18 = .ok (.ldc_w 266, 3) := by decide +kernel
theorem dJ6_bitCount_0f7a4_21 : decode cJ6_bitCount_0f7a4 21 = .ok (.iand, 1) := by decide +kernel
theorem dJ6_bitCount_0f7a4_22 : decode cJ6_bitCount_0f7a4 22 = .ok (.iadd, 1) := by decide +kernel
theorem dJ6_bitCount_0f7a4_23 : decode cJ6_bitCount_0f7a4 23 = .ok (.istore_n 0, 1) := by decide +kernel
theorem dJ6_bitCount_0f7a4_24 : decode cJ6_bitCount_0f7a4 24 = .ok (.iload_n 0, 1) := by decide +kernel
theorem dJ6_bitCount_0f7a4_25 : decode cJ6_bitCount_0f7a4 25 = .ok (.iload_n 0, 1) := by decide +kernel
theorem dJ6_bitCount_0f7a4_26 : decode cJ6_bitCount_0f7a4 26 = .ok (.iconst 4, 1) := by decide +kernel
theorem dJ6_bitCount_0f7a4_27 : decode cJ6_bitCount_0f7a4 27 = .ok (.iushr, 1) := by decide +kernel
theorem dJ6_bitCount_0f7a4_28 : decode cJ6_bitCount_0f7a4 28 = .ok (.iadd, 1) := by decide +kernel
theorem dJ6_bitCount_0f7a4_29 : decode cJ6_bitCount_0f7a4 29 = .ok (.ldc_w 267, 3) := by decide +kernel
theorem dJ6_bitCount_0f7a4_32 : decode cJ6_bitCount_0f7a4 32 = .ok (.iand, 1) := by decide +kernel
theorem dJ6_bitCount_0f7a4_33 : decode cJ6_bitCount_0f7a4 33 = .ok (.istore_n 0, 1) := by decide +kernel
theorem dJ6_bitCount_0f7a4_34 : decode cJ6_bitCount_0f7a4 34 = .ok (.iload_n 0, 1) := by decide +kernel
theorem dJ6_bitCount_0f7a4_35 : decode cJ6_bitCount_0f7a4 35 = .ok (.iload_n 0, 1) := by decide +kernel
theorem dJ6_bitCount_0f7a4_36 : decode cJ6_bitCount_0f7a4 36 = .ok (.bipush 8, 2) := by decide +kernel
theorem dJ6_bitCount_0f7a4_38 : decode cJ6_bitCount_0f7a4 38 = .ok (.iushr, 1) := by decide +kernel
theorem dJ6_bitCount_0f7a4_39 : decode cJ6_bitCount_0f7a4 39 = .ok (.iadd, 1) := by decide +kernel
theorem dJ6_bitCount_0f7a4_40 : decode cJ6_bitCount_0f7a4 40 = .ok (.istore_n 0, 1) := by decide +kernel
theorem dJ6_bitCount_0f7a4_41 : decode cJ6_bitCount_0f7a4 41 = .ok (.iload_n 0, 1) := by decide +kernel
theorem dJ6_bitCount_0f7a4_42 : decode cJ6_bitCount_0f7a4 42 = .ok (.iload_n 0, 1) := by decide +kernel
theorem dJ6_bitCount_0f7a4_43 : decode cJ6_bitCount_0f7a4 43 = .ok (.bipush 16, 2) := by decide +kernel
theorem dJ6_bitCount_0f7a4_45 : decode cJ6_bitCount_0f7a4 45 = .ok (.iushr, 1) := by decide +kernel
theorem dJ6_bitCount_0f7a4_46 : decode cJ6_bitCount_0f7a4 46 = .ok (.iadd, 1) := by decide +kernel
theorem dJ6_bitCount_0f7a4_47 : decode cJ6_bitCount_0f7a4 47 = .ok (.istore_n 0, 1) := by decide +kernel
theorem dJ6_bitCount_0f7a4_48 : decode cJ6_bitCount_0f7a4 48 = .ok (.iload_n 0, 1) := by decide +kernel
theorem dJ6_bitCount_0f7a4_49 : decode cJ6_bitCount_0f7a4 49 = .ok (.bipush 63, 2) := by decide +kernel
theorem dJ6_bitCount_0f7a4_51 : decode cJ6_bitCount_0f7a4 51 = .ok (.iand, 1) := by decide +kernel
theorem dJ6_bitCount_0f7a4_52 : decode cJ6_bitCount_0f7a4 52 = .ok (.ireturn, 1) := by decide +kernel
theorem dJ9_max_7cf53_0 : decode cJ9_max_7cf53 0 = .ok (.iload_n 0, 1) := by decide +kernel
theorem dJ9_max_7cf53_1 : decode cJ9_max_7cf53 1 = .ok (.iload_n 1, 1) := by decide +kernel
theorem dJ9_max_7cf53_2 : decode cJ9_max_7cf53 2 = .ok (.if_icmp .lt 7, 3) := by decide +kernel
theorem dJ9_max_7cf53_5 : decode cJ9_max_7cf53 5 = .ok (.iload_n 0, 1) := by decide +kernel
theorem dJ9_max_7cf53_6 : decode cJ9_max_7cf53 6 = .ok (.goto 4, 3) := by decide +kernel
theorem dJ9_max_7cf53_9 : decode cJ9_max_7cf53 9 = .ok (.iload_n 1, 1) := by decide +kernel
theorem dJ9_max_7cf53_10 : decode cJ9_max_7cf53 10 = .ok (.ireturn, 1) := by decide +kernel
theorem dJ9_min_7cf53_0 : decode cJ9_min_7cf53 0 = .ok (.iload_n 0, 1) := by decide +kernel
theorem dJ9_min_7cf53_1 : decode cJ9_min_7cf53 1 = .ok (.iload_n 1, 1) := by decide +kernel
theorem dJ9_min_7cf53_2 : decode cJ9_min_7cf53 2 = .ok (.if_icmp .gt 7, 3) := by decide +kernel
theorem dJ9_min_7cf53_5 : decode cJ9_min_7cf53 5 = .ok (.iload_n 0, 1) := by decide +kernel
theorem dJ9_min_7cf53_6 : decode cJ9_min_7cf53 6 = .ok (.goto 4, 3) := by decide +kernel
theorem dJ9_min_7cf53_9 : decode cJ9_min_7cf53 9 = .ok (.iload_n 1, 1) := by decide +kernel
theorem dJ9_min_7cf53_10 : decode cJ9_min_7cf53 10 = .ok (.ireturn, 1) := by decide +kernel
theorem dL_lot_0 : decode cL_lot 0 = .ok (.iload_n 1, 1) := by decide +kernel
theorem dL_lot_1 : decode cL_lot 1 = .ok (.aload_n 0, 1) := by decide +kernel
theorem dL_lot_2 : decode cL_lot 2 = .ok (.arraylength, 1) := by decide +kernel
theorem dL_lot_3 : decode cL_lot 3 = .ok (.if_icmp .ge 9, 3) := by decide +kernel
theorem dL_lot_6 : decode cL_lot 6 = .ok (.aload_n 0, 1) := by decide +kernel
theorem dL_lot_7 : decode cL_lot 7 = .ok (.iload_n 1, 1) := by decide +kernel
theorem dL_lot_8 : decode cL_lot 8 = .ok (.iaload, 1) := by decide +kernel
theorem dL_lot_9 : decode cL_lot 9 = .ok (.goto 15, 3) := by decide +kernel
theorem dL_lot_12 : decode cL_lot 12 = .ok (.ldc 7, 2) := by decide +kernel
theorem dL_lot_14 : decode cL_lot 14 = .ok (.iload_n 1, 1) := by decide +kernel
theorem dL_lot_15 : decode cL_lot 15 = .ok (.sipush 2999, 3) := by decide +kernel
theorem dL_lot_18 : decode cL_lot 18 = .ok (.iadd, 1) := by decide +kernel
theorem dL_lot_19 : decode cL_lot 19 = .ok (.imul, 1) := by decide +kernel
theorem dL_lot_20 : decode cL_lot 20 = .ok (.sipush 2753, 3) := by decide +kernel
theorem dL_lot_23 : decode cL_lot 23 = .ok (.iadd, 1) := by decide +kernel
theorem dL_lot_24 : decode cL_lot 24 = .ok (.ireturn, 1) := by decide +kernel
theorem dL_low_0 : decode cL_low 0 = .ok (.iload_n 0, 1) := by decide +kernel
theorem dL_low_1 : decode cL_low 1 = .ok (.ldc 8, 2) := by decide +kernel
theorem dL_low_3 : decode cL_low 3 = .ok (.iand, 1) := by decide +kernel
theorem dL_low_4 : decode cL_low 4 = .ok (.iload_n 1, 1) := by decide +kernel
theorem dL_low_5 : decode cL_low 5 = .ok (.irem, 1) := by decide +kernel
theorem dL_low_6 : decode cL_low 6 = .ok (.ireturn, 1) := by decide +kernel
theorem dL_digest_0 : decode cL_digest 0 = .ok (.ldc2_w 9, 3) := by decide +kernel
theorem dL_digest_3 : decode cL_digest 3 = .ok (.lstore_n 1, 1) := by decide +kernel
theorem dL_digest_4 : decode cL_digest 4 = .ok (.iconst 0, 1) := by decide +kernel
theorem dL_digest_5 : decode cL_digest 5 = .ok (.istore_n 3, 1) := by decide +kernel
theorem dL_digest_6 : decode cL_digest 6 = .ok (.iload_n 3, 1) := by decide +kernel
theorem dL_digest_7 : decode cL_digest 7 = .ok (.bipush 38, 2) := by decide +kernel
theorem dL_digest_9 : decode cL_digest 9 = .ok (.if_icmp .ge 38, 3) := by decide +kernel
theorem dL_digest_12 : decode cL_digest 12 = .ok (.ldc2_w 11, 3) := by decide +kernel
theorem dL_digest_15 : decode cL_digest 15 = .ok (.lload_n 1, 1) := by decide +kernel
theorem dL_digest_16 : decode cL_digest 16 = .ok (.lmul, 1) := by decide +kernel
theorem dL_digest_17 : decode cL_digest 17 = .ok (.iload_n 3, 1) := by decide +kernel
theorem dL_digest_18 : decode cL_digest 18 = .ok (.bipush 16, 2) := by decide +kernel
theorem dL_digest_20 : decode cL_digest 20 = .ok (.if_icmp .eq 9, 3) := by decide +kernel
theorem dL_digest_23 : decode cL_digest 23 = .ok (.iload_n 3, 1) := by decide +kernel
theorem dL_digest_24 : decode cL_digest 24 = .ok (.bipush 17, 2) := by decide +kernel
theorem dL_digest_26 : decode cL_digest 26 = .ok (.if_icmp .ne 7, 3) := by decide +kernel
theorem dL_digest_29 : decode cL_digest 29 = .ok (.iconst 0, 1) := by decide +kernel
theorem dL_digest_30 : decode cL_digest 30 = .ok (.goto 8, 3) := by decide +kernel
theorem dL_digest_33 : decode cL_digest 33 = .ok (.aload_n 0, 1) := by decide +kernel
theorem dL_digest_34 : decode cL_digest 34 = .ok (.iload_n 3, 1) := by decide +kernel
theorem dL_digest_35 : decode cL_digest 35 = .ok (.invokevirtual 13, 3) := by decide +kernel
theorem dL_digest_38 : decode cL_digest 38 = .ok (.i2l, 1) := by decide +kernel
theorem dL_digest_39 : decode cL_digest 39 = .ok (.ladd, 1) := by decide +kernel
theorem dL_digest_40 : decode cL_digest 40 = .ok (.lstore_n 1, 1) := by decide +kernel
theorem dL_digest_41 : decode cL_digest 41 = .ok (.iinc 3 1, 3) := by decide +kernel
theorem dL_digest_44 : decode cL_digest 44 = .ok (.goto (-38), 3) := by decide +kernel
theorem dL_digest_47 : decode cL_digest 47 = .ok (.iconst 0, 1) := by decide +kernel
theorem dL_digest_48 : decode cL_digest 48 = .ok (.istore_n 3, 1) := by decide +kernel
theorem dL_digest_49 : decode cL_digest 49 = .ok (.iload_n 3, 1) := by decide +kernel
theorem dL_digest_50 : decode cL_digest 50 = .ok (.sipush 128, 3) := by decide +kernel
theorem dL_digest_53 : decode cL_digest 53 = .ok (.if_icmp .ge 34, 3) := by decide +kernel
theorem dL_digest_56 : decode cL_digest 56 = .ok (.ldc2_w 11, 3) := by decide +kernel
theorem dL_digest_59 : decode cL_digest 59 = .ok (.lload_n 1, 1) := by decide +kernel
theorem dL_digest_60 : decode cL_digest 60 = .ok (.lmul, 1) := by decide +kernel
theorem dL_digest_61 : decode cL_digest 61 = .ok (.aload_n 0, 1) := by decide +kernel
theorem dL_digest_62 : decode cL_digest 62 = .ok (.iload_n 3, 1) := by decide +kernel
theorem dL_digest_63 : decode cL_digest 63 = .ok (.bipush 64, 2) := by decide +kernel
theorem dL_digest_65 : decode cL_digest 65 = .ok (.idiv, 1) := by decide +kernel
theorem dL_digest_66 : decode cL_digest 66 = .ok (.iload_n 3, 1) := by decide +kernel
theorem dL_digest_67 : decode cL_digest 67 = .ok (.iconst 4, 1) := by decide +kernel
theorem dL_digest_68 : decode cL_digest 68 = .ok (.idiv, 1) := by decide +kernel
theorem dL_digest_69 : decode cL_digest 69 = .ok (.bipush 16, 2) := by decide +kernel
theorem dL_digest_71 : decode cL_digest 71 = .ok (.irem, 1) := by decide +kernel
theorem dL_digest_72 : decode cL_digest 72 = .ok (.iload_n 3, 1) := by decide +kernel
theorem dL_digest_73 : decode cL_digest 73 = .ok (.iconst 4, 1) := by decide +kernel
theorem dL_digest_74 : decode cL_digest 74 = .ok (.irem, 1) := by decide +kernel
theorem dL_digest_75 : decode cL_digest 75 = .ok (.invokevirtual 19, 3) := by decide +kernel
theorem dL_digest_78 : decode cL_digest 78 = .ok (.i2l, 1) := by decide +kernel
theorem dL_digest_79 : decode cL_digest 79 = .ok (.ladd, 1) := by decide +kernel
theorem dL_digest_80 : decode cL_digest 80 = .ok (.lstore_n 1, 1) := by decide +kernel
theorem dL_digest_81 : decode cL_digest 81 = .ok (.iinc 3 1, 3) := by decide +kernel
theorem dL_digest_84 : decode cL_digest 84 = .ok (.goto (-35), 3) := by decide +kernel
theorem dL_digest_87 : decode cL_digest 87 = .ok (.iconst 0, 1) := by decide +kernel
theorem dL_digest_88 : decode cL_digest 88 = .ok (.istore_n 3, 1) := by decide +kernel
theorem dL_digest_89 : decode cL_digest 89 = .ok (.iload_n 3, 1) := by decide +kernel
theorem dL_digest_90 : decode cL_digest 90 = .ok (.bipush 64, 2) := by decide +kernel
theorem dL_digest_92 : decode cL_digest 92 = .ok (.if_icmp .ge 34, 3) := by decide +kernel
theorem dL_digest_95 : decode cL_digest 95 = .ok (.ldc2_w 11, 3) := by decide +kernel
theorem dL_digest_98 : decode cL_digest 98 = .ok (.lload_n 1, 1) := by decide +kernel
theorem dL_digest_99 : decode cL_digest 99 = .ok (.lmul, 1) := by decide +kernel
theorem dL_digest_100 : decode cL_digest 100 = .ok (.aload_n 0, 1) := by decide +kernel
theorem dL_digest_101 : decode cL_digest 101 = .ok (.iload_n 3, 1) := by decide +kernel
theorem dL_digest_102 : decode cL_digest 102 = .ok (.bipush 32, 2) := by decide +kernel
theorem dL_digest_104 : decode cL_digest 104 = .ok (.idiv, 1) := by decide +kernel
theorem dL_digest_105 : decode cL_digest 105 = .ok (.iload_n 3, 1) := by decide +kernel
theorem dL_digest_106 : decode cL_digest 106 = .ok (.iconst 4, 1) := by decide +kernel
theorem dL_digest_107 : decode cL_digest 107 = .ok (.idiv, 1) := by decide +kernel
theorem dL_digest_108 : decode cL_digest 108 = .ok (.bipush 8, 2) := by decide +kernel
theorem dL_digest_110 : decode cL_digest 110 = .ok (.irem, 1) := by decide +kernel
theorem dL_digest_111 : decode cL_digest 111 = .ok (.iload_n 3, 1) := by decide +kernel
theorem dL_digest_112 : decode cL_digest 112 = .ok (.iconst 4, 1) := by decide +kernel
theorem dL_digest_113 : decode cL_digest 113 = .ok (.irem, 1) := by decide +kernel
theorem dL_digest_114 : decode cL_digest 114 = .ok (.invokevirtual 23, 3) := by decide +kernel
theorem dL_digest_117 : decode cL_digest 117 = .ok (.i2l, 1) := by decide +kernel
theorem dL_digest_118 : decode cL_digest 118 = .ok (.ladd, 1) := by decide +kernel
theorem dL_digest_119 : decode cL_digest 119 = .ok (.lstore_n 1, 1) := by decide +kernel
theorem dL_digest_120 : decode cL_digest 120 = .ok (.iinc 3 1, 3) := by decide +kernel
theorem dL_digest_123 : decode cL_digest 123 = .ok (.goto (-34), 3) := by decide +kernel
theorem dL_digest_126 : decode cL_digest 126 = .ok (.iconst 0, 1) := by decide +kernel
theorem dL_digest_127 : decode cL_digest 127 = .ok (.istore_n 3, 1) := by decide +kernel
theorem dL_digest_128 : decode cL_digest 128 = .ok (.iload_n 3, 1) := by decide +kernel
theorem dL_digest_129 : decode cL_digest 129 = .ok (.bipush 24, 2) := by decide +kernel
theorem dL_digest_131 : decode cL_digest 131 = .ok (.if_icmp .ge 27, 3) := by decide +kernel
theorem dL_digest_134 : decode cL_digest 134 = .ok (.ldc2_w 11, 3) := by decide +kernel
theorem dL_digest_137 : decode cL_digest 137 = .ok (.lload_n 1, 1) := by decide +kernel
theorem dL_digest_138 : decode cL_digest 138 = .ok (.lmul, 1) := by decide +kernel
theorem dL_digest_139 : decode cL_digest 139 = .ok (.aload_n 0, 1) := by decide +kernel
theorem dL_digest_140 : decode cL_digest 140 = .ok (.iload_n 3, 1) := by decide +kernel
theorem dL_digest_141 : decode cL_digest 141 = .ok (.iconst 3, 1) := by decide +kernel
theorem dL_digest_142 : decode cL_digest 142 = .ok (.idiv, 1) := by decide +kernel
theorem dL_digest_143 : decode cL_digest 143 = .ok (.iload_n 3, 1) := by decide +kernel
theorem dL_digest_144 : decode cL_digest 144 = .ok (.iconst 3, 1) := by decide +kernel
theorem dL_digest_145 : decode cL_digest 145 = .ok (.irem, 1) := by decide +kernel
theorem dL_digest_146 : decode cL_digest 146 = .ok (.invokevirtual 26, 3) := by decide +kernel
theorem dL_digest_149 : decode cL_digest 149 = .ok (.i2l, 1) := by decide +kernel
theorem dL_digest_150 : decode cL_digest 150 = .ok (.ladd, 1) := by decide +kernel
theorem dL_digest_151 : decode cL_digest 151 = .ok (.lstore_n 1, 1) := by decide +kernel
theorem dL_digest_152 : decode cL_digest 152 = .ok (.iinc 3 1, 3) := by decide +kernel
theorem dL_digest_155 : decode cL_digest 155 = .ok (.goto (-27), 3) := by decide +kernel
theorem dL_digest_158 : decode cL_digest 158 = .ok (.lload_n 1, 1) := by decide +kernel
theorem dL_digest_159 : decode cL_digest 159 = .ok (.lreturn, 1) := by decide +kernel
theorem dL_holds_0 : decode cL_holds 0 = .ok (.iconst 0, 1) := by decide +kernel
theorem dL_holds_1 : decode cL_holds 1 = .ok (.istore_n 1, 1) := by decide +kernel
theorem dL_holds_2 : decode cL_holds 2 = .ok (.iconst 0, 1) := by decide +kernel
theorem dL_holds_3 : decode cL_holds 3 = .ok (.istore_n 2, 1) := by decide +kernel
theorem dL_holds_4 : decode cL_holds 4 = .ok (.iconst 0, 1) := by decide +kernel
theorem dL_holds_5 : decode cL_holds 5 = .ok (.istore_n 3, 1) := by decide +kernel
theorem dL_holds_6 : decode cL_holds 6 = .ok (.iload_n 3, 1) := by decide +kernel
theorem dL_holds_7 : decode cL_holds 7 = .ok (.bipush 32, 2) := by decide +kernel
theorem dL_holds_9 : decode cL_holds 9 = .ok (.if_icmp .ge 78, 3) := by decide +kernel
theorem dL_holds_12 : decode cL_holds 12 = .ok (.aload_n 0, 1) := by decide +kernel
theorem dL_holds_13 : decode cL_holds 13 = .ok (.iload_n 3, 1) := by decide +kernel
theorem dL_holds_14 : decode cL_holds 14 = .ok (.bipush 16, 2) := by decide +kernel
theorem dL_holds_16 : decode cL_holds 16 = .ok (.idiv, 1) := by decide +kernel
theorem dL_holds_17 : decode cL_holds 17 = .ok (.iload_n 3, 1) := by decide +kernel
theorem dL_holds_18 : decode cL_holds 18 = .ok (.bipush 16, 2) := by decide +kernel
theorem dL_holds_20 : decode cL_holds 20 = .ok (.irem, 1) := by decide +kernel
theorem dL_holds_21 : decode cL_holds 21 = .ok (.iconst 0, 1) := by decide +kernel
theorem dL_holds_22 : decode cL_holds 22 = .ok (.invokevirtual 19, 3) := by decide +kernel
theorem dL_holds_25 : decode cL_holds 25 = .ok (.istore 4, 2) := by decide +kernel
theorem dL_holds_27 : decode cL_holds 27 = .ok (.iload_n 1, 1) := by decide +kernel
theorem dL_holds_28 : decode cL_holds 28 = .ok (.iload 4, 2) := by decide +kernel
theorem dL_holds_30 : decode cL_holds 30 = .ok (.iconst 3, 1) := by decide +kernel
theorem dL_holds_31 : decode cL_holds 31 = .ok (.if_icmp .ne 7, 3) := by decide +kernel
theorem dL_holds_34 : decode cL_holds 34 = .ok (.iconst 1, 1) := by decide +kernel
theorem dL_holds_35 : decode cL_holds 35 = .ok (.goto 4, 3) := by decide +kernel
theorem dL_holds_38 : decode cL_holds 38 = .ok (.iconst 0, 1) := by decide +kernel
theorem dL_holds_39 : decode cL_holds 39 = .ok (.iadd, 1) := by decide +kernel
theorem dL_holds_40 : decode cL_holds 40 = .ok (.istore_n 1, 1) := by decide +kernel
theorem dL_holds_41 : decode cL_holds 41 = .ok (.iload_n 2, 1) := by decide +kernel
theorem dL_holds_42 : decode cL_holds 42 = .ok (.iload 4, 2) := by decide +kernel
theorem dL_holds_44 : decode cL_holds 44 = .ok (.iconst 1, 1) := by decide +kernel
theorem dL_holds_45 : decode cL_holds 45 = .ok (.if_icmp .ne 7, 3) := by decide +kernel
theorem dL_holds_48 : decode cL_holds 48 = .ok (.iconst 1, 1) := by decide +kernel
theorem dL_holds_49 : decode cL_holds 49 = .ok (.goto 4, 3) := by decide +kernel
theorem dL_holds_52 : decode cL_holds 52 = .ok (.iconst 0, 1) := by decide +kernel
theorem dL_holds_53 : decode cL_holds 53 = .ok (.iadd, 1) := by decide +kernel
theorem dL_holds_54 : decode cL_holds 54 = .ok (.istore_n 2, 1) := by decide +kernel
theorem dL_holds_55 : decode cL_holds 55 = .ok (.iload 4, 2) := by decide +kernel
theorem dL_holds_57 : decode cL_holds 57 = .ok (.iconst 2, 1) := by decide +kernel
theorem dL_holds_58 : decode cL_holds 58 = .ok (.if_icmp .ge 23, 3) := by decide +kernel
theorem dL_holds_61 : decode cL_holds 61 = .ok (.iload_n 3, 1) := by decide +kernel
theorem dL_holds_62 : decode cL_holds 62 = .ok (.bipush 16, 2) := by decide +kernel
theorem dL_holds_64 : decode cL_holds 64 = .ok (.idiv, 1) := by decide +kernel
theorem dL_holds_65 : decode cL_holds 65 = .ok (.aload_n 0, 1) := by decide +kernel
theorem dL_holds_66 : decode cL_holds 66 = .ok (.iconst 2, 1) := by decide +kernel
theorem dL_holds_67 : decode cL_holds 67 = .ok (.invokevirtual 13, 3) := by decide +kernel
theorem dL_holds_70 : decode cL_holds 70 = .ok (.if_icmp .eq 11, 3) := by decide +kernel
theorem dL_holds_73 : decode cL_holds 73 = .ok (.iload 4, 2) := by decide +kernel
theorem dL_holds_75 : decode cL_holds 75 = .ok (.iconst 1, 1) := by decide +kernel
theorem dL_holds_76 : decode cL_holds 76 = .ok (.if_icmp .ne 5, 3) := by decide +kernel
theorem dL_holds_79 : decode cL_holds 79 = .ok (.iconst 0, 1) := by decide +kernel
theorem dL_holds_80 : decode cL_holds 80 = .ok (.ireturn, 1) := by decide +kernel
theorem dL_holds_81 : decode cL_holds 81 = .ok (.iinc 3 1, 3) := by decide +kernel
theorem dL_holds_84 : decode cL_holds 84 = .ok (.goto (-78), 3) := by decide +kernel
theorem dL_holds_87 : decode cL_holds 87 = .ok (.iconst 0, 1) := by decide +kernel
theorem dL_holds_88 : decode cL_holds 88 = .ok (.istore_n 3, 1) := by decide +kernel
theorem dL_holds_89 : decode cL_holds 89 = .ok (.iconst 0, 1) := by decide +kernel
theorem dL_holds_90 : decode cL_holds 90 = .ok (.istore 4, 2) := by decide +kernel
theorem dL_holds_92 : decode cL_holds 92 = .ok (.iload 4, 2) := by decide +kernel
theorem dL_holds_94 : decode cL_holds 94 = .ok (.bipush 12, 2) := by decide +kernel
theorem dL_holds_96 : decode cL_holds 96 = .ok (.if_icmp .ge 163, 3) := by decide +kernel
theorem dL_holds_99 : decode cL_holds 99 = .ok (.aload_n 0, 1) := by decide +kernel
theorem dL_holds_100 : decode cL_holds 100 = .ok (.iload 4, 2) := by decide +kernel
theorem dL_holds_102 : decode cL_holds 102 = .ok (.iconst 0, 1) := by decide +kernel
theorem dL_holds_103 : decode cL_holds 103 = .ok (.invokevirtual 30, 3) := by decide +kernel
theorem dL_holds_106 : decode cL_holds 106 = .ok (.istore 5, 2) := by decide +kernel
theorem dL_holds_108 : decode cL_holds 108 = .ok (.aload_n 0, 1) := by decide +kernel
theorem dL_holds_109 : decode cL_holds 109 = .ok (.iload 4, 2) := by decide +kernel
theorem dL_holds_111 : decode cL_holds 111 = .ok (.iconst 1, 1) := by decide +kernel
theorem dL_holds_112 : decode cL_holds 112 = .ok (.invokevirtual 30, 3) := by decide +kernel
theorem dL_holds_115 : decode cL_holds 115 = .ok (.istore 6, 2) := by decide +kernel
theorem dL_holds_117 : decode cL_holds 117 = .ok (.iload_n 3, 1) := by decide +kernel
theorem dL_holds_118 : decode cL_holds 118 = .ok (.iload 5, 2) := by decide +kernel
theorem dL_holds_120 : decode cL_holds 120 = .ok (.ifCond .lt 7, 3) := by decide +kernel
theorem dL_holds_123 : decode cL_holds 123 = .ok (.iconst 1, 1) := by decide +kernel
theorem dL_holds_124 : decode cL_holds 124 = .ok (.goto 4, 3) := by decide +kernel
theorem dL_holds_127 : decode cL_holds 127 = .ok (.iconst 0, 1) := by decide +kernel
theorem dL_holds_128 : decode cL_holds 128 = .ok (.iadd, 1) := by decide +kernel
theorem dL_holds_129 : decode cL_holds 129 = .ok (.istore_n 3, 1) := by decide +kernel
theorem dL_holds_130 : decode cL_holds 130 = .ok (.iconst 0, 1) := by decide +kernel
theorem dL_holds_131 : decode cL_holds 131 = .ok (.istore 7, 2) := by decide +kernel
theorem dL_holds_133 : decode cL_holds 133 = .ok (.iload 7, 2) := by decide +kernel
theorem dL_holds_135 : decode cL_holds 135 = .ok (.iload 4, 2) := by decide +kernel
theorem dL_holds_137 : decode cL_holds 137 = .ok (.if_icmp .ge 33, 3) := by decide +kernel
theorem dL_holds_140 : decode cL_holds 140 = .ok (.iload 5, 2) := by decide +kernel
theorem dL_holds_142 : decode cL_holds 142 = .ok (.ifCond .lt 22, 3) := by decide +kernel
theorem dL_holds_145 : decode cL_holds 145 = .ok (.aload_n 0, 1) := by decide +kernel
theorem dL_holds_146 : decode cL_holds 146 = .ok (.iload 7, 2) := by decide +kernel
theorem dL_holds_148 : decode cL_holds 148 = .ok (.iconst 2, 1) := by decide +kernel
theorem dL_holds_149 : decode cL_holds 149 = .ok (.invokevirtual 30, 3) := by decide +kernel
theorem dL_holds_152 : decode cL_holds 152 = .ok (.aload_n 0, 1) := by decide +kernel
theorem dL_holds_153 : decode cL_holds 153 = .ok (.iload 4, 2) := by decide +kernel
theorem dL_holds_155 : decode cL_holds 155 = .ok (.iconst 2, 1) := by decide +kernel
theorem dL_holds_156 : decode cL_holds 156 = .ok (.invokevirtual 30, 3) := by decide +kernel
theorem dL_holds_159 : decode cL_holds 159 = .ok (.if_icmp .ne 5, 3) := by decide +kernel
theorem dL_holds_162 : decode cL_holds 162 = .ok (.iconst 0, 1) := by decide +kernel
theorem dL_holds_163 : decode cL_holds 163 = .ok (.ireturn, 1) := by decide +kernel
theorem dL_holds_164 : decode cL_holds 164 = .ok (.iinc 7 1, 3) := by decide +kernel
theorem dL_holds_167 : decode cL_holds 167 = .ok (.goto (-34), 3) := by decide +kernel
theorem dL_holds_170 : decode cL_holds 170 = .ok (.iload 5, 2) := by decide +kernel
theorem dL_holds_172 : decode cL_holds 172 = .ok (.ifCond .lt 81, 3) := by decide +kernel
theorem dL_holds_175 : decode cL_holds 175 = .ok (.iload 6, 2) := by decide +kernel
theorem dL_holds_177 : decode cL_holds 177 = .ok (.bipush 16, 2) := by decide +kernel
theorem dL_holds_179 : decode cL_holds 179 = .ok (.if_icmp .ge 39, 3) := by decide +kernel
theorem dL_holds_182 : decode cL_holds 182 = .ok (.aload_n 0, 1) := by decide +kernel
theorem dL_holds_183 : decode cL_holds 183 = .ok (.iload 5, 2) := by decide +kernel
theorem dL_holds_185 : decode cL_holds 185 = .ok (.iload 6, 2) := by decide +kernel
theorem dL_holds_187 : decode cL_holds 187 = .ok (.iconst 1, 1) := by decide +kernel
theorem dL_holds_188 : decode cL_holds 188 = .ok (.invokevirtual 19, 3) := by decide +kernel
theorem dL_holds_191 : decode cL_holds 191 = .ok (.iload 4, 2) := by decide +kernel
theorem dL_holds_193 : decode cL_holds 193 = .ok (.if_icmp .ne 58, 3) := by decide +kernel
theorem dL_holds_196 : decode cL_holds 196 = .ok (.aload_n 0, 1) := by decide +kernel
theorem dL_holds_197 : decode cL_holds 197 = .ok (.iload 5, 2) := by decide +kernel
theorem dL_holds_199 : decode cL_holds 199 = .ok (.iload 6, 2) := by decide +kernel
theorem dL_holds_201 : decode cL_holds 201 = .ok (.iconst 3, 1) := by decide +kernel
theorem dL_holds_202 : decode cL_holds 202 = .ok (.invokevirtual 19, 3) := by decide +kernel
theorem dL_holds_205 : decode cL_holds 205 = .ok (.aload_n 0, 1) := by decide +kernel
theorem dL_holds_206 : decode cL_holds 206 = .ok (.iload 4, 2) := by decide +kernel
theorem dL_holds_208 : decode cL_holds 208 = .ok (.iconst 2, 1) := by decide +kernel
theorem dL_holds_209 : decode cL_holds 209 = .ok (.invokevirtual 30, 3) := by decide +kernel
theorem dL_holds_212 : decode cL_holds 212 = .ok (.if_icmp .eq 41, 3) := by decide +kernel
theorem dL_holds_215 : decode cL_holds 215 = .ok (.goto 36, 3) := by decide +kernel
theorem dL_holds_218 : decode cL_holds 218 = .ok (.aload_n 0, 1) := by decide +kernel
theorem dL_holds_219 : decode cL_holds 219 = .ok (.iload 5, 2) := by decide +kernel
theorem dL_holds_221 : decode cL_holds 221 = .ok (.iload 6, 2) := by decide +kernel
theorem dL_holds_223 : decode cL_holds 223 = .ok (.bipush 16, 2) := by decide +kernel
theorem dL_holds_225 : decode cL_holds 225 = .ok (.isub, 1) := by decide +kernel
theorem dL_holds_226 : decode cL_holds 226 = .ok (.iconst 0, 1) := by decide +kernel
theorem dL_holds_227 : decode cL_holds 227 = .ok (.invokevirtual 23, 3) := by decide +kernel
theorem dL_holds_230 : decode cL_holds 230 = .ok (.iconst 1, 1) := by decide +kernel
theorem dL_holds_231 : decode cL_holds 231 = .ok (.if_icmp .ne 20, 3) := by decide +kernel
theorem dL_holds_234 : decode cL_holds 234 = .ok (.aload_n 0, 1) := by decide +kernel
theorem dL_holds_235 : decode cL_holds 235 = .ok (.iload 5, 2) := by decide +kernel
theorem dL_holds_237 : decode cL_holds 237 = .ok (.iload 6, 2) := by decide +kernel
theorem dL_holds_239 : decode cL_holds 239 = .ok (.bipush 16, 2) := by decide +kernel
theorem dL_holds_241 : decode cL_holds 241 = .ok (.isub, 1) := by decide +kernel
theorem dL_holds_242 : decode cL_holds 242 = .ok (.iconst 1, 1) := by decide +kernel
theorem dL_holds_243 : decode cL_holds 243 = .ok (.invokevirtual 23, 3) := by decide +kernel
theorem dL_holds_246 : decode cL_holds 246 = .ok (.iload 4, 2) := by decide +kernel
theorem dL_holds_248 : decode cL_holds 248 = .ok (.if_icmp .eq 5, 3) := by decide +kernel
theorem dL_holds_251 : decode cL_holds 251 = .ok (.iconst 0, 1) := by decide +kernel
theorem dL_holds_252 : decode cL_holds 252 = .ok (.ireturn, 1) := by decide +kernel
theorem dL_holds_253 : decode cL_holds 253 = .ok (.iinc 4 1, 3) := by decide +kernel
theorem dL_holds_256 : decode cL_holds 256 = .ok (.goto (-164), 3) := by decide +kernel
theorem dL_holds_259 : decode cL_holds 259 = .ok (.iconst 1, 1) := by decide +kernel
theorem dL_holds_260 : decode cL_holds 260 = .ok (.istore 4, 2) := by decide +kernel
theorem dL_holds_262 : decode cL_holds 262 = .ok (.iload 4, 2) := by decide +kernel
theorem dL_holds_264 : decode cL_holds 264 = .ok (.aload_n 0, 1) := by decide +kernel
theorem dL_holds_265 : decode cL_holds 265 = .ok (.iconst 4, 1) := by decide +kernel
theorem dL_holds_266 : decode cL_holds 266 = .ok (.invokevirtual 13, 3) := by decide +kernel
theorem dL_holds_269 : decode cL_holds 269 = .ok (.if_icmp .ge 30, 3) := by decide +kernel
theorem dL_holds_272 : decode cL_holds 272 = .ok (.aload_n 0, 1) := by decide +kernel
theorem dL_holds_273 : decode cL_holds 273 = .ok (.iload 4, 2) := by decide +kernel
theorem dL_holds_275 : decode cL_holds 275 = .ok (.iconst 2, 1) := by decide +kernel
theorem dL_holds_276 : decode cL_holds 276 = .ok (.invokevirtual 26, 3) := by decide +kernel
theorem dL_holds_279 : decode cL_holds 279 = .ok (.aload_n 0, 1) := by decide +kernel
theorem dL_holds_280 : decode cL_holds 280 = .ok (.iload 4, 2) := by decide +kernel
theorem dL_holds_282 : decode cL_holds 282 = .ok (.iconst 1, 1) := by decide +kernel
theorem dL_holds_283 : decode cL_holds 283 = .ok (.isub, 1) := by decide +kernel
theorem dL_holds_284 : decode cL_holds 284 = .ok (.iconst 2, 1) := by decide +kernel
theorem dL_holds_285 : decode cL_holds 285 = .ok (.invokevirtual 26, 3) := by decide +kernel
theorem dL_holds_288 : decode cL_holds 288 = .ok (.if_icmp .ge 5, 3) := by decide +kernel
theorem dL_holds_291 : decode cL_holds 291 = .ok (.iconst 0, 1) := by decide +kernel
theorem dL_holds_292 : decode cL_holds 292 = .ok (.ireturn, 1) := by decide +kernel
theorem dL_holds_293 : decode cL_holds 293 = .ok (.iinc 4 1, 3) := by decide +kernel
theorem dL_holds_296 : decode cL_holds 296 = .ok (.goto (-34), 3) := by decide +kernel
theorem dL_holds_299 : decode cL_holds 299 = .ok (.aload_n 0, 1) := by decide +kernel
theorem dL_holds_300 : decode cL_holds 300 = .ok (.iconst 1, 1) := by decide +kernel
theorem dL_holds_301 : decode cL_holds 301 = .ok (.invokevirtual 13, 3) := by decide +kernel
theorem dL_holds_304 : decode cL_holds 304 = .ok (.ifCond .ne 7, 3) := by decide +kernel
theorem dL_holds_307 : decode cL_holds 307 = .ok (.iconst 1, 1) := by decide +kernel
theorem dL_holds_308 : decode cL_holds 308 = .ok (.goto 4, 3) := by decide +kernel
theorem dL_holds_311 : decode cL_holds 311 = .ok (.iconst 0, 1) := by decide +kernel
theorem dL_holds_312 : decode cL_holds 312 = .ok (.istore 4, 2) := by decide +kernel
theorem dL_holds_314 : decode cL_holds 314 = .ok (.iload_n 1, 1) := by decide +kernel
theorem dL_holds_315 : decode cL_holds 315 = .ok (.aload_n 0, 1) := by decide +kernel
theorem dL_holds_316 : decode cL_holds 316 = .ok (.bipush 10, 2) := by decide +kernel
theorem dL_holds_318 : decode cL_holds 318 = .ok (.invokevirtual 13, 3) := by decide +kernel
theorem dL_holds_321 : decode cL_holds 321 = .ok (.if_icmp .ne 96, 3) := by decide +kernel
theorem dL_holds_324 : decode cL_holds 324 = .ok (.iload_n 2, 1) := by decide +kernel
theorem dL_holds_325 : decode cL_holds 325 = .ok (.aload_n 0, 1) := by decide +kernel
theorem dL_holds_326 : decode cL_holds 326 = .ok (.iconst 5, 1) := by decide +kernel
theorem dL_holds_327 : decode cL_holds 327 = .ok (.invokevirtual 13, 3) := by decide +kernel
theorem dL_holds_330 : decode cL_holds 330 = .ok (.if_icmp .ne 87, 3) := by decide +kernel
theorem dL_holds_333 : decode cL_holds 333 = .ok (.iload_n 3, 1) := by decide +kernel
end
section
theorem dL_holds_334 : decode cL_holds 334 = .ok (.aload_n 0, 1) := by decide +kernel
theorem dL_holds_335 : decode cL_holds 335 = .ok (.bipush 11, 2) := by decide +kernel
theorem dL_holds_337 : decode cL_holds 337 = .ok (.invokevirtual 13, 3) := by decide +kernel
theorem dL_holds_340 : decode cL_holds 340 = .ok (.if_icmp .ne 77, 3) := by decide +kernel
theorem dL_holds_343 : decode cL_holds 343 = .ok (.aload_n 0, 1) := by decide +kernel
theorem dL_holds_344 : decode cL_holds 344 = .ok (.bipush 6, 2) := by decide +kernel
theorem dL_holds_346 : decode cL_holds 346 = .ok (.invokevirtual 13, 3) := by decide +kernel
theorem dL_holds_349 : decode cL_holds 349 = .ok (.bipush (-4), 2) := by decide +kernel
theorem dL_holds_351 : decode cL_holds 351 = .ok (.if_icmp .ne 7, 3) := by decide +kernel
theorem dL_holds_354 : decode cL_holds 354 = .ok (.iconst 1, 1) := by decide +kernel
theorem dL_holds_355 : decode cL_holds 355 = .ok (.goto 4, 3) := by decide +kernel
theorem dL_holds_358 : decode cL_holds 358 = .ok (.iconst 0, 1) := by decide +kernel
theorem dL_holds_359 : decode cL_holds 359 = .ok (.iload_n 2, 1) := by decide +kernel
theorem dL_holds_360 : decode cL_holds 360 = .ok (.ifCond .ne 7, 3) := by decide +kernel
theorem dL_holds_363 : decode cL_holds 363 = .ok (.iconst 1, 1) := by decide +kernel
theorem dL_holds_364 : decode cL_holds 364 = .ok (.goto 4, 3) := by decide +kernel
theorem dL_holds_367 : decode cL_holds 367 = .ok (.iconst 0, 1) := by decide +kernel
theorem dL_holds_368 : decode cL_holds 368 = .ok (.if_icmp .ne 49, 3) := by decide +kernel
theorem dL_holds_371 : decode cL_holds 371 = .ok (.aload_n 0, 1) := by decide +kernel
theorem dL_holds_372 : decode cL_holds 372 = .ok (.iconst 4, 1) := by decide +kernel
theorem dL_holds_373 : decode cL_holds 373 = .ok (.invokevirtual 13, 3) := by decide +kernel
theorem dL_holds_376 : decode cL_holds 376 = .ok (.bipush 8, 2) := by decide +kernel
theorem dL_holds_378 : decode cL_holds 378 = .ok (.if_icmp .gt 39, 3) := by decide +kernel
theorem dL_holds_381 : decode cL_holds 381 = .ok (.iload 4, 2) := by decide +kernel
theorem dL_holds_383 : decode cL_holds 383 = .ok (.ifCond .eq 15, 3) := by decide +kernel
theorem dL_holds_386 : decode cL_holds 386 = .ok (.iload_n 2, 1) := by decide +kernel
theorem dL_holds_387 : decode cL_holds 387 = .ok (.ifCond .ne 30, 3) := by decide +kernel
theorem dL_holds_390 : decode cL_holds 390 = .ok (.aload_n 0, 1) := by decide +kernel
theorem dL_holds_391 : decode cL_holds 391 = .ok (.iconst 4, 1) := by decide +kernel
theorem dL_holds_392 : decode cL_holds 392 = .ok (.invokevirtual 13, 3) := by decide +kernel
theorem dL_holds_395 : decode cL_holds 395 = .ok (.ifCond .ne 22, 3) := by decide +kernel
theorem dL_holds_398 : decode cL_holds 398 = .ok (.aload_n 0, 1) := by decide +kernel
theorem dL_holds_399 : decode cL_holds 399 = .ok (.aload_n 0, 1) := by decide +kernel
theorem dL_holds_400 : decode cL_holds 400 = .ok (.iconst 4, 1) := by decide +kernel
theorem dL_holds_401 : decode cL_holds 401 = .ok (.invokevirtual 13, 3) := by decide +kernel
theorem dL_holds_404 : decode cL_holds 404 = .ok (.iconst 0, 1) := by decide +kernel
theorem dL_holds_405 : decode cL_holds 405 = .ok (.invokevirtual 26, 3) := by decide +kernel
theorem dL_holds_408 : decode cL_holds 408 = .ok (.bipush (-4), 2) := by decide +kernel
theorem dL_holds_410 : decode cL_holds 410 = .ok (.if_icmp .ne 7, 3) := by decide +kernel
theorem dL_holds_413 : decode cL_holds 413 = .ok (.iconst 1, 1) := by decide +kernel
theorem dL_holds_414 : decode cL_holds 414 = .ok (.goto 4, 3) := by decide +kernel
theorem dL_holds_417 : decode cL_holds 417 = .ok (.iconst 0, 1) := by decide +kernel
theorem dL_holds_418 : decode cL_holds 418 = .ok (.ireturn, 1) := by decide +kernel
theorem dL_digits_0 : decode cL_digits 0 = .ok (.iload_n 1, 1) := by decide +kernel
theorem dL_digits_1 : decode cL_digits 1 = .ok (.bipush 100, 2) := by decide +kernel
theorem dL_digits_3 : decode cL_digits 3 = .ok (.if_icmp .lt 17, 3) := by decide +kernel
theorem dL_digits_6 : decode cL_digits 6 = .ok (.aload_n 0, 1) := by decide +kernel
theorem dL_digits_7 : decode cL_digits 7 = .ok (.bipush 48, 2) := by decide +kernel
theorem dL_digits_9 : decode cL_digits 9 = .ok (.iload_n 1, 1) := by decide +kernel
theorem dL_digits_10 : decode cL_digits 10 = .ok (.bipush 100, 2) := by decide +kernel
theorem dL_digits_12 : decode cL_digits 12 = .ok (.idiv, 1) := by decide +kernel
theorem dL_digits_13 : decode cL_digits 13 = .ok (.iadd, 1) := by decide +kernel
theorem dL_digits_14 : decode cL_digits 14 = .ok (.invokevirtual 35, 3) := by decide +kernel
theorem dL_digits_17 : decode cL_digits 17 = .ok (.ifCond .le 30, 3) := by decide +kernel
theorem dL_digits_20 : decode cL_digits 20 = .ok (.iload_n 1, 1) := by decide +kernel
theorem dL_digits_21 : decode cL_digits 21 = .ok (.bipush 10, 2) := by decide +kernel
theorem dL_digits_23 : decode cL_digits 23 = .ok (.if_icmp .lt 20, 3) := by decide +kernel
theorem dL_digits_26 : decode cL_digits 26 = .ok (.aload_n 0, 1) := by decide +kernel
theorem dL_digits_27 : decode cL_digits 27 = .ok (.bipush 48, 2) := by decide +kernel
theorem dL_digits_29 : decode cL_digits 29 = .ok (.iload_n 1, 1) := by decide +kernel
theorem dL_digits_30 : decode cL_digits 30 = .ok (.bipush 10, 2) := by decide +kernel
theorem dL_digits_32 : decode cL_digits 32 = .ok (.idiv, 1) := by decide +kernel
theorem dL_digits_33 : decode cL_digits 33 = .ok (.bipush 10, 2) := by decide +kernel
theorem dL_digits_35 : decode cL_digits 35 = .ok (.irem, 1) := by decide +kernel
theorem dL_digits_36 : decode cL_digits 36 = .ok (.iadd, 1) := by decide +kernel
theorem dL_digits_37 : decode cL_digits 37 = .ok (.invokevirtual 35, 3) := by decide +kernel
theorem dL_digits_40 : decode cL_digits 40 = .ok (.ifCond .le 7, 3) := by decide +kernel
theorem dL_digits_43 : decode cL_digits 43 = .ok (.iconst 1, 1) := by decide +kernel
theorem dL_digits_44 : decode cL_digits 44 = .ok (.goto 4, 3) := by decide +kernel
theorem dL_digits_47 : decode cL_digits 47 = .ok (.iconst 0, 1) := by decide +kernel
theorem dL_digits_48 : decode cL_digits 48 = .ok (.istore_n 2, 1) := by decide +kernel
theorem dL_digits_49 : decode cL_digits 49 = .ok (.iload_n 2, 1) := by decide +kernel
theorem dL_digits_50 : decode cL_digits 50 = .ok (.ifCond .eq 21, 3) := by decide +kernel
theorem dL_digits_53 : decode cL_digits 53 = .ok (.aload_n 0, 1) := by decide +kernel
theorem dL_digits_54 : decode cL_digits 54 = .ok (.bipush 48, 2) := by decide +kernel
theorem dL_digits_56 : decode cL_digits 56 = .ok (.iload_n 1, 1) := by decide +kernel
theorem dL_digits_57 : decode cL_digits 57 = .ok (.bipush 10, 2) := by decide +kernel
theorem dL_digits_59 : decode cL_digits 59 = .ok (.irem, 1) := by decide +kernel
theorem dL_digits_60 : decode cL_digits 60 = .ok (.iadd, 1) := by decide +kernel
theorem dL_digits_61 : decode cL_digits 61 = .ok (.invokevirtual 35, 3) := by decide +kernel
theorem dL_digits_64 : decode cL_digits 64 = .ok (.ifCond .le 7, 3) := by decide +kernel
theorem dL_digits_67 : decode cL_digits 67 = .ok (.iconst 1, 1) := by decide +kernel
theorem dL_digits_68 : decode cL_digits 68 = .ok (.goto 4, 3) := by decide +kernel
theorem dL_digits_71 : decode cL_digits 71 = .ok (.iconst 0, 1) := by decide +kernel
theorem dL_digits_72 : decode cL_digits 72 = .ok (.ireturn, 1) := by decide +kernel
theorem dL_types_0 : decode cL_types 0 = .ok (.iload_n 1, 1) := by decide +kernel
theorem dL_types_1 : decode cL_types 1 = .ok (.bipush 6, 2) := by decide +kernel
theorem dL_types_3 : decode cL_types 3 = .ok (.invokestatic 38, 3) := by decide +kernel
theorem dL_types_6 : decode cL_types 6 = .ok (.istore_n 2, 1) := by decide +kernel
theorem dL_types_7 : decode cL_types 7 = .ok (.aload_n 0, 1) := by decide +kernel
theorem dL_types_8 : decode cL_types 8 = .ok (.invokevirtual 41, 3) := by decide +kernel
theorem dL_types_11 : decode cL_types 11 = .ok (.ifCond .lt 7, 3) := by decide +kernel
theorem dL_types_14 : decode cL_types 14 = .ok (.iconst 1, 1) := by decide +kernel
theorem dL_types_15 : decode cL_types 15 = .ok (.goto 4, 3) := by decide +kernel
theorem dL_types_18 : decode cL_types 18 = .ok (.iconst 0, 1) := by decide +kernel
theorem dL_types_19 : decode cL_types 19 = .ok (.istore_n 3, 1) := by decide +kernel
theorem dL_types_20 : decode cL_types 20 = .ok (.iconst 0, 1) := by decide +kernel
theorem dL_types_21 : decode cL_types 21 = .ok (.istore 4, 2) := by decide +kernel
theorem dL_types_23 : decode cL_types 23 = .ok (.iload 4, 2) := by decide +kernel
theorem dL_types_25 : decode cL_types 25 = .ok (.iload_n 2, 1) := by decide +kernel
theorem dL_types_26 : decode cL_types 26 = .ok (.if_icmp .ge 305, 3) := by decide +kernel
theorem dL_types_29 : decode cL_types 29 = .ok (.iload_n 1, 1) := by decide +kernel
theorem dL_types_30 : decode cL_types 30 = .ok (.iconst 3, 1) := by decide +kernel
theorem dL_types_31 : decode cL_types 31 = .ok (.iconst 4, 1) := by decide +kernel
theorem dL_types_32 : decode cL_types 32 = .ok (.iload 4, 2) := by decide +kernel
theorem dL_types_34 : decode cL_types 34 = .ok (.imul, 1) := by decide +kernel
theorem dL_types_35 : decode cL_types 35 = .ok (.iadd, 1) := by decide +kernel
theorem dL_types_36 : decode cL_types 36 = .ok (.ishr, 1) := by decide +kernel
theorem dL_types_37 : decode cL_types 37 = .ok (.istore 5, 2) := by decide +kernel
theorem dL_types_39 : decode cL_types 39 = .ok (.iload 5, 2) := by decide +kernel
theorem dL_types_41 : decode cL_types 41 = .ok (.bipush 10, 2) := by decide +kernel
theorem dL_types_43 : decode cL_types 43 = .ok (.invokestatic 38, 3) := by decide +kernel
theorem dL_types_46 : decode cL_types 46 = .ok (.istore 6, 2) := by decide +kernel
theorem dL_types_48 : decode cL_types 48 = .ok (.iload 6, 2) := by decide +kernel
theorem dL_types_50 : decode cL_types 50 = .ok (.iconst 3, 1) := by decide +kernel
theorem dL_types_51 : decode cL_types 51 = .ok (.if_icmp .ge 8, 3) := by decide +kernel
theorem dL_types_54 : decode cL_types 54 = .ok (.bipush 119, 2) := by decide +kernel
theorem dL_types_56 : decode cL_types 56 = .ok (.goto 80, 3) := by decide +kernel
theorem dL_types_59 : decode cL_types 59 = .ok (.iload 6, 2) := by decide +kernel
theorem dL_types_61 : decode cL_types 61 = .ok (.iconst 3, 1) := by decide +kernel
theorem dL_types_62 : decode cL_types 62 = .ok (.if_icmp .ne 8, 3) := by decide +kernel
theorem dL_types_65 : decode cL_types 65 = .ok (.bipush 117, 2) := by decide +kernel
theorem dL_types_67 : decode cL_types 67 = .ok (.goto 69, 3) := by decide +kernel
theorem dL_types_70 : decode cL_types 70 = .ok (.iload 6, 2) := by decide +kernel
theorem dL_types_72 : decode cL_types 72 = .ok (.bipush 6, 2) := by decide +kernel
theorem dL_types_74 : decode cL_types 74 = .ok (.if_icmp .ge 8, 3) := by decide +kernel
theorem dL_types_77 : decode cL_types 77 = .ok (.bipush 116, 2) := by decide +kernel
theorem dL_types_79 : decode cL_types 79 = .ok (.goto 57, 3) := by decide +kernel
theorem dL_types_82 : decode cL_types 82 = .ok (.iload 6, 2) := by decide +kernel
theorem dL_types_84 : decode cL_types 84 = .ok (.bipush 6, 2) := by decide +kernel
theorem dL_types_86 : decode cL_types 86 = .ok (.if_icmp .ne 8, 3) := by decide +kernel
theorem dL_types_89 : decode cL_types 89 = .ok (.bipush 120, 2) := by decide +kernel
theorem dL_types_91 : decode cL_types 91 = .ok (.goto 45, 3) := by decide +kernel
theorem dL_types_94 : decode cL_types 94 = .ok (.iload 6, 2) := by decide +kernel
theorem dL_types_96 : decode cL_types 96 = .ok (.bipush 7, 2) := by decide +kernel
theorem dL_types_98 : decode cL_types 98 = .ok (.if_icmp .ne 8, 3) := by decide +kernel
theorem dL_types_101 : decode cL_types 101 = .ok (.bipush 111, 2) := by decide +kernel
theorem dL_types_103 : decode cL_types 103 = .ok (.goto 33, 3) := by decide +kernel
theorem dL_types_106 : decode cL_types 106 = .ok (.iload 6, 2) := by decide +kernel
theorem dL_types_108 : decode cL_types 108 = .ok (.bipush 8, 2) := by decide +kernel
theorem dL_types_110 : decode cL_types 110 = .ok (.if_icmp .ne 8, 3) := by decide +kernel
theorem dL_types_113 : decode cL_types 113 = .ok (.bipush 115, 2) := by decide +kernel
theorem dL_types_115 : decode cL_types 115 = .ok (.goto 21, 3) := by decide +kernel
theorem dL_types_118 : decode cL_types 118 = .ok (.iload 5, 2) := by decide +kernel
theorem dL_types_120 : decode cL_types 120 = .ok (.iconst 3, 1) := by decide +kernel
theorem dL_types_121 : decode cL_types 121 = .ok (.ishr, 1) := by decide +kernel
theorem dL_types_122 : decode cL_types 122 = .ok (.iconst 2, 1) := by decide +kernel
theorem dL_types_123 : decode cL_types 123 = .ok (.invokestatic 38, 3) := by decide +kernel
theorem dL_types_126 : decode cL_types 126 = .ok (.ifCond .ne 8, 3) := by decide +kernel
theorem dL_types_129 : decode cL_types 129 = .ok (.bipush 99, 2) := by decide +kernel
theorem dL_types_131 : decode cL_types 131 = .ok (.goto 5, 3) := by decide +kernel
theorem dL_types_134 : decode cL_types 134 = .ok (.bipush 101, 2) := by decide +kernel
theorem dL_types_136 : decode cL_types 136 = .ok (.istore 7, 2) := by decide +kernel
theorem dL_types_138 : decode cL_types 138 = .ok (.iload_n 3, 1) := by decide +kernel
theorem dL_types_139 : decode cL_types 139 = .ok (.ifCond .eq 16, 3) := by decide +kernel
theorem dL_types_142 : decode cL_types 142 = .ok (.aload_n 0, 1) := by decide +kernel
theorem dL_types_143 : decode cL_types 143 = .ok (.iload 7, 2) := by decide +kernel
theorem dL_types_145 : decode cL_types 145 = .ok (.invokevirtual 35, 3) := by decide +kernel
theorem dL_types_148 : decode cL_types 148 = .ok (.ifCond .le 7, 3) := by decide +kernel
theorem dL_types_151 : decode cL_types 151 = .ok (.iconst 1, 1) := by decide +kernel
theorem dL_types_152 : decode cL_types 152 = .ok (.goto 4, 3) := by decide +kernel
theorem dL_types_155 : decode cL_types 155 = .ok (.iconst 0, 1) := by decide +kernel
theorem dL_types_156 : decode cL_types 156 = .ok (.istore_n 3, 1) := by decide +kernel
theorem dL_types_157 : decode cL_types 157 = .ok (.iload 6, 2) := by decide +kernel
theorem dL_types_159 : decode cL_types 159 = .ok (.iconst 4, 1) := by decide +kernel
theorem dL_types_160 : decode cL_types 160 = .ok (.if_icmp .ge 58, 3) := by decide +kernel
theorem dL_types_163 : decode cL_types 163 = .ok (.iload_n 3, 1) := by decide +kernel
theorem dL_types_164 : decode cL_types 164 = .ok (.ifCond .eq 49, 3) := by decide +kernel
theorem dL_types_167 : decode cL_types 167 = .ok (.aload_n 0, 1) := by decide +kernel
theorem dL_types_168 : decode cL_types 168 = .ok (.iload 5, 2) := by decide +kernel
theorem dL_types_170 : decode cL_types 170 = .ok (.iconst 2, 1) := by decide +kernel
theorem dL_types_171 : decode cL_types 171 = .ok (.ishr, 1) := by decide +kernel
theorem dL_types_172 : decode cL_types 172 = .ok (.bipush 13, 2) := by decide +kernel
theorem dL_types_174 : decode cL_types 174 = .ok (.invokestatic 38, 3) := by decide +kernel
theorem dL_types_177 : decode cL_types 177 = .ok (.invokestatic 45, 3) := by decide +kernel
theorem dL_types_180 : decode cL_types 180 = .ok (.ifCond .eq 33, 3) := by decide +kernel
theorem dL_types_183 : decode cL_types 183 = .ok (.aload_n 0, 1) := by decide +kernel
theorem dL_types_184 : decode cL_types 184 = .ok (.bipush 44, 2) := by decide +kernel
theorem dL_types_186 : decode cL_types 186 = .ok (.invokevirtual 35, 3) := by decide +kernel
theorem dL_types_189 : decode cL_types 189 = .ok (.ifCond .le 24, 3) := by decide +kernel
theorem dL_types_192 : decode cL_types 192 = .ok (.aload_n 0, 1) := by decide +kernel
theorem dL_types_193 : decode cL_types 193 = .ok (.iload 5, 2) := by decide +kernel
theorem dL_types_195 : decode cL_types 195 = .ok (.iconst 1, 1) := by decide +kernel
theorem dL_types_196 : decode cL_types 196 = .ok (.ishr, 1) := by decide +kernel
theorem dL_types_197 : decode cL_types 197 = .ok (.sipush 1000, 3) := by decide +kernel
theorem dL_types_200 : decode cL_types 200 = .ok (.invokestatic 38, 3) := by decide +kernel
theorem dL_types_203 : decode cL_types 203 = .ok (.invokestatic 45, 3) := by decide +kernel
theorem dL_types_206 : decode cL_types 206 = .ok (.ifCond .eq 7, 3) := by decide +kernel
theorem dL_types_209 : decode cL_types 209 = .ok (.iconst 1, 1) := by decide +kernel
theorem dL_types_210 : decode cL_types 210 = .ok (.goto 4, 3) := by decide +kernel
theorem dL_types_213 : decode cL_types 213 = .ok (.iconst 0, 1) := by decide +kernel
theorem dL_types_214 : decode cL_types 214 = .ok (.istore_n 3, 1) := by decide +kernel
theorem dL_types_215 : decode cL_types 215 = .ok (.goto 71, 3) := by decide +kernel
theorem dL_types_218 : decode cL_types 218 = .ok (.iload 6, 2) := by decide +kernel
theorem dL_types_220 : decode cL_types 220 = .ok (.bipush 6, 2) := by decide +kernel
theorem dL_types_222 : decode cL_types 222 = .ok (.if_icmp .ge 32, 3) := by decide +kernel
theorem dL_types_225 : decode cL_types 225 = .ok (.iload_n 3, 1) := by decide +kernel
theorem dL_types_226 : decode cL_types 226 = .ok (.ifCond .eq 23, 3) := by decide +kernel
theorem dL_types_229 : decode cL_types 229 = .ok (.aload_n 0, 1) := by decide +kernel
theorem dL_types_230 : decode cL_types 230 = .ok (.iload 5, 2) := by decide +kernel
theorem dL_types_232 : decode cL_types 232 = .ok (.iconst 2, 1) := by decide +kernel
theorem dL_types_233 : decode cL_types 233 = .ok (.ishr, 1) := by decide +kernel
theorem dL_types_234 : decode cL_types 234 = .ok (.bipush 15, 2) := by decide +kernel
theorem dL_types_236 : decode cL_types 236 = .ok (.invokestatic 38, 3) := by decide +kernel
theorem dL_types_239 : decode cL_types 239 = .ok (.invokestatic 45, 3) := by decide +kernel
theorem dL_types_242 : decode cL_types 242 = .ok (.ifCond .eq 7, 3) := by decide +kernel
theorem dL_types_245 : decode cL_types 245 = .ok (.iconst 1, 1) := by decide +kernel
theorem dL_types_246 : decode cL_types 246 = .ok (.goto 4, 3) := by decide +kernel
theorem dL_types_249 : decode cL_types 249 = .ok (.iconst 0, 1) := by decide +kernel
theorem dL_types_250 : decode cL_types 250 = .ok (.istore_n 3, 1) := by decide +kernel
theorem dL_types_251 : decode cL_types 251 = .ok (.goto 35, 3) := by decide +kernel
theorem dL_types_254 : decode cL_types 254 = .ok (.iload 6, 2) := by decide +kernel
theorem dL_types_256 : decode cL_types 256 = .ok (.bipush 9, 2) := by decide +kernel
theorem dL_types_258 : decode cL_types 258 = .ok (.if_icmp .ne 28, 3) := by decide +kernel
theorem dL_types_261 : decode cL_types 261 = .ok (.iload_n 3, 1) := by decide +kernel
theorem dL_types_262 : decode cL_types 262 = .ok (.ifCond .eq 22, 3) := by decide +kernel
theorem dL_types_265 : decode cL_types 265 = .ok (.aload_n 0, 1) := by decide +kernel
theorem dL_types_266 : decode cL_types 266 = .ok (.iload 5, 2) := by decide +kernel
theorem dL_types_268 : decode cL_types 268 = .ok (.iconst 4, 1) := by decide +kernel
theorem dL_types_269 : decode cL_types 269 = .ok (.ishr, 1) := by decide +kernel
theorem dL_types_270 : decode cL_types 270 = .ok (.iconst 3, 1) := by decide +kernel
theorem dL_types_271 : decode cL_types 271 = .ok (.invokestatic 38, 3) := by decide +kernel
theorem dL_types_274 : decode cL_types 274 = .ok (.invokestatic 45, 3) := by decide +kernel
theorem dL_types_277 : decode cL_types 277 = .ok (.ifCond .eq 7, 3) := by decide +kernel
theorem dL_types_280 : decode cL_types 280 = .ok (.iconst 1, 1) := by decide +kernel
theorem dL_types_281 : decode cL_types 281 = .ok (.goto 4, 3) := by decide +kernel
theorem dL_types_284 : decode cL_types 284 = .ok (.iconst 0, 1) := by decide +kernel
theorem dL_types_285 : decode cL_types 285 = .ok (.istore_n 3, 1) := by decide +kernel
theorem dL_types_286 : decode cL_types 286 = .ok (.iload_n 3, 1) := by decide +kernel
theorem dL_types_287 : decode cL_types 287 = .ok (.ifCond .eq 36, 3) := by decide +kernel
theorem dL_types_290 : decode cL_types 290 = .ok (.iload_n 1, 1) := by decide +kernel
theorem dL_types_291 : decode cL_types 291 = .ok (.bipush 24, 2) := by decide +kernel
theorem dL_types_293 : decode cL_types 293 = .ok (.ishr, 1) := by decide +kernel
theorem dL_types_294 : decode cL_types 294 = .ok (.bipush 7, 2) := by decide +kernel
theorem dL_types_296 : decode cL_types 296 = .ok (.invokestatic 38, 3) := by decide +kernel
theorem dL_types_299 : decode cL_types 299 = .ok (.ifCond .ne 11, 3) := by decide +kernel
theorem dL_types_302 : decode cL_types 302 = .ok (.iload 4, 2) := by decide +kernel
theorem dL_types_304 : decode cL_types 304 = .ok (.iload_n 2, 1) := by decide +kernel
theorem dL_types_305 : decode cL_types 305 = .ok (.iconst 1, 1) := by decide +kernel
theorem dL_types_306 : decode cL_types 306 = .ok (.isub, 1) := by decide +kernel
theorem dL_types_307 : decode cL_types 307 = .ok (.if_icmp .eq 12, 3) := by decide +kernel
theorem dL_types_310 : decode cL_types 310 = .ok (.aload_n 0, 1) := by decide +kernel
theorem dL_types_311 : decode cL_types 311 = .ok (.bipush 59, 2) := by decide +kernel
theorem dL_types_313 : decode cL_types 313 = .ok (.invokevirtual 35, 3) := by decide +kernel
theorem dL_types_316 : decode cL_types 316 = .ok (.ifCond .le 7, 3) := by decide +kernel
theorem dL_types_319 : decode cL_types 319 = .ok (.iconst 1, 1) := by decide +kernel
theorem dL_types_320 : decode cL_types 320 = .ok (.goto 4, 3) := by decide +kernel
theorem dL_types_323 : decode cL_types 323 = .ok (.iconst 0, 1) := by decide +kernel
theorem dL_types_324 : decode cL_types 324 = .ok (.istore_n 3, 1) := by decide +kernel
theorem dL_types_325 : decode cL_types 325 = .ok (.iinc 4 1, 3) := by decide +kernel
theorem dL_types_328 : decode cL_types 328 = .ok (.goto (-305), 3) := by decide +kernel
theorem dL_types_331 : decode cL_types 331 = .ok (.iload_n 3, 1) := by decide +kernel
theorem dL_types_332 : decode cL_types 332 = .ok (.ireturn, 1) := by decide +kernel
theorem dL_reads_0 : decode cL_reads 0 = .ok (.aload_n 0, 1) := by decide +kernel
theorem dL_reads_1 : decode cL_reads 1 = .ok (.iconst 0, 1) := by decide +kernel
theorem dL_reads_2 : decode cL_reads 2 = .ok (.invokevirtual 49, 3) := by decide +kernel
theorem dL_reads_5 : decode cL_reads 5 = .ok (.istore_n 1, 1) := by decide +kernel
theorem dL_reads_6 : decode cL_reads 6 = .ok (.aload_n 0, 1) := by decide +kernel
theorem dL_reads_7 : decode cL_reads 7 = .ok (.iconst 1, 1) := by decide +kernel
theorem dL_reads_8 : decode cL_reads 8 = .ok (.invokevirtual 49, 3) := by decide +kernel
theorem dL_reads_11 : decode cL_reads 11 = .ok (.istore_n 2, 1) := by decide +kernel
theorem dL_reads_12 : decode cL_reads 12 = .ok (.aload_n 0, 1) := by decide +kernel
theorem dL_reads_13 : decode cL_reads 13 = .ok (.iconst 2, 1) := by decide +kernel
theorem dL_reads_14 : decode cL_reads 14 = .ok (.invokevirtual 49, 3) := by decide +kernel
theorem dL_reads_17 : decode cL_reads 17 = .ok (.istore_n 3, 1) := by decide +kernel
theorem dL_reads_18 : decode cL_reads 18 = .ok (.aload_n 0, 1) := by decide +kernel
theorem dL_reads_19 : decode cL_reads 19 = .ok (.bipush 17, 2) := by decide +kernel
theorem dL_reads_21 : decode cL_reads 21 = .ok (.invokevirtual 13, 3) := by decide +kernel
theorem dL_reads_24 : decode cL_reads 24 = .ok (.istore 4, 2) := by decide +kernel
theorem dL_reads_26 : decode cL_reads 26 = .ok (.aload_n 0, 1) := by decide +kernel
theorem dL_reads_27 : decode cL_reads 27 = .ok (.invokevirtual 52, 3) := by decide +kernel
theorem dL_reads_30 : decode cL_reads 30 = .ok (.istore 5, 2) := by decide +kernel
theorem dL_reads_32 : decode cL_reads 32 = .ok (.iload_n 1, 1) := by decide +kernel
theorem dL_reads_33 : decode cL_reads 33 = .ok (.bipush (-4), 2) := by decide +kernel
theorem dL_reads_35 : decode cL_reads 35 = .ok (.if_icmp .ne 33, 3) := by decide +kernel
theorem dL_reads_38 : decode cL_reads 38 = .ok (.iload_n 2, 1) := by decide +kernel
theorem dL_reads_39 : decode cL_reads 39 = .ok (.bipush (-4), 2) := by decide +kernel
theorem dL_reads_41 : decode cL_reads 41 = .ok (.if_icmp .ne 27, 3) := by decide +kernel
theorem dL_reads_44 : decode cL_reads 44 = .ok (.iload_n 3, 1) := by decide +kernel
theorem dL_reads_45 : decode cL_reads 45 = .ok (.bipush (-4), 2) := by decide +kernel
theorem dL_reads_47 : decode cL_reads 47 = .ok (.if_icmp .ne 21, 3) := by decide +kernel
theorem dL_reads_50 : decode cL_reads 50 = .ok (.iload 5, 2) := by decide +kernel
theorem dL_reads_52 : decode cL_reads 52 = .ok (.ifCond .lt 16, 3) := by decide +kernel
theorem dL_reads_55 : decode cL_reads 55 = .ok (.iconst 2, 1) := by decide +kernel
theorem dL_reads_56 : decode cL_reads 56 = .ok (.iload 5, 2) := by decide +kernel
theorem dL_reads_58 : decode cL_reads 58 = .ok (.imul, 1) := by decide +kernel
theorem dL_reads_59 : decode cL_reads 59 = .ok (.iload 4, 2) := by decide +kernel
theorem dL_reads_61 : decode cL_reads 61 = .ok (.if_icmp .gt 7, 3) := by decide +kernel
theorem dL_reads_64 : decode cL_reads 64 = .ok (.iconst 1, 1) := by decide +kernel
theorem dL_reads_65 : decode cL_reads 65 = .ok (.goto 4, 3) := by decide +kernel
theorem dL_reads_68 : decode cL_reads 68 = .ok (.iconst 0, 1) := by decide +kernel
theorem dL_reads_69 : decode cL_reads 69 = .ok (.istore 6, 2) := by decide +kernel
theorem dL_reads_71 : decode cL_reads 71 = .ok (.iload_n 1, 1) := by decide +kernel
theorem dL_reads_72 : decode cL_reads 72 = .ok (.ifCond .lt 46, 3) := by decide +kernel
theorem dL_reads_75 : decode cL_reads 75 = .ok (.iload_n 1, 1) := by decide +kernel
theorem dL_reads_76 : decode cL_reads 76 = .ok (.iload 4, 2) := by decide +kernel
theorem dL_reads_78 : decode cL_reads 78 = .ok (.if_icmp .ge 40, 3) := by decide +kernel
theorem dL_reads_81 : decode cL_reads 81 = .ok (.iload 5, 2) := by decide +kernel
theorem dL_reads_83 : decode cL_reads 83 = .ok (.bipush (-2), 2) := by decide +kernel
theorem dL_reads_85 : decode cL_reads 85 = .ok (.if_icmp .ne 33, 3) := by decide +kernel
theorem dL_reads_88 : decode cL_reads 88 = .ok (.iload_n 2, 1) := by decide +kernel
theorem dL_reads_89 : decode cL_reads 89 = .ok (.iconst 1, 1) := by decide +kernel
theorem dL_reads_90 : decode cL_reads 90 = .ok (.if_icmp .ne 9, 3) := by decide +kernel
theorem dL_reads_93 : decode cL_reads 93 = .ok (.iload_n 3, 1) := by decide +kernel
theorem dL_reads_94 : decode cL_reads 94 = .ok (.bipush (-4), 2) := by decide +kernel
theorem dL_reads_96 : decode cL_reads 96 = .ok (.if_icmp .eq 18, 3) := by decide +kernel
theorem dL_reads_99 : decode cL_reads 99 = .ok (.iload_n 2, 1) := by decide +kernel
theorem dL_reads_100 : decode cL_reads 100 = .ok (.iconst 2, 1) := by decide +kernel
theorem dL_reads_101 : decode cL_reads 101 = .ok (.if_icmp .ne 17, 3) := by decide +kernel
theorem dL_reads_104 : decode cL_reads 104 = .ok (.iload_n 3, 1) := by decide +kernel
theorem dL_reads_105 : decode cL_reads 105 = .ok (.ifCond .ge 13, 3) := by decide +kernel
theorem dL_reads_108 : decode cL_reads 108 = .ok (.iload_n 3, 1) := by decide +kernel
theorem dL_reads_109 : decode cL_reads 109 = .ok (.bipush (-4), 2) := by decide +kernel
theorem dL_reads_111 : decode cL_reads 111 = .ok (.if_icmp .le 7, 3) := by decide +kernel
theorem dL_reads_114 : decode cL_reads 114 = .ok (.iconst 1, 1) := by decide +kernel
theorem dL_reads_115 : decode cL_reads 115 = .ok (.goto 4, 3) := by decide +kernel
theorem dL_reads_118 : decode cL_reads 118 = .ok (.iconst 0, 1) := by decide +kernel
theorem dL_reads_119 : decode cL_reads 119 = .ok (.istore 7, 2) := by decide +kernel
theorem dL_reads_121 : decode cL_reads 121 = .ok (.iload 6, 2) := by decide +kernel
theorem dL_reads_123 : decode cL_reads 123 = .ok (.ifCond .ne 8, 3) := by decide +kernel
theorem dL_reads_126 : decode cL_reads 126 = .ok (.iload 7, 2) := by decide +kernel
theorem dL_reads_128 : decode cL_reads 128 = .ok (.ifCond .eq 18, 3) := by decide +kernel
theorem dL_reads_131 : decode cL_reads 131 = .ok (.aload_n 0, 1) := by decide +kernel
theorem dL_reads_132 : decode cL_reads 132 = .ok (.bipush 17, 2) := by decide +kernel
theorem dL_reads_134 : decode cL_reads 134 = .ok (.invokevirtual 13, 3) := by decide +kernel
theorem dL_reads_137 : decode cL_reads 137 = .ok (.iload 4, 2) := by decide +kernel
theorem dL_reads_139 : decode cL_reads 139 = .ok (.if_icmp .ne 7, 3) := by decide +kernel
theorem dL_reads_142 : decode cL_reads 142 = .ok (.iconst 1, 1) := by decide +kernel
theorem dL_reads_143 : decode cL_reads 143 = .ok (.goto 4, 3) := by decide +kernel
theorem dL_reads_146 : decode cL_reads 146 = .ok (.iconst 0, 1) := by decide +kernel
theorem dL_reads_147 : decode cL_reads 147 = .ok (.ireturn, 1) := by decide +kernel
theorem dL_acts_0 : decode cL_acts 0 = .ok (.iload_n 1, 1) := by decide +kernel
theorem dL_acts_1 : decode cL_acts 1 = .ok (.bipush 18, 2) := by decide +kernel
theorem dL_acts_3 : decode cL_acts 3 = .ok (.invokestatic 38, 3) := by decide +kernel
theorem dL_acts_6 : decode cL_acts 6 = .ok (.istore_n 3, 1) := by decide +kernel
theorem dL_acts_7 : decode cL_acts 7 = .ok (.aload_n 0, 1) := by decide +kernel
theorem dL_acts_8 : decode cL_acts 8 = .ok (.iconst 1, 1) := by decide +kernel
theorem dL_acts_9 : decode cL_acts 9 = .ok (.invokevirtual 13, 3) := by decide +kernel
theorem dL_acts_12 : decode cL_acts 12 = .ok (.ifCond .ne 7, 3) := by decide +kernel
theorem dL_acts_15 : decode cL_acts 15 = .ok (.iconst 1, 1) := by decide +kernel
theorem dL_acts_16 : decode cL_acts 16 = .ok (.goto 4, 3) := by decide +kernel
theorem dL_acts_19 : decode cL_acts 19 = .ok (.iconst 0, 1) := by decide +kernel
theorem dL_acts_20 : decode cL_acts 20 = .ok (.istore 4, 2) := by decide +kernel
theorem dL_acts_22 : decode cL_acts 22 = .ok (.iload_n 3, 1) := by decide +kernel
theorem dL_acts_23 : decode cL_acts 23 = .ok (.bipush 6, 2) := by decide +kernel
theorem dL_acts_25 : decode cL_acts 25 = .ok (.if_icmp .ge 109, 3) := by decide +kernel
theorem dL_acts_28 : decode cL_acts 28 = .ok (.iload_n 2, 1) := by decide +kernel
theorem dL_acts_29 : decode cL_acts 29 = .ok (.bipush 13, 2) := by decide +kernel
theorem dL_acts_31 : decode cL_acts 31 = .ok (.invokestatic 38, 3) := by decide +kernel
theorem dL_acts_34 : decode cL_acts 34 = .ok (.istore 5, 2) := by decide +kernel
theorem dL_acts_36 : decode cL_acts 36 = .ok (.iload_n 2, 1) := by decide +kernel
theorem dL_acts_37 : decode cL_acts 37 = .ok (.iconst 4, 1) := by decide +kernel
theorem dL_acts_38 : decode cL_acts 38 = .ok (.ishr, 1) := by decide +kernel
theorem dL_acts_39 : decode cL_acts 39 = .ok (.sipush 1001, 3) := by decide +kernel
theorem dL_acts_42 : decode cL_acts 42 = .ok (.invokestatic 38, 3) := by decide +kernel
theorem dL_acts_45 : decode cL_acts 45 = .ok (.istore 6, 2) := by decide +kernel
theorem dL_acts_47 : decode cL_acts 47 = .ok (.iload_n 2, 1) := by decide +kernel
theorem dL_acts_48 : decode cL_acts 48 = .ok (.bipush 15, 2) := by decide +kernel
theorem dL_acts_50 : decode cL_acts 50 = .ok (.ishr, 1) := by decide +kernel
theorem dL_acts_51 : decode cL_acts 51 = .ok (.iconst 3, 1) := by decide +kernel
theorem dL_acts_52 : decode cL_acts 52 = .ok (.invokestatic 38, 3) := by decide +kernel
theorem dL_acts_55 : decode cL_acts 55 = .ok (.istore 7, 2) := by decide +kernel
theorem dL_acts_57 : decode cL_acts 57 = .ok (.aload_n 0, 1) := by decide +kernel
theorem dL_acts_58 : decode cL_acts 58 = .ok (.iconst 4, 1) := by decide +kernel
theorem dL_acts_59 : decode cL_acts 59 = .ok (.invokevirtual 13, 3) := by decide +kernel
theorem dL_acts_62 : decode cL_acts 62 = .ok (.istore 8, 2) := by decide +kernel
theorem dL_acts_64 : decode cL_acts 64 = .ok (.aload_n 0, 1) := by decide +kernel
theorem dL_acts_65 : decode cL_acts 65 = .ok (.iload 5, 2) := by decide +kernel
theorem dL_acts_67 : decode cL_acts 67 = .ok (.iload 6, 2) := by decide +kernel
theorem dL_acts_69 : decode cL_acts 69 = .ok (.iload 7, 2) := by decide +kernel
theorem dL_acts_71 : decode cL_acts 71 = .ok (.invokevirtual 55, 3) := by decide +kernel
theorem dL_acts_74 : decode cL_acts 74 = .ok (.iload 5, 2) := by decide +kernel
theorem dL_acts_76 : decode cL_acts 76 = .ok (.bipush 12, 2) := by decide +kernel
theorem dL_acts_78 : decode cL_acts 78 = .ok (.if_icmp .eq 17, 3) := by decide +kernel
theorem dL_acts_81 : decode cL_acts 81 = .ok (.iload 6, 2) := by decide +kernel
theorem dL_acts_83 : decode cL_acts 83 = .ok (.sipush 1000, 3) := by decide +kernel
theorem dL_acts_86 : decode cL_acts 86 = .ok (.if_icmp .eq 9, 3) := by decide +kernel
theorem dL_acts_89 : decode cL_acts 89 = .ok (.iload 7, 2) := by decide +kernel
theorem dL_acts_91 : decode cL_acts 91 = .ok (.iconst 2, 1) := by decide +kernel
theorem dL_acts_92 : decode cL_acts 92 = .ok (.if_icmp .ne 7, 3) := by decide +kernel
theorem dL_acts_95 : decode cL_acts 95 = .ok (.iconst (-1), 1) := by decide +kernel
theorem dL_acts_96 : decode cL_acts 96 = .ok (.goto 29, 3) := by decide +kernel
theorem dL_acts_99 : decode cL_acts 99 = .ok (.iload 4, 2) := by decide +kernel
theorem dL_acts_101 : decode cL_acts 101 = .ok (.ifCond .eq 8, 3) := by decide +kernel
theorem dL_acts_104 : decode cL_acts 104 = .ok (.bipush (-2), 2) := by decide +kernel
theorem dL_acts_106 : decode cL_acts 106 = .ok (.goto 19, 3) := by decide +kernel
theorem dL_acts_109 : decode cL_acts 109 = .ok (.iload 8, 2) := by decide +kernel
theorem dL_acts_111 : decode cL_acts 111 = .ok (.bipush 8, 2) := by decide +kernel
theorem dL_acts_113 : decode cL_acts 113 = .ok (.if_icmp .ne 8, 3) := by decide +kernel
theorem dL_acts_116 : decode cL_acts 116 = .ok (.bipush (-3), 2) := by decide +kernel
theorem dL_acts_118 : decode cL_acts 118 = .ok (.goto 7, 3) := by decide +kernel
theorem dL_acts_121 : decode cL_acts 121 = .ok (.iload 8, 2) := by decide +kernel
theorem dL_acts_123 : decode cL_acts 123 = .ok (.iconst 1, 1) := by decide +kernel
theorem dL_acts_124 : decode cL_acts 124 = .ok (.iadd, 1) := by decide +kernel
theorem dL_acts_125 : decode cL_acts 125 = .ok (.if_icmp .ne 7, 3) := by decide +kernel
theorem dL_acts_128 : decode cL_acts 128 = .ok (.iconst 1, 1) := by decide +kernel
theorem dL_acts_129 : decode cL_acts 129 = .ok (.goto 4, 3) := by decide +kernel
theorem dL_acts_132 : decode cL_acts 132 = .ok (.iconst 0, 1) := by decide +kernel
theorem dL_acts_133 : decode cL_acts 133 = .ok (.ireturn, 1) := by decide +kernel
theorem dL_acts_134 : decode cL_acts 134 = .ok (.iload_n 3, 1) := by decide +kernel
theorem dL_acts_135 : decode cL_acts 135 = .ok (.bipush 10, 2) := by decide +kernel
theorem dL_acts_137 : decode cL_acts 137 = .ok (.if_icmp .ge 164, 3) := by decide +kernel
theorem dL_acts_140 : decode cL_acts 140 = .ok (.iload_n 2, 1) := by decide +kernel
theorem dL_acts_141 : decode cL_acts 141 = .ok (.iconst 5, 1) := by decide +kernel
theorem dL_acts_142 : decode cL_acts 142 = .ok (.invokestatic 38, 3) := by decide +kernel
theorem dL_acts_145 : decode cL_acts 145 = .ok (.ifCond .ne 15, 3) := by decide +kernel
theorem dL_acts_148 : decode cL_acts 148 = .ok (.iload_n 2, 1) := by decide +kernel
theorem dL_acts_149 : decode cL_acts 149 = .ok (.iconst 3, 1) := by decide +kernel
theorem dL_acts_150 : decode cL_acts 150 = .ok (.ishr, 1) := by decide +kernel
theorem dL_acts_151 : decode cL_acts 151 = .ok (.sipush 202, 3) := by decide +kernel
theorem dL_acts_154 : decode cL_acts 154 = .ok (.invokestatic 38, 3) := by decide +kernel
theorem dL_acts_157 : decode cL_acts 157 = .ok (.goto 13, 3) := by decide +kernel
theorem dL_acts_160 : decode cL_acts 160 = .ok (.iconst 1, 1) := by decide +kernel
theorem dL_acts_161 : decode cL_acts 161 = .ok (.iload_n 2, 1) := by decide +kernel
theorem dL_acts_162 : decode cL_acts 162 = .ok (.iconst 3, 1) := by decide +kernel
theorem dL_acts_163 : decode cL_acts 163 = .ok (.ishr, 1) := by decide +kernel
theorem dL_acts_164 : decode cL_acts 164 = .ok (.bipush 9, 2) := by decide +kernel
theorem dL_acts_166 : decode cL_acts 166 = .ok (.invokestatic 38, 3) := by decide +kernel
theorem dL_acts_169 : decode cL_acts 169 = .ok (.iadd, 1) := by decide +kernel
theorem dL_acts_170 : decode cL_acts 170 = .ok (.istore 5, 2) := by decide +kernel
theorem dL_acts_172 : decode cL_acts 172 = .ok (.aload_n 0, 1) := by decide +kernel
theorem dL_acts_173 : decode cL_acts 173 = .ok (.iconst 0, 1) := by decide +kernel
theorem dL_acts_174 : decode cL_acts 174 = .ok (.invokevirtual 13, 3) := by decide +kernel
theorem dL_acts_177 : decode cL_acts 177 = .ok (.istore 6, 2) := by decide +kernel
theorem dL_acts_179 : decode cL_acts 179 = .ok (.aload_n 0, 1) := by decide +kernel
theorem dL_acts_180 : decode cL_acts 180 = .ok (.bipush 7, 2) := by decide +kernel
theorem dL_acts_182 : decode cL_acts 182 = .ok (.invokevirtual 13, 3) := by decide +kernel
theorem dL_acts_185 : decode cL_acts 185 = .ok (.istore 7, 2) := by decide +kernel
theorem dL_acts_187 : decode cL_acts 187 = .ok (.aload_n 0, 1) := by decide +kernel
theorem dL_acts_188 : decode cL_acts 188 = .ok (.iload 5, 2) := by decide +kernel
theorem dL_acts_190 : decode cL_acts 190 = .ok (.invokevirtual 58, 3) := by decide +kernel
theorem dL_acts_193 : decode cL_acts 193 = .ok (.istore 8, 2) := by decide +kernel
theorem dL_acts_195 : decode cL_acts 195 = .ok (.iload 5, 2) := by decide +kernel
theorem dL_acts_197 : decode cL_acts 197 = .ok (.ifCond .eq 11, 3) := by decide +kernel
theorem dL_acts_200 : decode cL_acts 200 = .ok (.iload 5, 2) := by decide +kernel
theorem dL_acts_202 : decode cL_acts 202 = .ok (.sipush 201, 3) := by decide +kernel
theorem dL_acts_205 : decode cL_acts 205 = .ok (.if_icmp .ne 17, 3) := by decide +kernel
theorem dL_acts_208 : decode cL_acts 208 = .ok (.iload 8, 2) := by decide +kernel
theorem dL_acts_210 : decode cL_acts 210 = .ok (.iconst (-1), 1) := by decide +kernel
theorem dL_acts_211 : decode cL_acts 211 = .ok (.if_icmp .ne 7, 3) := by decide +kernel
theorem dL_acts_214 : decode cL_acts 214 = .ok (.iconst 1, 1) := by decide +kernel
theorem dL_acts_215 : decode cL_acts 215 = .ok (.goto 85, 3) := by decide +kernel
theorem dL_acts_218 : decode cL_acts 218 = .ok (.iconst 0, 1) := by decide +kernel
theorem dL_acts_219 : decode cL_acts 219 = .ok (.goto 81, 3) := by decide +kernel
theorem dL_acts_222 : decode cL_acts 222 = .ok (.iload 4, 2) := by decide +kernel
theorem dL_acts_224 : decode cL_acts 224 = .ok (.ifCond .eq 18, 3) := by decide +kernel
theorem dL_acts_227 : decode cL_acts 227 = .ok (.iload 8, 2) := by decide +kernel
theorem dL_acts_229 : decode cL_acts 229 = .ok (.bipush (-2), 2) := by decide +kernel
theorem dL_acts_231 : decode cL_acts 231 = .ok (.if_icmp .ne 7, 3) := by decide +kernel
theorem dL_acts_234 : decode cL_acts 234 = .ok (.iconst 1, 1) := by decide +kernel
theorem dL_acts_235 : decode cL_acts 235 = .ok (.goto 65, 3) := by decide +kernel
theorem dL_acts_238 : decode cL_acts 238 = .ok (.iconst 0, 1) := by decide +kernel
theorem dL_acts_239 : decode cL_acts 239 = .ok (.goto 61, 3) := by decide +kernel
theorem dL_acts_242 : decode cL_acts 242 = .ok (.iload 8, 2) := by decide +kernel
theorem dL_acts_244 : decode cL_acts 244 = .ok (.bipush (-3), 2) := by decide +kernel
theorem dL_acts_246 : decode cL_acts 246 = .ok (.if_icmp .ne 22, 3) := by decide +kernel
theorem dL_acts_249 : decode cL_acts 249 = .ok (.iload 6, 2) := by decide +kernel
theorem dL_acts_251 : decode cL_acts 251 = .ok (.iload 5, 2) := by decide +kernel
theorem dL_acts_253 : decode cL_acts 253 = .ok (.iadd, 1) := by decide +kernel
theorem dL_acts_254 : decode cL_acts 254 = .ok (.sipush 9000, 3) := by decide +kernel
theorem dL_acts_257 : decode cL_acts 257 = .ok (.if_icmp .le 7, 3) := by decide +kernel
theorem dL_acts_260 : decode cL_acts 260 = .ok (.iconst 1, 1) := by decide +kernel
theorem dL_acts_261 : decode cL_acts 261 = .ok (.goto 39, 3) := by decide +kernel
theorem dL_acts_264 : decode cL_acts 264 = .ok (.iconst 0, 1) := by decide +kernel
theorem dL_acts_265 : decode cL_acts 265 = .ok (.goto 35, 3) := by decide +kernel
theorem dL_acts_268 : decode cL_acts 268 = .ok (.aload_n 0, 1) := by decide +kernel
theorem dL_acts_269 : decode cL_acts 269 = .ok (.bipush 7, 2) := by decide +kernel
theorem dL_acts_271 : decode cL_acts 271 = .ok (.invokevirtual 13, 3) := by decide +kernel
theorem dL_acts_274 : decode cL_acts 274 = .ok (.iload 7, 2) := by decide +kernel
theorem dL_acts_276 : decode cL_acts 276 = .ok (.iload 8, 2) := by decide +kernel
theorem dL_acts_278 : decode cL_acts 278 = .ok (.iadd, 1) := by decide +kernel
theorem dL_acts_279 : decode cL_acts 279 = .ok (.if_icmp .ne 20, 3) := by decide +kernel
theorem dL_acts_282 : decode cL_acts 282 = .ok (.aload_n 0, 1) := by decide +kernel
theorem dL_acts_283 : decode cL_acts 283 = .ok (.iconst 0, 1) := by decide +kernel
theorem dL_acts_284 : decode cL_acts 284 = .ok (.invokevirtual 13, 3) := by decide +kernel
theorem dL_acts_287 : decode cL_acts 287 = .ok (.iload 6, 2) := by decide +kernel
theorem dL_acts_289 : decode cL_acts 289 = .ok (.iload 5, 2) := by decide +kernel
theorem dL_acts_291 : decode cL_acts 291 = .ok (.iadd, 1) := by decide +kernel
theorem dL_acts_292 : decode cL_acts 292 = .ok (.if_icmp .ne 7, 3) := by decide +kernel
theorem dL_acts_295 : decode cL_acts 295 = .ok (.iconst 1, 1) := by decide +kernel
theorem dL_acts_296 : decode cL_acts 296 = .ok (.goto 4, 3) := by decide +kernel
theorem dL_acts_299 : decode cL_acts 299 = .ok (.iconst 0, 1) := by decide +kernel
theorem dL_acts_300 : decode cL_acts 300 = .ok (.ireturn, 1) := by decide +kernel
theorem dL_acts_301 : decode cL_acts 301 = .ok (.iload_n 3, 1) := by decide +kernel
theorem dL_acts_302 : decode cL_acts 302 = .ok (.bipush 10, 2) := by decide +kernel
theorem dL_acts_304 : decode cL_acts 304 = .ok (.if_icmp .ne 70, 3) := by decide +kernel
theorem dL_acts_307 : decode cL_acts 307 = .ok (.aload_n 0, 1) := by decide +kernel
theorem dL_acts_308 : decode cL_acts 308 = .ok (.bipush 9, 2) := by decide +kernel
theorem dL_acts_310 : decode cL_acts 310 = .ok (.invokevirtual 13, 3) := by decide +kernel
theorem dL_acts_313 : decode cL_acts 313 = .ok (.istore 5, 2) := by decide +kernel
theorem dL_acts_315 : decode cL_acts 315 = .ok (.aload_n 0, 1) := by decide +kernel
theorem dL_acts_316 : decode cL_acts 316 = .ok (.invokevirtual 61, 3) := by decide +kernel
theorem dL_acts_319 : decode cL_acts 319 = .ok (.istore 6, 2) := by decide +kernel
theorem dL_acts_321 : decode cL_acts 321 = .ok (.iload 4, 2) := by decide +kernel
theorem dL_acts_323 : decode cL_acts 323 = .ok (.ifCond .eq 18, 3) := by decide +kernel
theorem dL_acts_326 : decode cL_acts 326 = .ok (.iload 6, 2) := by decide +kernel
theorem dL_acts_328 : decode cL_acts 328 = .ok (.bipush (-2), 2) := by decide +kernel
theorem dL_acts_330 : decode cL_acts 330 = .ok (.if_icmp .ne 7, 3) := by decide +kernel
theorem dL_acts_333 : decode cL_acts 333 = .ok (.iconst 1, 1) := by decide +kernel
theorem dL_acts_334 : decode cL_acts 334 = .ok (.goto 39, 3) := by decide +kernel
theorem dL_acts_337 : decode cL_acts 337 = .ok (.iconst 0, 1) := by decide +kernel
theorem dL_acts_338 : decode cL_acts 338 = .ok (.goto 35, 3) := by decide +kernel
theorem dL_acts_341 : decode cL_acts 341 = .ok (.iload 6, 2) := by decide +kernel
theorem dL_acts_343 : decode cL_acts 343 = .ok (.ifCond .lt 29, 3) := by decide +kernel
theorem dL_acts_346 : decode cL_acts 346 = .ok (.aload_n 0, 1) := by decide +kernel
theorem dL_acts_347 : decode cL_acts 347 = .ok (.bipush 9, 2) := by decide +kernel
theorem dL_acts_349 : decode cL_acts 349 = .ok (.invokevirtual 13, 3) := by decide +kernel
theorem dL_acts_352 : decode cL_acts 352 = .ok (.iload 5, 2) := by decide +kernel
theorem dL_acts_354 : decode cL_acts 354 = .ok (.iload 6, 2) := by decide +kernel
theorem dL_acts_356 : decode cL_acts 356 = .ok (.iadd, 1) := by decide +kernel
theorem dL_acts_357 : decode cL_acts 357 = .ok (.if_icmp .ne 15, 3) := by decide +kernel
theorem dL_acts_360 : decode cL_acts 360 = .ok (.aload_n 0, 1) := by decide +kernel
theorem dL_acts_361 : decode cL_acts 361 = .ok (.iconst 1, 1) := by decide +kernel
theorem dL_acts_362 : decode cL_acts 362 = .ok (.invokevirtual 13, 3) := by decide +kernel
theorem dL_acts_365 : decode cL_acts 365 = .ok (.ifCond .ne 7, 3) := by decide +kernel
theorem dL_acts_368 : decode cL_acts 368 = .ok (.iconst 1, 1) := by decide +kernel
theorem dL_acts_369 : decode cL_acts 369 = .ok (.goto 4, 3) := by decide +kernel
theorem dL_acts_372 : decode cL_acts 372 = .ok (.iconst 0, 1) := by decide +kernel
theorem dL_acts_373 : decode cL_acts 373 = .ok (.ireturn, 1) := by decide +kernel
theorem dL_acts_374 : decode cL_acts 374 = .ok (.iload_n 3, 1) := by decide +kernel
theorem dL_acts_375 : decode cL_acts 375 = .ok (.bipush 13, 2) := by decide +kernel
theorem dL_acts_377 : decode cL_acts 377 = .ok (.if_icmp .ge 54, 3) := by decide +kernel
theorem dL_acts_380 : decode cL_acts 380 = .ok (.aload_n 0, 1) := by decide +kernel
theorem dL_acts_381 : decode cL_acts 381 = .ok (.invokevirtual 64, 3) := by decide +kernel
theorem dL_acts_384 : decode cL_acts 384 = .ok (.istore 5, 2) := by decide +kernel
theorem dL_acts_386 : decode cL_acts 386 = .ok (.iload 4, 2) := by decide +kernel
theorem dL_acts_388 : decode cL_acts 388 = .ok (.ifCond .eq 30, 3) := by decide +kernel
theorem dL_acts_391 : decode cL_acts 391 = .ok (.iload 5, 2) := by decide +kernel
theorem dL_acts_393 : decode cL_acts 393 = .ok (.aload_n 0, 1) := by decide +kernel
theorem dL_acts_394 : decode cL_acts 394 = .ok (.iconst 4, 1) := by decide +kernel
theorem dL_acts_395 : decode cL_acts 395 = .ok (.invokevirtual 13, 3) := by decide +kernel
theorem dL_acts_398 : decode cL_acts 398 = .ok (.if_icmp .ne 16, 3) := by decide +kernel
theorem dL_acts_401 : decode cL_acts 401 = .ok (.aload_n 0, 1) := by decide +kernel
theorem dL_acts_402 : decode cL_acts 402 = .ok (.iconst 1, 1) := by decide +kernel
theorem dL_acts_403 : decode cL_acts 403 = .ok (.invokevirtual 13, 3) := by decide +kernel
theorem dL_acts_406 : decode cL_acts 406 = .ok (.iconst 1, 1) := by decide +kernel
theorem dL_acts_407 : decode cL_acts 407 = .ok (.if_icmp .ne 7, 3) := by decide +kernel
theorem dL_acts_410 : decode cL_acts 410 = .ok (.iconst 1, 1) := by decide +kernel
theorem dL_acts_411 : decode cL_acts 411 = .ok (.goto 19, 3) := by decide +kernel
theorem dL_acts_414 : decode cL_acts 414 = .ok (.iconst 0, 1) := by decide +kernel
theorem dL_acts_415 : decode cL_acts 415 = .ok (.goto 15, 3) := by decide +kernel
theorem dL_acts_418 : decode cL_acts 418 = .ok (.iload 5, 2) := by decide +kernel
theorem dL_acts_420 : decode cL_acts 420 = .ok (.bipush (-2), 2) := by decide +kernel
theorem dL_acts_422 : decode cL_acts 422 = .ok (.if_icmp .ne 7, 3) := by decide +kernel
theorem dL_acts_425 : decode cL_acts 425 = .ok (.iconst 1, 1) := by decide +kernel
theorem dL_acts_426 : decode cL_acts 426 = .ok (.goto 4, 3) := by decide +kernel
theorem dL_acts_429 : decode cL_acts 429 = .ok (.iconst 0, 1) := by decide +kernel
theorem dL_acts_430 : decode cL_acts 430 = .ok (.ireturn, 1) := by decide +kernel
theorem dL_acts_431 : decode cL_acts 431 = .ok (.iload_n 3, 1) := by decide +kernel
theorem dL_acts_432 : decode cL_acts 432 = .ok (.bipush 13, 2) := by decide +kernel
theorem dL_acts_434 : decode cL_acts 434 = .ok (.if_icmp .ne 99, 3) := by decide +kernel
theorem dL_acts_437 : decode cL_acts 437 = .ok (.aload_n 0, 1) := by decide +kernel
theorem dL_acts_438 : decode cL_acts 438 = .ok (.iconst 2, 1) := by decide +kernel
theorem dL_acts_439 : decode cL_acts 439 = .ok (.invokevirtual 13, 3) := by decide +kernel
theorem dL_acts_442 : decode cL_acts 442 = .ok (.istore 5, 2) := by decide +kernel
theorem dL_acts_444 : decode cL_acts 444 = .ok (.iload 4, 2) := by decide +kernel
theorem dL_acts_446 : decode cL_acts 446 = .ok (.ifCond .ne 15, 3) := by decide +kernel
theorem dL_acts_449 : decode cL_acts 449 = .ok (.aload_n 0, 1) := by decide +kernel
theorem dL_acts_450 : decode cL_acts 450 = .ok (.iconst 5, 1) := by decide +kernel
theorem dL_acts_451 : decode cL_acts 451 = .ok (.invokevirtual 13, 3) := by decide +kernel
theorem dL_acts_454 : decode cL_acts 454 = .ok (.ifCond .ne 7, 3) := by decide +kernel
theorem dL_acts_457 : decode cL_acts 457 = .ok (.iconst 1, 1) := by decide +kernel
theorem dL_acts_458 : decode cL_acts 458 = .ok (.goto 4, 3) := by decide +kernel
theorem dL_acts_461 : decode cL_acts 461 = .ok (.iconst 0, 1) := by decide +kernel
theorem dL_acts_462 : decode cL_acts 462 = .ok (.istore 6, 2) := by decide +kernel
theorem dL_acts_464 : decode cL_acts 464 = .ok (.iconst 0, 1) := by decide +kernel
theorem dL_acts_465 : decode cL_acts 465 = .ok (.istore 7, 2) := by decide +kernel
theorem dL_acts_467 : decode cL_acts 467 = .ok (.iload 7, 2) := by decide +kernel
theorem dL_acts_469 : decode cL_acts 469 = .ok (.bipush 16, 2) := by decide +kernel
theorem dL_acts_471 : decode cL_acts 471 = .ok (.if_icmp .ge 35, 3) := by decide +kernel
theorem dL_acts_474 : decode cL_acts 474 = .ok (.iload 6, 2) := by decide +kernel
theorem dL_acts_476 : decode cL_acts 476 = .ok (.ifCond .eq 21, 3) := by decide +kernel
theorem dL_acts_479 : decode cL_acts 479 = .ok (.aload_n 0, 1) := by decide +kernel
theorem dL_acts_480 : decode cL_acts 480 = .ok (.iconst 1, 1) := by decide +kernel
theorem dL_acts_481 : decode cL_acts 481 = .ok (.iload 5, 2) := by decide +kernel
theorem dL_acts_483 : decode cL_acts 483 = .ok (.isub, 1) := by decide +kernel
theorem dL_acts_484 : decode cL_acts 484 = .ok (.iload 7, 2) := by decide +kernel
theorem dL_acts_486 : decode cL_acts 486 = .ok (.iconst 0, 1) := by decide +kernel
theorem dL_acts_487 : decode cL_acts 487 = .ok (.invokevirtual 19, 3) := by decide +kernel
theorem dL_acts_490 : decode cL_acts 490 = .ok (.ifCond .ne 7, 3) := by decide +kernel
theorem dL_acts_493 : decode cL_acts 493 = .ok (.iconst 1, 1) := by decide +kernel
theorem dL_acts_494 : decode cL_acts 494 = .ok (.goto 4, 3) := by decide +kernel
theorem dL_acts_497 : decode cL_acts 497 = .ok (.iconst 0, 1) := by decide +kernel
theorem dL_acts_498 : decode cL_acts 498 = .ok (.istore 6, 2) := by decide +kernel
theorem dL_acts_500 : decode cL_acts 500 = .ok (.iinc 7 1, 3) := by decide +kernel
theorem dL_acts_503 : decode cL_acts 503 = .ok (.goto (-36), 3) := by decide +kernel
theorem dL_acts_506 : decode cL_acts 506 = .ok (.aload_n 0, 1) := by decide +kernel
theorem dL_acts_507 : decode cL_acts 507 = .ok (.invokevirtual 67, 3) := by decide +kernel
theorem dL_acts_510 : decode cL_acts 510 = .ok (.iload 6, 2) := by decide +kernel
theorem dL_acts_512 : decode cL_acts 512 = .ok (.ifCond .eq 10, 3) := by decide +kernel
theorem dL_acts_515 : decode cL_acts 515 = .ok (.iconst 1, 1) := by decide +kernel
theorem dL_acts_516 : decode cL_acts 516 = .ok (.iload 5, 2) := by decide +kernel
theorem dL_acts_518 : decode cL_acts 518 = .ok (.isub, 1) := by decide +kernel
theorem dL_acts_519 : decode cL_acts 519 = .ok (.goto 5, 3) := by decide +kernel
theorem dL_acts_522 : decode cL_acts 522 = .ok (.bipush (-2), 2) := by decide +kernel
theorem dL_acts_524 : decode cL_acts 524 = .ok (.if_icmp .ne 7, 3) := by decide +kernel
theorem dL_acts_527 : decode cL_acts 527 = .ok (.iconst 1, 1) := by decide +kernel
theorem dL_acts_528 : decode cL_acts 528 = .ok (.goto 4, 3) := by decide +kernel
theorem dL_acts_531 : decode cL_acts 531 = .ok (.iconst 0, 1) := by decide +kernel
theorem dL_acts_532 : decode cL_acts 532 = .ok (.ireturn, 1) := by decide +kernel
theorem dL_acts_533 : decode cL_acts 533 = .ok (.iload_n 3, 1) := by decide +kernel
theorem dL_acts_534 : decode cL_acts 534 = .ok (.bipush 14, 2) := by decide +kernel
theorem dL_acts_536 : decode cL_acts 536 = .ok (.if_icmp .ne 106, 3) := by decide +kernel
theorem dL_acts_539 : decode cL_acts 539 = .ok (.iload_n 2, 1) := by decide +kernel
theorem dL_acts_540 : decode cL_acts 540 = .ok (.iconst 3, 1) := by decide +kernel
theorem dL_acts_541 : decode cL_acts 541 = .ok (.invokestatic 38, 3) := by decide +kernel
theorem dL_acts_544 : decode cL_acts 544 = .ok (.istore 5, 2) := by decide +kernel
theorem dL_acts_546 : decode cL_acts 546 = .ok (.aload_n 0, 1) := by decide +kernel
theorem dL_acts_547 : decode cL_acts 547 = .ok (.iconst 4, 1) := by decide +kernel
theorem dL_acts_548 : decode cL_acts 548 = .ok (.invokevirtual 13, 3) := by decide +kernel
theorem dL_acts_551 : decode cL_acts 551 = .ok (.istore 6, 2) := by decide +kernel
theorem dL_acts_553 : decode cL_acts 553 = .ok (.aload_n 0, 1) := by decide +kernel
theorem dL_acts_554 : decode cL_acts 554 = .ok (.iload 5, 2) := by decide +kernel
theorem dL_acts_556 : decode cL_acts 556 = .ok (.invokevirtual 70, 3) := by decide +kernel
theorem dL_acts_559 : decode cL_acts 559 = .ok (.istore 7, 2) := by decide +kernel
theorem dL_acts_561 : decode cL_acts 561 = .ok (.iload 5, 2) := by decide +kernel
theorem dL_acts_563 : decode cL_acts 563 = .ok (.iconst 2, 1) := by decide +kernel
theorem dL_acts_564 : decode cL_acts 564 = .ok (.if_icmp .ne 17, 3) := by decide +kernel
theorem dL_acts_567 : decode cL_acts 567 = .ok (.iload 7, 2) := by decide +kernel
theorem dL_acts_569 : decode cL_acts 569 = .ok (.iconst (-1), 1) := by decide +kernel
theorem dL_acts_570 : decode cL_acts 570 = .ok (.if_icmp .ne 7, 3) := by decide +kernel
theorem dL_acts_573 : decode cL_acts 573 = .ok (.iconst 1, 1) := by decide +kernel
theorem dL_acts_574 : decode cL_acts 574 = .ok (.goto 67, 3) := by decide +kernel
theorem dL_acts_577 : decode cL_acts 577 = .ok (.iconst 0, 1) := by decide +kernel
theorem dL_acts_578 : decode cL_acts 578 = .ok (.goto 63, 3) := by decide +kernel
theorem dL_acts_581 : decode cL_acts 581 = .ok (.iload 4, 2) := by decide +kernel
theorem dL_acts_583 : decode cL_acts 583 = .ok (.ifCond .ne 13, 3) := by decide +kernel
theorem dL_acts_586 : decode cL_acts 586 = .ok (.iload 5, 2) := by decide +kernel
theorem dL_acts_588 : decode cL_acts 588 = .ok (.aload_n 0, 1) := by decide +kernel
theorem dL_acts_589 : decode cL_acts 589 = .ok (.iconst 2, 1) := by decide +kernel
theorem dL_acts_590 : decode cL_acts 590 = .ok (.invokevirtual 13, 3) := by decide +kernel
theorem dL_acts_593 : decode cL_acts 593 = .ok (.if_icmp .ne 18, 3) := by decide +kernel
theorem dL_acts_596 : decode cL_acts 596 = .ok (.iload 7, 2) := by decide +kernel
theorem dL_acts_598 : decode cL_acts 598 = .ok (.bipush (-2), 2) := by decide +kernel
theorem dL_acts_600 : decode cL_acts 600 = .ok (.if_icmp .ne 7, 3) := by decide +kernel
theorem dL_acts_603 : decode cL_acts 603 = .ok (.iconst 1, 1) := by decide +kernel
theorem dL_acts_604 : decode cL_acts 604 = .ok (.goto 37, 3) := by decide +kernel
theorem dL_acts_607 : decode cL_acts 607 = .ok (.iconst 0, 1) := by decide +kernel
theorem dL_acts_608 : decode cL_acts 608 = .ok (.goto 33, 3) := by decide +kernel
theorem dL_acts_611 : decode cL_acts 611 = .ok (.iload 7, 2) := by decide +kernel
theorem dL_acts_613 : decode cL_acts 613 = .ok (.bipush (-3), 2) := by decide +kernel
theorem dL_acts_615 : decode cL_acts 615 = .ok (.if_icmp .eq 21, 3) := by decide +kernel
theorem dL_acts_618 : decode cL_acts 618 = .ok (.iload 7, 2) := by decide +kernel
theorem dL_acts_620 : decode cL_acts 620 = .ok (.ifCond .lt 20, 3) := by decide +kernel
theorem dL_acts_623 : decode cL_acts 623 = .ok (.aload_n 0, 1) := by decide +kernel
theorem dL_acts_624 : decode cL_acts 624 = .ok (.iconst 4, 1) := by decide +kernel
theorem dL_acts_625 : decode cL_acts 625 = .ok (.invokevirtual 13, 3) := by decide +kernel
theorem dL_acts_628 : decode cL_acts 628 = .ok (.iload 6, 2) := by decide +kernel
theorem dL_acts_630 : decode cL_acts 630 = .ok (.iload 7, 2) := by decide +kernel
theorem dL_acts_632 : decode cL_acts 632 = .ok (.iadd, 1) := by decide +kernel
theorem dL_acts_633 : decode cL_acts 633 = .ok (.if_icmp .ne 7, 3) := by decide +kernel
theorem dL_acts_636 : decode cL_acts 636 = .ok (.iconst 1, 1) := by decide +kernel
theorem dL_acts_637 : decode cL_acts 637 = .ok (.goto 4, 3) := by decide +kernel
theorem dL_acts_640 : decode cL_acts 640 = .ok (.iconst 0, 1) := by decide +kernel
theorem dL_acts_641 : decode cL_acts 641 = .ok (.ireturn, 1) := by decide +kernel
theorem dL_acts_642 : decode cL_acts 642 = .ok (.iload_n 3, 1) := by decide +kernel
theorem dL_acts_643 : decode cL_acts 643 = .ok (.bipush 15, 2) := by decide +kernel
theorem dL_acts_645 : decode cL_acts 645 = .ok (.if_icmp .ne 138, 3) := by decide +kernel
theorem dL_acts_648 : decode cL_acts 648 = .ok (.iload_n 2, 1) := by decide +kernel
theorem dL_acts_649 : decode cL_acts 649 = .ok (.iconst 3, 1) := by decide +kernel
theorem dL_acts_650 : decode cL_acts 650 = .ok (.invokestatic 38, 3) := by decide +kernel
theorem dL_acts_653 : decode cL_acts 653 = .ok (.istore 5, 2) := by decide +kernel
theorem dL_acts_655 : decode cL_acts 655 = .ok (.iload 5, 2) := by decide +kernel
theorem dL_acts_657 : decode cL_acts 657 = .ok (.iconst 2, 1) := by decide +kernel
theorem dL_acts_658 : decode cL_acts 658 = .ok (.if_icmp .ge 22, 3) := by decide +kernel
theorem dL_acts_661 : decode cL_acts 661 = .ok (.iload 4, 2) := by decide +kernel
theorem dL_acts_663 : decode cL_acts 663 = .ok (.ifCond .ne 17, 3) := by decide +kernel
theorem dL_acts_666 : decode cL_acts 666 = .ok (.iload 5, 2) := by decide +kernel
theorem dL_acts_668 : decode cL_acts 668 = .ok (.aload_n 0, 1) := by decide +kernel
theorem dL_acts_669 : decode cL_acts 669 = .ok (.iconst 2, 1) := by decide +kernel
theorem dL_acts_670 : decode cL_acts 670 = .ok (.invokevirtual 13, 3) := by decide +kernel
theorem dL_acts_673 : decode cL_acts 673 = .ok (.if_icmp .eq 7, 3) := by decide +kernel
theorem dL_acts_676 : decode cL_acts 676 = .ok (.iconst 1, 1) := by decide +kernel
theorem dL_acts_677 : decode cL_acts 677 = .ok (.goto 4, 3) := by decide +kernel
theorem dL_acts_680 : decode cL_acts 680 = .ok (.iconst 0, 1) := by decide +kernel
theorem dL_acts_681 : decode cL_acts 681 = .ok (.istore 6, 2) := by decide +kernel
theorem dL_acts_683 : decode cL_acts 683 = .ok (.iconst 0, 1) := by decide +kernel
theorem dL_acts_684 : decode cL_acts 684 = .ok (.istore 7, 2) := by decide +kernel
theorem dL_acts_686 : decode cL_acts 686 = .ok (.iload 7, 2) := by decide +kernel
theorem dL_acts_688 : decode cL_acts 688 = .ok (.bipush 12, 2) := by decide +kernel
theorem dL_acts_690 : decode cL_acts 690 = .ok (.if_icmp .ge 33, 3) := by decide +kernel
theorem dL_acts_693 : decode cL_acts 693 = .ok (.iload 6, 2) := by decide +kernel
theorem dL_acts_695 : decode cL_acts 695 = .ok (.ifCond .eq 19, 3) := by decide +kernel
theorem dL_acts_698 : decode cL_acts 698 = .ok (.aload_n 0, 1) := by decide +kernel
theorem dL_acts_699 : decode cL_acts 699 = .ok (.iload 7, 2) := by decide +kernel
theorem dL_acts_701 : decode cL_acts 701 = .ok (.iconst 0, 1) := by decide +kernel
theorem dL_acts_702 : decode cL_acts 702 = .ok (.invokevirtual 30, 3) := by decide +kernel
theorem dL_acts_705 : decode cL_acts 705 = .ok (.iload 5, 2) := by decide +kernel
theorem dL_acts_707 : decode cL_acts 707 = .ok (.if_icmp .eq 7, 3) := by decide +kernel
theorem dL_acts_710 : decode cL_acts 710 = .ok (.iconst 1, 1) := by decide +kernel
theorem dL_acts_711 : decode cL_acts 711 = .ok (.goto 4, 3) := by decide +kernel
theorem dL_acts_714 : decode cL_acts 714 = .ok (.iconst 0, 1) := by decide +kernel
theorem dL_acts_715 : decode cL_acts 715 = .ok (.istore 6, 2) := by decide +kernel
theorem dL_acts_717 : decode cL_acts 717 = .ok (.iinc 7 1, 3) := by decide +kernel
theorem dL_acts_720 : decode cL_acts 720 = .ok (.goto (-34), 3) := by decide +kernel
theorem dL_acts_723 : decode cL_acts 723 = .ok (.iload 5, 2) := by decide +kernel
theorem dL_acts_725 : decode cL_acts 725 = .ok (.iconst 2, 1) := by decide +kernel
theorem dL_acts_726 : decode cL_acts 726 = .ok (.if_icmp .ge 15, 3) := by decide +kernel
theorem dL_acts_729 : decode cL_acts 729 = .ok (.aload_n 0, 1) := by decide +kernel
theorem dL_acts_730 : decode cL_acts 730 = .ok (.bipush 12, 2) := by decide +kernel
theorem dL_acts_732 : decode cL_acts 732 = .ok (.iload 5, 2) := by decide +kernel
theorem dL_acts_734 : decode cL_acts 734 = .ok (.iadd, 1) := by decide +kernel
theorem dL_acts_735 : decode cL_acts 735 = .ok (.invokevirtual 13, 3) := by decide +kernel
theorem dL_acts_738 : decode cL_acts 738 = .ok (.goto 4, 3) := by decide +kernel
theorem dL_acts_741 : decode cL_acts 741 = .ok (.iconst 0, 1) := by decide +kernel
theorem dL_acts_742 : decode cL_acts 742 = .ok (.istore 7, 2) := by decide +kernel
theorem dL_acts_744 : decode cL_acts 744 = .ok (.aload_n 0, 1) := by decide +kernel
theorem dL_acts_745 : decode cL_acts 745 = .ok (.iload 5, 2) := by decide +kernel
theorem dL_acts_747 : decode cL_acts 747 = .ok (.invokevirtual 73, 3) := by decide +kernel
theorem dL_acts_750 : decode cL_acts 750 = .ok (.iload 5, 2) := by decide +kernel
theorem dL_acts_752 : decode cL_acts 752 = .ok (.iconst 2, 1) := by decide +kernel
theorem dL_acts_753 : decode cL_acts 753 = .ok (.if_icmp .ne 7, 3) := by decide +kernel
theorem dL_acts_756 : decode cL_acts 756 = .ok (.iconst (-1), 1) := by decide +kernel
theorem dL_acts_757 : decode cL_acts 757 = .ok (.goto 17, 3) := by decide +kernel
theorem dL_acts_760 : decode cL_acts 760 = .ok (.iload 6, 2) := by decide +kernel
theorem dL_acts_762 : decode cL_acts 762 = .ok (.ifCond .eq 10, 3) := by decide +kernel
theorem dL_acts_765 : decode cL_acts 765 = .ok (.iload 7, 2) := by decide +kernel
theorem dL_acts_767 : decode cL_acts 767 = .ok (.iconst 1, 1) := by decide +kernel
theorem dL_acts_768 : decode cL_acts 768 = .ok (.iadd, 1) := by decide +kernel
theorem dL_acts_769 : decode cL_acts 769 = .ok (.goto 5, 3) := by decide +kernel
theorem dL_acts_772 : decode cL_acts 772 = .ok (.bipush (-2), 2) := by decide +kernel
theorem dL_acts_774 : decode cL_acts 774 = .ok (.if_icmp .ne 7, 3) := by decide +kernel
theorem dL_acts_777 : decode cL_acts 777 = .ok (.iconst 1, 1) := by decide +kernel
theorem dL_acts_778 : decode cL_acts 778 = .ok (.goto 4, 3) := by decide +kernel
theorem dL_acts_781 : decode cL_acts 781 = .ok (.iconst 0, 1) := by decide +kernel
theorem dL_acts_782 : decode cL_acts 782 = .ok (.ireturn, 1) := by decide +kernel
theorem dL_acts_783 : decode cL_acts 783 = .ok (.iload_n 3, 1) := by decide +kernel
theorem dL_acts_784 : decode cL_acts 784 = .ok (.bipush 16, 2) := by decide +kernel
theorem dL_acts_786 : decode cL_acts 786 = .ok (.if_icmp .ne 217, 3) := by decide +kernel
theorem dL_acts_789 : decode cL_acts 789 = .ok (.iload_n 2, 1) := by decide +kernel
theorem dL_acts_790 : decode cL_acts 790 = .ok (.bipush 9, 2) := by decide +kernel
theorem dL_acts_792 : decode cL_acts 792 = .ok (.invokestatic 38, 3) := by decide +kernel
theorem dL_acts_795 : decode cL_acts 795 = .ok (.istore 5, 2) := by decide +kernel
theorem dL_acts_797 : decode cL_acts 797 = .ok (.iload_n 2, 1) := by decide +kernel
theorem dL_acts_798 : decode cL_acts 798 = .ok (.iconst 4, 1) := by decide +kernel
theorem dL_acts_799 : decode cL_acts 799 = .ok (.ishr, 1) := by decide +kernel
theorem dL_acts_800 : decode cL_acts 800 = .ok (.bipush 7, 2) := by decide +kernel
theorem dL_acts_802 : decode cL_acts 802 = .ok (.invokestatic 38, 3) := by decide +kernel
theorem dL_acts_805 : decode cL_acts 805 = .ok (.istore 6, 2) := by decide +kernel
theorem dL_acts_807 : decode cL_acts 807 = .ok (.iload_n 2, 1) := by decide +kernel
theorem dL_acts_808 : decode cL_acts 808 = .ok (.bipush 7, 2) := by decide +kernel
theorem dL_acts_810 : decode cL_acts 810 = .ok (.ishr, 1) := by decide +kernel
theorem dL_acts_811 : decode cL_acts 811 = .ok (.iconst 5, 1) := by decide +kernel
theorem dL_acts_812 : decode cL_acts 812 = .ok (.invokestatic 38, 3) := by decide +kernel
theorem dL_acts_815 : decode cL_acts 815 = .ok (.istore 7, 2) := by decide +kernel
theorem dL_acts_817 : decode cL_acts 817 = .ok (.iload_n 2, 1) := by decide +kernel
theorem dL_acts_818 : decode cL_acts 818 = .ok (.bipush 10, 2) := by decide +kernel
theorem dL_acts_820 : decode cL_acts 820 = .ok (.ishr, 1) := by decide +kernel
theorem dL_acts_821 : decode cL_acts 821 = .ok (.bipush 8, 2) := by decide +kernel
theorem dL_acts_823 : decode cL_acts 823 = .ok (.invokestatic 38, 3) := by decide +kernel
theorem dL_acts_826 : decode cL_acts 826 = .ok (.istore 8, 2) := by decide +kernel
theorem dL_acts_828 : decode cL_acts 828 = .ok (.iload_n 2, 1) := by decide +kernel
theorem dL_acts_829 : decode cL_acts 829 = .ok (.bipush 13, 2) := by decide +kernel
theorem dL_acts_831 : decode cL_acts 831 = .ok (.ishr, 1) := by decide +kernel
theorem dL_acts_832 : decode cL_acts 832 = .ok (.iconst 2, 1) := by decide +kernel
theorem dL_acts_833 : decode cL_acts 833 = .ok (.invokestatic 38, 3) := by decide +kernel
theorem dL_acts_836 : decode cL_acts 836 = .ok (.ifCond .ne 7, 3) := by decide +kernel
theorem dL_acts_839 : decode cL_acts 839 = .ok (.iconst 1, 1) := by decide +kernel
theorem dL_acts_840 : decode cL_acts 840 = .ok (.goto 4, 3) := by decide +kernel
theorem dL_acts_843 : decode cL_acts 843 = .ok (.iconst 0, 1) := by decide +kernel
theorem dL_acts_844 : decode cL_acts 844 = .ok (.istore 9, 2) := by decide +kernel
theorem dL_acts_846 : decode cL_acts 846 = .ok (.iload 9, 2) := by decide +kernel
theorem dL_acts_848 : decode cL_acts 848 = .ok (.ifCond .eq 26, 3) := by decide +kernel
theorem dL_acts_851 : decode cL_acts 851 = .ok (.iload 5, 2) := by decide +kernel
theorem dL_acts_853 : decode cL_acts 853 = .ok (.bipush 8, 2) := by decide +kernel
theorem dL_acts_855 : decode cL_acts 855 = .ok (.if_icmp .ne 7, 3) := by decide +kernel
theorem dL_acts_858 : decode cL_acts 858 = .ok (.iconst 0, 1) := by decide +kernel
theorem dL_acts_859 : decode cL_acts 859 = .ok (.goto 34, 3) := by decide +kernel
theorem dL_acts_862 : decode cL_acts 862 = .ok (.aload_n 0, 1) := by decide +kernel
theorem dL_acts_863 : decode cL_acts 863 = .ok (.bipush 30, 2) := by decide +kernel
theorem dL_acts_865 : decode cL_acts 865 = .ok (.iload 5, 2) := by decide +kernel
theorem dL_acts_867 : decode cL_acts 867 = .ok (.iadd, 1) := by decide +kernel
theorem dL_acts_868 : decode cL_acts 868 = .ok (.invokevirtual 13, 3) := by decide +kernel
theorem dL_acts_871 : decode cL_acts 871 = .ok (.goto 22, 3) := by decide +kernel
theorem dL_acts_874 : decode cL_acts 874 = .ok (.iload 7, 2) := by decide +kernel
theorem dL_acts_876 : decode cL_acts 876 = .ok (.iconst 4, 1) := by decide +kernel
theorem dL_acts_877 : decode cL_acts 877 = .ok (.if_icmp .ne 7, 3) := by decide +kernel
theorem dL_acts_880 : decode cL_acts 880 = .ok (.iconst 0, 1) := by decide +kernel
theorem dL_acts_881 : decode cL_acts 881 = .ok (.goto 12, 3) := by decide +kernel
theorem dL_acts_884 : decode cL_acts 884 = .ok (.aload_n 0, 1) := by decide +kernel
theorem dL_acts_885 : decode cL_acts 885 = .ok (.bipush 20, 2) := by decide +kernel
theorem dL_acts_887 : decode cL_acts 887 = .ok (.iload 7, 2) := by decide +kernel
theorem dL_acts_889 : decode cL_acts 889 = .ok (.iadd, 1) := by decide +kernel
theorem dL_acts_890 : decode cL_acts 890 = .ok (.invokevirtual 13, 3) := by decide +kernel
theorem dL_acts_893 : decode cL_acts 893 = .ok (.istore 10, 2) := by decide +kernel
theorem dL_acts_895 : decode cL_acts 895 = .ok (.iload 9, 2) := by decide +kernel
theorem dL_acts_897 : decode cL_acts 897 = .ok (.ifCond .eq 14, 3) := by decide +kernel
theorem dL_acts_900 : decode cL_acts 900 = .ok (.aload_n 0, 1) := by decide +kernel
theorem dL_acts_901 : decode cL_acts 901 = .ok (.iload 5, 2) := by decide +kernel
theorem dL_acts_903 : decode cL_acts 903 = .ok (.iload 6, 2) := by decide +kernel
theorem dL_acts_905 : decode cL_acts 905 = .ok (.invokevirtual 76, 3) := by decide +kernel
theorem dL_acts_908 : decode cL_acts 908 = .ok (.goto 11, 3) := by decide +kernel
theorem dL_acts_911 : decode cL_acts 911 = .ok (.aload_n 0, 1) := by decide +kernel
theorem dL_acts_912 : decode cL_acts 912 = .ok (.iload 7, 2) := by decide +kernel
theorem dL_acts_914 : decode cL_acts 914 = .ok (.iload 8, 2) := by decide +kernel
theorem dL_acts_916 : decode cL_acts 916 = .ok (.invokevirtual 79, 3) := by decide +kernel
theorem dL_acts_919 : decode cL_acts 919 = .ok (.istore 11, 2) := by decide +kernel
theorem dL_acts_921 : decode cL_acts 921 = .ok (.iload 9, 2) := by decide +kernel
theorem dL_acts_923 : decode cL_acts 923 = .ok (.ifCond .eq 25, 3) := by decide +kernel
theorem dL_acts_926 : decode cL_acts 926 = .ok (.iload 5, 2) := by decide +kernel
theorem dL_acts_928 : decode cL_acts 928 = .ok (.bipush 8, 2) := by decide +kernel
theorem dL_acts_930 : decode cL_acts 930 = .ok (.if_icmp .eq 10, 3) := by decide +kernel
theorem dL_acts_933 : decode cL_acts 933 = .ok (.iload 6, 2) := by decide +kernel
theorem dL_acts_935 : decode cL_acts 935 = .ok (.bipush 6, 2) := by decide +kernel
theorem dL_acts_937 : decode cL_acts 937 = .ok (.if_icmp .ne 7, 3) := by decide +kernel
theorem dL_acts_940 : decode cL_acts 940 = .ok (.iconst 1, 1) := by decide +kernel
theorem dL_acts_941 : decode cL_acts 941 = .ok (.goto 38, 3) := by decide +kernel
theorem dL_acts_944 : decode cL_acts 944 = .ok (.iconst 0, 1) := by decide +kernel
theorem dL_acts_945 : decode cL_acts 945 = .ok (.goto 34, 3) := by decide +kernel
theorem dL_acts_948 : decode cL_acts 948 = .ok (.iload 7, 2) := by decide +kernel
theorem dL_acts_950 : decode cL_acts 950 = .ok (.iconst 4, 1) := by decide +kernel
theorem dL_acts_951 : decode cL_acts 951 = .ok (.if_icmp .eq 23, 3) := by decide +kernel
theorem dL_acts_954 : decode cL_acts 954 = .ok (.iload 7, 2) := by decide +kernel
theorem dL_acts_956 : decode cL_acts 956 = .ok (.iconst 2, 1) := by decide +kernel
theorem dL_acts_957 : decode cL_acts 957 = .ok (.if_icmp .ne 12, 3) := by decide +kernel
theorem dL_acts_960 : decode cL_acts 960 = .ok (.iload 8, 2) := by decide +kernel
theorem dL_acts_962 : decode cL_acts 962 = .ok (.iconst 1, 1) := by decide +kernel
theorem dL_acts_963 : decode cL_acts 963 = .ok (.if_icmp .le 15, 3) := by decide +kernel
theorem dL_acts_966 : decode cL_acts 966 = .ok (.goto 8, 3) := by decide +kernel
theorem dL_acts_969 : decode cL_acts 969 = .ok (.iload 8, 2) := by decide +kernel
theorem dL_acts_971 : decode cL_acts 971 = .ok (.ifCond .ne 7, 3) := by decide +kernel
theorem dL_acts_974 : decode cL_acts 974 = .ok (.iconst 1, 1) := by decide +kernel
theorem dL_acts_975 : decode cL_acts 975 = .ok (.goto 4, 3) := by decide +kernel
theorem dL_acts_978 : decode cL_acts 978 = .ok (.iconst 0, 1) := by decide +kernel
theorem dL_acts_979 : decode cL_acts 979 = .ok (.istore 12, 2) := by decide +kernel
theorem dL_acts_981 : decode cL_acts 981 = .ok (.iload 11, 2) := by decide +kernel
theorem dL_acts_983 : decode cL_acts 983 = .ok (.iload 12, 2) := by decide +kernel
theorem dL_acts_985 : decode cL_acts 985 = .ok (.ifCond .eq 7, 3) := by decide +kernel
theorem dL_acts_988 : decode cL_acts 988 = .ok (.iconst (-1), 1) := by decide +kernel
theorem dL_acts_989 : decode cL_acts 989 = .ok (.goto 5, 3) := by decide +kernel
theorem dL_acts_992 : decode cL_acts 992 = .ok (.iload 10, 2) := by decide +kernel
theorem dL_acts_994 : decode cL_acts 994 = .ok (.if_icmp .ne 7, 3) := by decide +kernel
theorem dL_acts_997 : decode cL_acts 997 = .ok (.iconst 1, 1) := by decide +kernel
theorem dL_acts_998 : decode cL_acts 998 = .ok (.goto 4, 3) := by decide +kernel
theorem dL_acts_1001 : decode cL_acts 1001 = .ok (.iconst 0, 1) := by decide +kernel
theorem dL_acts_1002 : decode cL_acts 1002 = .ok (.ireturn, 1) := by decide +kernel
theorem dL_acts_1003 : decode cL_acts 1003 = .ok (.aload_n 0, 1) := by decide +kernel
theorem dL_acts_1004 : decode cL_acts 1004 = .ok (.iload_n 2, 1) := by decide +kernel
theorem dL_acts_1005 : decode cL_acts 1005 = .ok (.invokestatic 82, 3) := by decide +kernel
theorem dL_acts_1008 : decode cL_acts 1008 = .ok (.ifCond .eq 14, 3) := by decide +kernel
theorem dL_acts_1011 : decode cL_acts 1011 = .ok (.aload_n 0, 1) := by decide +kernel
theorem dL_acts_1012 : decode cL_acts 1012 = .ok (.invokestatic 85, 3) := by decide +kernel
theorem dL_acts_1015 : decode cL_acts 1015 = .ok (.ifCond .eq 7, 3) := by decide +kernel
theorem dL_acts_1018 : decode cL_acts 1018 = .ok (.iconst 1, 1) := by decide +kernel
theorem dL_acts_1019 : decode cL_acts 1019 = .ok (.goto 4, 3) := by decide +kernel
theorem dL_acts_1022 : decode cL_acts 1022 = .ok (.iconst 0, 1) := by decide +kernel
theorem dL_acts_1023 : decode cL_acts 1023 = .ok (.ireturn, 1) := by decide +kernel
theorem dL_law_0 : decode cL_law 0 = .ok (.new 14, 3) := by decide +kernel
theorem dL_law_3 : decode cL_law 3 = .ok (.dup, 1) := by decide +kernel
theorem dL_law_4 : decode cL_law 4 = .ok (.invokespecial 89, 3) := by decide +kernel
theorem dL_law_7 : decode cL_law 7 = .ok (.astore_n 1, 1) := by decide +kernel
theorem dL_law_8 : decode cL_law 8 = .ok (.aload_n 1, 1) := by decide +kernel
theorem dL_law_9 : decode cL_law 9 = .ok (.invokestatic 90, 3) := by decide +kernel
theorem dL_law_12 : decode cL_law 12 = .ok (.ifCond .eq 16, 3) := by decide +kernel
theorem dL_law_15 : decode cL_law 15 = .ok (.aload_n 1, 1) := by decide +kernel
theorem dL_law_16 : decode cL_law 16 = .ok (.invokevirtual 93, 3) := by decide +kernel
theorem dL_law_19 : decode cL_law 19 = .ok (.bipush (-2), 2) := by decide +kernel
theorem dL_law_21 : decode cL_law 21 = .ok (.if_icmp .ne 7, 3) := by decide +kernel
theorem dL_law_24 : decode cL_law 24 = .ok (.iconst 1, 1) := by decide +kernel
theorem dL_law_25 : decode cL_law 25 = .ok (.goto 4, 3) := by decide +kernel
theorem dL_law_28 : decode cL_law 28 = .ok (.iconst 0, 1) := by decide +kernel
theorem dL_law_29 : decode cL_law 29 = .ok (.istore_n 2, 1) := by decide +kernel
theorem dL_law_30 : decode cL_law 30 = .ok (.iconst 0, 1) := by decide +kernel
theorem dL_law_31 : decode cL_law 31 = .ok (.istore_n 3, 1) := by decide +kernel
theorem dL_law_32 : decode cL_law 32 = .ok (.iload_n 3, 1) := by decide +kernel
theorem dL_law_33 : decode cL_law 33 = .ok (.bipush 34, 2) := by decide +kernel
theorem dL_law_35 : decode cL_law 35 = .ok (.if_icmp .ge 237, 3) := by decide +kernel
theorem dL_law_38 : decode cL_law 38 = .ok (.iload_n 2, 1) := by decide +kernel
theorem dL_law_39 : decode cL_law 39 = .ok (.ifCond .eq 233, 3) := by decide +kernel
theorem dL_law_42 : decode cL_law 42 = .ok (.aload_n 0, 1) := by decide +kernel
theorem dL_law_43 : decode cL_law 43 = .ok (.iconst 2, 1) := by decide +kernel
theorem dL_law_44 : decode cL_law 44 = .ok (.iload_n 3, 1) := by decide +kernel
theorem dL_law_45 : decode cL_law 45 = .ok (.imul, 1) := by decide +kernel
theorem dL_law_46 : decode cL_law 46 = .ok (.invokestatic 96, 3) := by decide +kernel
theorem dL_law_49 : decode cL_law 49 = .ok (.istore 4, 2) := by decide +kernel
theorem dL_law_51 : decode cL_law 51 = .ok (.aload_n 0, 1) := by decide +kernel
theorem dL_law_52 : decode cL_law 52 = .ok (.iconst 2, 1) := by decide +kernel
theorem dL_law_53 : decode cL_law 53 = .ok (.iload_n 3, 1) := by decide +kernel
theorem dL_law_54 : decode cL_law 54 = .ok (.imul, 1) := by decide +kernel
theorem dL_law_55 : decode cL_law 55 = .ok (.iconst 1, 1) := by decide +kernel
theorem dL_law_56 : decode cL_law 56 = .ok (.iadd, 1) := by decide +kernel
theorem dL_law_57 : decode cL_law 57 = .ok (.invokestatic 96, 3) := by decide +kernel
theorem dL_law_60 : decode cL_law 60 = .ok (.istore 5, 2) := by decide +kernel
theorem dL_law_62 : decode cL_law 62 = .ok (.aload_n 1, 1) := by decide +kernel
theorem dL_law_63 : decode cL_law 63 = .ok (.invokestatic 100, 3) := by decide +kernel
theorem dL_law_66 : decode cL_law 66 = .ok (.lstore 6, 2) := by decide +kernel
theorem dL_law_68 : decode cL_law 68 = .ok (.aload_n 1, 1) := by decide +kernel
theorem dL_law_69 : decode cL_law 69 = .ok (.bipush 16, 2) := by decide +kernel
theorem dL_law_71 : decode cL_law 71 = .ok (.invokevirtual 13, 3) := by decide +kernel
theorem dL_law_74 : decode cL_law 74 = .ok (.istore 8, 2) := by decide +kernel
theorem dL_law_76 : decode cL_law 76 = .ok (.aload_n 1, 1) := by decide +kernel
theorem dL_law_77 : decode cL_law 77 = .ok (.iload_n 3, 1) := by decide +kernel
theorem dL_law_78 : decode cL_law 78 = .ok (.iconst 2, 1) := by decide +kernel
theorem dL_law_79 : decode cL_law 79 = .ok (.if_icmp .ge 17, 3) := by decide +kernel
theorem dL_law_82 : decode cL_law 82 = .ok (.iload 4, 2) := by decide +kernel
theorem dL_law_84 : decode cL_law 84 = .ok (.bipush 18, 2) := by decide +kernel
theorem dL_law_86 : decode cL_law 86 = .ok (.idiv, 1) := by decide +kernel
theorem dL_law_87 : decode cL_law 87 = .ok (.bipush 18, 2) := by decide +kernel
theorem dL_law_89 : decode cL_law 89 = .ok (.imul, 1) := by decide +kernel
theorem dL_law_90 : decode cL_law 90 = .ok (.ldc 104, 2) := by decide +kernel
theorem dL_law_92 : decode cL_law 92 = .ok (.iand, 1) := by decide +kernel
theorem dL_law_93 : decode cL_law 93 = .ok (.goto 5, 3) := by decide +kernel
theorem dL_law_96 : decode cL_law 96 = .ok (.iload 4, 2) := by decide +kernel
theorem dL_law_98 : decode cL_law 98 = .ok (.iload 5, 2) := by decide +kernel
theorem dL_law_100 : decode cL_law 100 = .ok (.invokestatic 105, 3) := by decide +kernel
theorem dL_law_103 : decode cL_law 103 = .ok (.ifCond .eq 14, 3) := by decide +kernel
theorem dL_law_106 : decode cL_law 106 = .ok (.aload_n 1, 1) := by decide +kernel
theorem dL_law_107 : decode cL_law 107 = .ok (.invokestatic 90, 3) := by decide +kernel
theorem dL_law_110 : decode cL_law 110 = .ok (.ifCond .eq 7, 3) := by decide +kernel
theorem dL_law_113 : decode cL_law 113 = .ok (.iconst 1, 1) := by decide +kernel
theorem dL_law_114 : decode cL_law 114 = .ok (.goto 4, 3) := by decide +kernel
theorem dL_law_117 : decode cL_law 117 = .ok (.iconst 0, 1) := by decide +kernel
theorem dL_law_118 : decode cL_law 118 = .ok (.istore_n 2, 1) := by decide +kernel
theorem dL_law_119 : decode cL_law 119 = .ok (.aload_n 1, 1) := by decide +kernel
theorem dL_law_120 : decode cL_law 120 = .ok (.bipush 16, 2) := by decide +kernel
theorem dL_law_122 : decode cL_law 122 = .ok (.invokevirtual 13, 3) := by decide +kernel
theorem dL_law_125 : decode cL_law 125 = .ok (.istore 9, 2) := by decide +kernel
theorem dL_law_127 : decode cL_law 127 = .ok (.iload_n 2, 1) := by decide +kernel
theorem dL_law_128 : decode cL_law 128 = .ok (.ifCond .eq 39, 3) := by decide +kernel
theorem dL_law_131 : decode cL_law 131 = .ok (.iload 9, 2) := by decide +kernel
theorem dL_law_133 : decode cL_law 133 = .ok (.iload 8, 2) := by decide +kernel
theorem dL_law_135 : decode cL_law 135 = .ok (.if_icmp .ne 19, 3) := by decide +kernel
theorem dL_law_138 : decode cL_law 138 = .ok (.iload 8, 2) := by decide +kernel
theorem dL_law_140 : decode cL_law 140 = .ok (.iconst 4, 1) := by decide +kernel
theorem dL_law_141 : decode cL_law 141 = .ok (.if_icmp .eq 22, 3) := by decide +kernel
theorem dL_law_144 : decode cL_law 144 = .ok (.aload_n 1, 1) := by decide +kernel
theorem dL_law_145 : decode cL_law 145 = .ok (.invokestatic 100, 3) := by decide +kernel
theorem dL_law_148 : decode cL_law 148 = .ok (.lload 6, 2) := by decide +kernel
theorem dL_law_150 : decode cL_law 150 = .ok (.lcmp, 1) := by decide +kernel
theorem dL_law_151 : decode cL_law 151 = .ok (.ifCond .eq 12, 3) := by decide +kernel
theorem dL_law_154 : decode cL_law 154 = .ok (.iload 9, 2) := by decide +kernel
theorem dL_law_156 : decode cL_law 156 = .ok (.iload 8, 2) := by decide +kernel
theorem dL_law_158 : decode cL_law 158 = .ok (.iconst 1, 1) := by decide +kernel
theorem dL_law_159 : decode cL_law 159 = .ok (.iadd, 1) := by decide +kernel
theorem dL_law_160 : decode cL_law 160 = .ok (.if_icmp .ne 7, 3) := by decide +kernel
theorem dL_law_163 : decode cL_law 163 = .ok (.iconst 1, 1) := by decide +kernel
theorem dL_law_164 : decode cL_law 164 = .ok (.goto 4, 3) := by decide +kernel
theorem dL_law_167 : decode cL_law 167 = .ok (.iconst 0, 1) := by decide +kernel
theorem dL_law_168 : decode cL_law 168 = .ok (.istore_n 2, 1) := by decide +kernel
theorem dL_law_169 : decode cL_law 169 = .ok (.iload_n 2, 1) := by decide +kernel
theorem dL_law_170 : decode cL_law 170 = .ok (.ifCond .eq 49, 3) := by decide +kernel
theorem dL_law_173 : decode cL_law 173 = .ok (.iload 9, 2) := by decide +kernel
theorem dL_law_175 : decode cL_law 175 = .ok (.iload 8, 2) := by decide +kernel
theorem dL_law_177 : decode cL_law 177 = .ok (.iconst 1, 1) := by decide +kernel
theorem dL_law_178 : decode cL_law 178 = .ok (.iadd, 1) := by decide +kernel
theorem dL_law_179 : decode cL_law 179 = .ok (.if_icmp .ne 40, 3) := by decide +kernel
theorem dL_law_182 : decode cL_law 182 = .ok (.iload 5, 2) := by decide +kernel
theorem dL_law_184 : decode cL_law 184 = .ok (.bipush 8, 2) := by decide +kernel
theorem dL_law_186 : decode cL_law 186 = .ok (.ishr, 1) := by decide +kernel
theorem dL_law_187 : decode cL_law 187 = .ok (.iconst 3, 1) := by decide +kernel
theorem dL_law_188 : decode cL_law 188 = .ok (.invokestatic 38, 3) := by decide +kernel
theorem dL_law_191 : decode cL_law 191 = .ok (.ifCond .ne 28, 3) := by decide +kernel
theorem dL_law_194 : decode cL_law 194 = .ok (.aload_n 1, 1) := by decide +kernel
theorem dL_law_195 : decode cL_law 195 = .ok (.invokevirtual 93, 3) := by decide +kernel
theorem dL_law_198 : decode cL_law 198 = .ok (.iload 8, 2) := by decide +kernel
theorem dL_law_200 : decode cL_law 200 = .ok (.if_icmp .ne 17, 3) := by decide +kernel
theorem dL_law_203 : decode cL_law 203 = .ok (.aload_n 1, 1) := by decide +kernel
theorem dL_law_204 : decode cL_law 204 = .ok (.invokestatic 100, 3) := by decide +kernel
theorem dL_law_207 : decode cL_law 207 = .ok (.lload 6, 2) := by decide +kernel
theorem dL_law_209 : decode cL_law 209 = .ok (.lcmp, 1) := by decide +kernel
theorem dL_law_210 : decode cL_law 210 = .ok (.ifCond .ne 7, 3) := by decide +kernel
theorem dL_law_213 : decode cL_law 213 = .ok (.iconst 1, 1) := by decide +kernel
theorem dL_law_214 : decode cL_law 214 = .ok (.goto 4, 3) := by decide +kernel
theorem dL_law_217 : decode cL_law 217 = .ok (.iconst 0, 1) := by decide +kernel
theorem dL_law_218 : decode cL_law 218 = .ok (.istore_n 2, 1) := by decide +kernel
theorem dL_law_219 : decode cL_law 219 = .ok (.iload_n 2, 1) := by decide +kernel
theorem dL_law_220 : decode cL_law 220 = .ok (.ifCond .eq 46, 3) := by decide +kernel
theorem dL_law_223 : decode cL_law 223 = .ok (.iload_n 3, 1) := by decide +kernel
theorem dL_law_224 : decode cL_law 224 = .ok (.bipush 6, 2) := by decide +kernel
theorem dL_law_226 : decode cL_law 226 = .ok (.irem, 1) := by decide +kernel
theorem dL_law_227 : decode cL_law 227 = .ok (.iconst 5, 1) := by decide +kernel
theorem dL_law_228 : decode cL_law 228 = .ok (.if_icmp .ne 38, 3) := by decide +kernel
theorem dL_law_231 : decode cL_law 231 = .ok (.aload_n 1, 1) := by decide +kernel
theorem dL_law_232 : decode cL_law 232 = .ok (.bipush 16, 2) := by decide +kernel
theorem dL_law_234 : decode cL_law 234 = .ok (.invokevirtual 13, 3) := by decide +kernel
theorem dL_law_237 : decode cL_law 237 = .ok (.istore 10, 2) := by decide +kernel
theorem dL_law_239 : decode cL_law 239 = .ok (.aload_n 1, 1) := by decide +kernel
theorem dL_law_240 : decode cL_law 240 = .ok (.invokevirtual 93, 3) := by decide +kernel
theorem dL_law_243 : decode cL_law 243 = .ok (.iload 10, 2) := by decide +kernel
theorem dL_law_245 : decode cL_law 245 = .ok (.ifCond .ne 8, 3) := by decide +kernel
theorem dL_law_248 : decode cL_law 248 = .ok (.bipush (-2), 2) := by decide +kernel
theorem dL_law_250 : decode cL_law 250 = .ok (.goto 7, 3) := by decide +kernel
theorem dL_law_253 : decode cL_law 253 = .ok (.iload 10, 2) := by decide +kernel
theorem dL_law_255 : decode cL_law 255 = .ok (.iconst 1, 1) := by decide +kernel
theorem dL_law_256 : decode cL_law 256 = .ok (.isub, 1) := by decide +kernel
theorem dL_law_257 : decode cL_law 257 = .ok (.if_icmp .ne 7, 3) := by decide +kernel
theorem dL_law_260 : decode cL_law 260 = .ok (.iconst 1, 1) := by decide +kernel
theorem dL_law_261 : decode cL_law 261 = .ok (.goto 4, 3) := by decide +kernel
theorem dL_law_264 : decode cL_law 264 = .ok (.iconst 0, 1) := by decide +kernel
theorem dL_law_265 : decode cL_law 265 = .ok (.istore_n 2, 1) := by decide +kernel
theorem dL_law_266 : decode cL_law 266 = .ok (.iinc 3 1, 3) := by decide +kernel
theorem dL_law_269 : decode cL_law 269 = .ok (.goto (-237), 3) := by decide +kernel
theorem dL_law_272 : decode cL_law 272 = .ok (.iload_n 2, 1) := by decide +kernel
theorem dL_law_273 : decode cL_law 273 = .ok (.ireturn, 1) := by decide +kernel
end
section
/-! THE ABSTRACT MACHINE: values are whole numbers or numbers of objects; a heap is two functions; AW is W over it -/
abbrev AV : Type := Int ⊕ (Option Nat ⊕ Int64)
abbrev aI (z : Int) : AV := .inl z
abbrev aR (a : Nat) : AV := .inr (.inl (some a))
abbrev aN : AV := .inr (.inl none)
abbrev aL (x : Int64) : AV := .inr (.inr x)
abbrev aO (x : Option Nat) : AV := .inr (.inl x)
/-- one word -/
def isW (v : AV) : Bool := match v with
  | .inl _ => true
  | .inr (.inl _) => true
  | .inr (.inr _) => false
abbrev HI : Type := Nat → Nat → Int
abbrev HR : Type := Nat → Nat → Option Nat
/-- H0, launch, addresses of the six arrays that were there before, what they hold, their lengths, class ids, slots, int[], State[] -/
abbrev ET : Type := Heap × Launch × (Nat → Nat) × (Nat → Nat → Int) × (Nat → Nat) × (Nat → ClassId) × (Nat → Nat → Nat) × ClassId × ClassId
abbrev eH (E : ET) : Heap := E.1
abbrev eL (E : ET) : Launch := E.2.1
abbrev eSa (E : ET) : Nat → Nat := E.2.2.1
abbrev eX (E : ET) : Nat → Nat → Int := E.2.2.2.1
abbrev eN (E : ET) : Nat → Nat := E.2.2.2.2.1
abbrev eC (E : ET) : Nat → ClassId := E.2.2.2.2.2.1
abbrev eI (E : ET) : Nat → Nat → Nat := E.2.2.2.2.2.2.1
abbrev eA (E : ET) : ClassId := E.2.2.2.2.2.2.2.1
abbrev eS (E : ET) : ClassId := E.2.2.2.2.2.2.2.2
abbrev eB (E : ET) : Nat := (eH E).size
/-- a method: name, code, locals, answer, frames, words of locals, new cells, new slots -/
abbrev MT : Type := MethodName × ByteArray × Nat × Option FieldType × Nat × Nat × Nat × Nat
abbrev mY (M : MT) : MethodName := M.1
abbrev mC (M : MT) : ByteArray := M.2.1
abbrev mL (M : MT) : Nat := M.2.2.1
abbrev mT (M : MT) : Option FieldType := M.2.2.2.1
abbrev mF (M : MT) : Nat := M.2.2.2.2.1
abbrev mO (M : MT) : Nat := M.2.2.2.2.2.1
abbrev mMc (M : MT) : Nat := M.2.2.2.2.2.2.1
abbrev mMs (M : MT) : Nat := M.2.2.2.2.2.2.2
abbrev mR (M : MT) : Room := { frames := mF M, cells := mMc M, slots := mMs M, locals := mO M }
def ad (E : ET) (a : Nat) : Nat := if a < 1000 then eB E + a else eSa E (a - 1000)
def cv (E : ET) (v : AV) : Value := match v with
  | .inl z => .int (Int32.ofInt z)
  | .inr (.inl none) => .null
  | .inr (.inl (some a)) => .ref (ad E a)
  | .inr (.inr x) => .long x
theorem cv_i (E : ET) (z : Int) : cv E (aI z) = .int (Int32.ofInt z) := rfl
theorem cv_r (E : ET) (a : Nat) : cv E (aR a) = .ref (ad E a) := rfl
/-- which fields hold references -/
def frf (c j : Nat) : Bool := (c == 0 && j < 4) || (c == 1 && j == 0) || (c == 2 && j < 4) || (c == 4 && j < 8) || (c == 6 && j == 0) || (c == 8 && j < 5)
def shSt : List (Nat × Nat) := [(4, 11), (0, 4), (10, 48), (10, 48), (10, 48), (10, 48), (2, 5), (10, 8), (10, 8), (10, 8), (10, 8), (7, 8), (5, 7), (10, 4), (10, 8), (10, 2), (10, 12)]
/-- the objects in the order of their making: kind (a class, 10 int[], 11 State[]), length -/
def shL : List (Nat × Nat) := (8, 5) :: (shSt ++ (shSt ++ ((1, 2) :: (11, 5) :: (shSt ++ (shSt ++ (shSt ++ (shSt ++ (shSt ++ [(6, 6), (10, 60), (3, 5)]))))))))
def sh (a : Nat) : Nat × Nat := shL.getD a (12, 0)
theorem shL_len : shL.length = 125 := by decide +kernel
def fv (E : ET) (c : Nat) (hi : HI) (hr : HR) (k j : Nat) : Value := if frf c j then cv E (aO (hr k j)) else cv E (.inl (hi k j))
def cellOK (E : ET) (hi : HI) (hr : HR) (k : Nat) (H : Heap) : Prop :=
  ((sh k).1 < 10 → t_OB (eB E + k) (eC E (sh k).1) (sh k).2 (eI E (sh k).1) H (fun j => fv E (sh k).1 hi hr k j)) ∧
  ((sh k).1 = 10 → H[eB E + k]? = some (arrV (eA E) (sh k).2 (fun j => cv E (.inl (hi k j))))) ∧
  ((sh k).1 = 11 → H[eB E + k]? = some (arrV (eS E) (sh k).2 (fun j => cv E (aO (hr k j)))))
def CC (E : ET) (hi : HI) (hr : HR) (n : Nat) (H : Heap) : Prop :=
  H.size = eB E + n ∧ n ≤ 125 ∧ (∀ q : Nat, q < eB E → H[q]? = (eH E)[q]?) ∧ (∀ k : Nat, k < n → cellOK E hi hr k H) ∧ (∀ i : Nat, i < 6 → ∀ j : Nat, hi (1000 + i) j = eX E i j) ∧ (∀ k : Nat, n ≤ k → k < 1000 → ∀ j : Nat, hi k j = 0 ∧ hr k j = none)
/-- the tables' words that a call carries on -/
def okW : Cond → Bool
  | .fieldLinkNest .. => true
  | .methodLinkNest .. => true
  | .arrayClass .. => true
  | w => w.onTables && w.keeps
def stn (i : Nat) : String := match i with
  | 0 => "SETTING_FIRST"
  | 1 => "WORDLINE"
  | 2 => "LATE"
  | 3 => "SETTING_LEAST"
  | _ => "SETTING_MOST"
def KE (E : ET) (U : State) : Prop :=
  (∀ w ∈ lw_tbl, okW w = true → ∀ a : Array Value, w.before a U = true) ∧ (∀ (c : Nat) (q : vw_C), vwCl[c]? = some q → u_Kn U q.1 q.2.1 q.2.2 (eC E c) (eI E c)) ∧
  (ArrOfT U (eA E) .int ∧ va_RA U (eA E) .int) ∧ (ArrOfT U (eS E) (.object "PagePairs$State") ∧ va_RA U (eS E) (.object "PagePairs$State")) ∧
  (∀ i : Nat, i < 6 → va_T .int (eSa E i) (eN E i) (fun j => .int (Int32.ofInt (eX E i j))) (fun q => eB E ≤ q) U (eH E) ∧ eSa E i < eB E) ∧
  (∀ i : Nat, i < 5 → va_Z "PagePairs" (stn i) "[I" (.ref (eSa E i)) (fun q => eB E ≤ q) U (eH E)) ∧ va_AO "PagePairs$State" U
theorem okW_warm {w : Cond} (h : okW w = true) {s U : State} (hW : s.WarmedH U.vm) (hs : ∀ a : Array Value, w.before a s = true) : ∀ a : Array Value, w.before a U = true := by
  intro a
  by_cases h1 : (w.onTables && w.keeps) = true
  · exact word_at hW (Or.inl h1) (hs a)
  · cases w <;> first
      | exact word_at hW (Or.inr ⟨_, rfl⟩) (hs a)
      | exact va_Nw.use rfl (va_Nw.warmF hW (hs #[]))
      | exact va_Nw.use rfl (va_Nw.warmM hW (hs #[]))
      | exact absurd h h1
theorem okW_same {w : Cond} (h : okW w = true) {s U : State} (hv : s.vm = U.vm) (hs : ∀ a : Array Value, w.before a s = true) : ∀ a : Array Value, w.before a U = true :=
  okW_warm h (by rw [← hv]; exact State.WarmedH.refl s) hs
theorem KE.warm {E : ET} {s U : State} (hW : s.WarmedH U.vm) (h : KE E s) : KE E U := by
  obtain ⟨h1, h2, h3, h4, h5, h6, h7⟩ := h
  refine ⟨fun w hw hk => okW_warm hk hW (h1 w hw hk), fun c q hq => u_Kn_moved hW.alike (h2 c q hq), ⟨arrOfT_moved hW.alike h3.1, h3.2.moved hW.alike⟩, ⟨arrOfT_moved hW.alike h4.1, h4.2.moved hW.alike⟩, fun i hi => ⟨(h5 i hi).1.moved hW.alike, (h5 i hi).2⟩, fun i hi => (h6 i hi).moved hW.alike, va_AO.moved hW.alike h7⟩
theorem KE.same {E : ET} {s U : State} (hv : s.vm = U.vm) (h : KE E s) : KE E U := h.warm (by rw [← hv]; exact State.WarmedH.refl s)
theorem KE.w {E : ET} {s : State} (h : KE E s) {w : Cond} (hw : w ∈ lw_tbl) (hk : okW w = true) (a : Array Value) : w.before a s = true := h.1 w hw hk a
theorem mem_tb {w : Cond} (h : w ∈ tables_1) : w ∈ lw_tbl := List.mem_append_right _ h
theorem mem_sel {w : Cond} (h : w ∈ k2_sels lw_privs) : w ∈ lw_tbl := List.mem_append_left _ h
/-- the locals: what is said of each -/
def LR (E : ET) (nL : Nat) (ls : List (Option AV)) (lsA : Array Slot) : Prop := lsA.size = nL ∧ ls.length = nL ∧ lv_wf lsA ∧ ∀ (i : Nat) (v : AV), ls[i]? = some (some v) → lsA[i]? = some (.val (cv E v))
def QA (E : ET) (Q : Option AV → HI → HR → Nat → Prop) : Array Value → State → Outcome → State → Prop := fun _ _ o t => ∃ (r : Option AV) (hi : HI) (hr : HR) (n : Nat), o = .returned (r.map (cv E)) ∧ Q r hi hr n ∧ CC E hi hr n t.heap
def fr (E : ET) : Nat → Prop := fun q => eB E ≤ q
def Cx (E : ET) (M : MT) (p : Program) (s : State) (m : MethodId) (meth : Method) (c : Code) : Prop :=
  p.tables.exec = Jvm.exec ∧ c.code = mC M ∧ c.maxLocals = mL M ∧ meth.sig.returnType = mT M ∧ meth.locks = false ∧ s.vm.findClass (mY M).cls = some m.cls ∧ meth.name = (mY M).name ∧ KE E s
abbrev QT : Type := Option AV → HI → HR → Nat → Prop
/-- THE JUDGEMENT: method M at pc, with these locals, this stack, this heap, comes to an end with Q -/
def AW (E : ET) (M : MT) (cu su pc : Nat) (ls : List (Option AV)) (st : List AV) (hi : HI) (hr : HR) (n : Nat) (Q : QT) : Prop :=
  ∀ (p : Program) (e : Env) (s : State) (m : MethodId) (args : Array Value) (below : List Frame) (meth : Method) (c : Code) (H : Heap) (locs : List Loc) (lsA : Array Slot),
    Cx E M p s m meth c → CC E hi hr n H → (∀ q ∈ locs, fr E q.base) → LR E (mL M) ls lsA →
    W p (eL E) e (mR M) s m args below meth c H locs cu su (MQ below (QA E Q) args s (mMc M) (mMs M) (fr E)) (F0 m pc lsA (st.map (cv E)))
/-- a method's contract -/
def AMet (E : ET) (M : MT) (as : List AV) (hi : HI) (hr : HR) (n : Nat) (Q : QT) : Prop :=
  Met (eL E) (mY M) [Cond.code (mY M) (mC M) (mL M) (mT M)] (mR M) (fun v U => v = (as.map (cv E)).toArray ∧ CC E hi hr n U.heap ∧ KE E U) (QA E Q) (mMc M) (mMs M) (fr E)
/-- the locals at the entry -/
def ent (as : List AV) (nL : Nat) : List (Option AV) := as.map some ++ List.replicate (nL - as.length) none
theorem lv_args_get (vs : List Value) (hc : ∀ v ∈ vs, v.category = 1) : ∀ (k i : Nat) (v : Value), vs[i]? = some v → (k + i, v) ∈ lv_args k vs := by
  induction vs with
  | nil => intro k i v h; simp at h
  | cons a t ih =>
    intro k i v h
    have ha : ¬ a.category = 2 := by have := hc a List.mem_cons_self; omega
    cases i with
    | zero => simp at h; subst h; simp [lv_args]
    | succ i =>
      have := ih (fun v hv => hc v (List.mem_cons_of_mem _ hv)) (k + 1) i v (by simpa using h)
      simp only [lv_args, ha, if_false]
      refine List.mem_cons_of_mem _ ?_
      rw [show k + (i + 1) = k + 1 + i by omega]
      exact this
theorem cv_cat (E : ET) (v : AV) (h : isW v = true) : (cv E v).category = 1 := by
  rcases v with z | (_ | a) | x <;> first | rfl | (cases h)
theorem cv_cat2 (E : ET) (v : AV) : (cv E v).category ≤ 2 := by
  rcases v with z | (_ | a) | x
  · exact (by decide : (1 : Nat) ≤ 2)
  · exact (by decide : (1 : Nat) ≤ 2)
  · exact (by decide : (1 : Nat) ≤ 2)
  · exact Nat.le_refl 2
theorem lg_sl_len (E : ET) (as : List AV) (h : as.all isW = true) : (lg_sl (as.map (cv E))).length = as.length := by
  induction as with
  | nil => rfl
  | cons a t ih =>
    rw [List.all_cons, Bool.and_eq_true] at h
    rw [List.map_cons, List.length_cons, ← ih h.2]
    rcases a with z | (_ | a) | x
    · simp [lg_sl, cv, Value.category]
    · simp [lg_sl, cv, Value.category]
    · simp [lg_sl, cv, Value.category]
    · cases h.1
theorem am_of {E : ET} {M : MT} {as : List AV} {hi : HI} {hr : HR} {n : Nat} {Q : QT} (hy : plainName (mY M).cls = true) (hlen : as.length ≤ mL M)
    (k : AW E M 0 0 0 (ent as (mL M)) [] hi hr n Q) (hw : as.all isW = true := by rfl) : AMet E M as hi hr n Q := by
  refine Met.ofW (cc := mC M) (maxL := mL M) (ret := mT M) hy rfl ?_
  intro p e s m args below meth c s₁ B hml hv
  obtain ⟨rfl, hC, hK⟩ := hv
  have hown : s.vm.findClass (mY M).cls = some m.cls := findClass_of_methodNamed B.named
  have hn := (name_of_methodNamed B.named B.method).1
  have hl := lv_entry (as.map (cv E)) (n := mL M) (by rw [lg_sl_len E as hw]; exact hlen)
  rw [lg_entry_eq]
  refine k p e s m _ below meth c s.heap [] _ ⟨B.exec, B.bytes, hml, B.returns, B.notSynchronized, hown, hn, hK⟩ hC (fun q h => by cases h) ⟨hl.1, by simp [ent]; omega, hl.2.1, fun i v h => ?_⟩
  have h0 : i < as.length := by
    by_cases hlt : i < as.length
    · exact hlt
    · exfalso
      unfold ent at h
      rw [List.getElem?_append_right (by simp; omega)] at h
      have := List.getElem?_eq_some_iff.mp h
      obtain ⟨h1, h2⟩ := this
      rw [List.getElem_replicate] at h2
      cases h2
  have h1 : as[i]? = some v := by
    unfold ent at h
    rw [List.getElem?_append_left (by simpa using h0), List.getElem?_map] at h
    cases hh : as[i]? with
    | none => rw [hh] at h; cases h
    | some w => rw [hh] at h; simpa using h
  have h2 : (as.map (cv E))[i]? = some (cv E v) := by rw [List.getElem?_map, h1]; rfl
  have h3 := lv_args_get (as.map (cv E)) (fun v hv => by obtain ⟨w, hm, rfl⟩ := List.mem_map.mp hv; exact cv_cat E w (List.all_eq_true.mp hw w hm)) 0 i _ h2
  have h4 := hl.2.2 _ h3
  simpa using h4
end
section
def InR (x : Int) : Prop := -2147483648 ≤ x ∧ x < 2147483648
theorem oi_toInt {x : Int} (h : InR x) : (Int32.ofInt x).toInt = x := by
  exact Int32.toInt_ofInt_of_le (by have := h.1; omega) (by have := h.2; omega)
theorem oi_eq {x y : Int} (hx : InR x) (hy : InR y) : Int32.ofInt x = Int32.ofInt y ↔ x = y :=
  ⟨fun h => by have := congrArg Int32.toInt h; rwa [oi_toInt hx, oi_toInt hy] at this, fun h => by rw [h]⟩
theorem oi_lt {x y : Int} (hx : InR x) (hy : InR y) : Int32.ofInt x < Int32.ofInt y ↔ x < y := by
  rw [Int32.lt_iff_toInt_lt, oi_toInt hx, oi_toInt hy]
theorem oi_le {x y : Int} (hx : InR x) (hy : InR y) : Int32.ofInt x ≤ Int32.ofInt y ↔ x ≤ y := by
  rw [Int32.le_iff_toInt_le, oi_toInt hx, oi_toInt hy]
theorem InR_0 : InR 0 := ⟨by decide, by decide⟩
theorem oi_add (x y : Int) : Int32.ofInt x + Int32.ofInt y = Int32.ofInt (x + y) := (Int32.ofInt_add x y).symm
theorem oi_sub (x y : Int) : Int32.ofInt x - Int32.ofInt y = Int32.ofInt (x - y) := (Int32.ofInt_sub x y).symm
theorem oi_mul (x y : Int) : Int32.ofInt x * Int32.ofInt y = Int32.ofInt (x * y) := (Int32.ofInt_mul x y).symm
theorem oi_nI (n : Nat) : Int32.ofInt (n : Int) = nI n := by
  unfold nI
  first | rfl | exact Int32.ofInt_natCast n | simp
theorem oi_div {x y : Int} (h0 : 0 ≤ x) (hx : InR x) (h1 : 0 < y) (hy : InR y) : Int32.ofInt x / Int32.ofInt y = Int32.ofInt (x / y) := by
  obtain ⟨a, rfl⟩ := Int.eq_ofNat_of_zero_le h0
  obtain ⟨b, rfl⟩ := Int.eq_ofNat_of_zero_le (Int.le_of_lt h1)
  have e : ((a : Int) / (b : Int)) = ((a / b : Nat) : Int) := rfl
  rw [e, oi_nI, oi_nI, oi_nI]
  exact pk_div (by have := hx.2; omega) (by omega) (by have := hy.2; omega)
theorem oi_rem {x y : Int} (h0 : 0 ≤ x) (hx : InR x) (h1 : 0 < y) (hy : InR y) : Int32.ofInt x - Int32.ofInt x / Int32.ofInt y * Int32.ofInt y = Int32.ofInt (x % y) := by
  obtain ⟨a, rfl⟩ := Int.eq_ofNat_of_zero_le h0
  obtain ⟨b, rfl⟩ := Int.eq_ofNat_of_zero_le (Int.le_of_lt h1)
  have e : ((a : Int) % (b : Int)) = ((a % b : Nat) : Int) := rfl
  rw [e, oi_nI, oi_nI, oi_nI]
  exact pk_rem (by have := hx.2; omega) (by omega) (by have := hy.2; omega)
theorem oi_ne0 {y : Int} (h1 : 0 < y) (hy : InR y) : ¬ Int32.ofInt y = 0 := by
  rw [show (0 : Int32) = Int32.ofInt 0 from rfl, oi_eq hy InR_0]; omega
theorem nI_bv (a : Nat) : (nI a).toBitVec = BitVec.ofNat 32 a := by
  unfold nI
  first | rfl | simp
theorem nI_land (a b : Nat) : nI a &&& nI b = nI (a &&& b) := by
  apply Int32.toBitVec_inj.mp
  rw [Int32.toBitVec_and, nI_bv, nI_bv, nI_bv]
  apply BitVec.eq_of_toNat_eq
  simp [BitVec.toNat_and, Nat.and_mod_two_pow]
theorem nI_lor (a b : Nat) : nI a ||| nI b = nI (a ||| b) := by
  apply Int32.toBitVec_inj.mp
  rw [Int32.toBitVec_or, nI_bv, nI_bv, nI_bv]
  apply BitVec.eq_of_toNat_eq
  simp [BitVec.toNat_or, Nat.or_mod_two_pow]
/-- the locals as a list of pairs -/
def prs (E : ET) (ls : List (Option AV)) : List (Nat × Value) := (List.range ls.length).filterMap (fun i => match ls[i]? with | some (some v) => some (i, cv E v) | _ => none)
theorem prs_mem {E : ET} {ls : List (Option AV)} {q : Nat × Value} : q ∈ prs E ls ↔ ∃ v, ls[q.1]? = some (some v) ∧ q.2 = cv E v := by
  unfold prs
  rw [List.mem_filterMap]
  constructor
  · rintro ⟨i, hi, h⟩
    cases hl : ls[i]? with
    | none => rw [hl] at h; cases h
    | some w =>
      cases w with
      | none => rw [hl] at h; cases h
      | some v =>
        rw [hl] at h
        cases h
        exact ⟨v, hl, rfl⟩
  · rintro ⟨v, hv, h⟩
    refine ⟨q.1, List.mem_range.mpr (List.getElem?_eq_some_iff.mp hv).1, ?_⟩
    rw [hv]
    simp [← h]
theorem lr_has {E : ET} {nL : Nat} {ls : List (Option AV)} {lsA : Array Slot} (h : LR E nL ls lsA) : lv_has lsA nL (prs E ls) := by
  refine ⟨h.1, h.2.2.1, fun q hq => ?_⟩
  obtain ⟨v, h1, h2⟩ := prs_mem.mp hq
  rw [h2]
  exact h.2.2.2 _ _ h1
/-- no long's second word at i -/
def oneW (ls : List (Option AV)) (i : Nat) : Bool := match i with
  | 0 => true
  | j + 1 => match ls[j]? with
    | some (some v) => isW v
    | _ => true
theorem lr_set {E : ET} {nL i : Nat} {ls : List (Option AV)} {lsA ls2 : Array Slot} {v : AV} (hz : oneW ls i = true) (h : LR E nL ls lsA) (hi : i < nL) (h2 : lv_has ls2 nL ((i, cv E v) :: (prs E ls).filter (fun q => !(q.1 == i) && !(q.1 + 1 == i && q.2.category == 2)))) : LR E nL (ls.set i (some v)) ls2 := by
  refine ⟨h2.1, by rw [List.length_set]; exact h.2.1, h2.2.1, fun j w hj => ?_⟩
  by_cases e : j = i
  · subst e
    rw [List.getElem?_set_self (by rw [h.2.1]; exact hi)] at hj
    cases hj
    exact h2.2.2 (j, cv E v) List.mem_cons_self
  · rw [List.getElem?_set_ne (fun q => e q.symm)] at hj
    refine h2.2.2 (j, cv E w) (List.mem_cons_of_mem _ (List.mem_filter.mpr ⟨prs_mem.mpr ⟨w, hj, rfl⟩, ?_⟩))
    by_cases e2 : j + 1 = i
    · subst e2
      have : isW w = true := by
        have hz : (match ls[j]? with | some (some v) => isW v | _ => true) = true := hz
        rw [hj] at hz
        exact hz
      simp [cv_cat E w this]
    · simp [e, e2]
/-- a long takes two words -/
theorem lr_set2 {E : ET} {nL i : Nat} {ls : List (Option AV)} {lsA ls2 : Array Slot} {x : Int64} (hz : oneW ls i = true) (h : LR E nL ls lsA) (hi : i + 1 < nL) (h2 : lv_has ls2 nL ((i, Value.long x) :: (prs E ls).filter (fun q => !(q.1 == i) && (!(q.1 == i + 1) && !(q.1 + 1 == i && q.2.category == 2))))) : LR E nL ((ls.set i (some (aL x))).set (i + 1) none) ls2 := by
  refine ⟨h2.1, by rw [List.length_set, List.length_set]; exact h.2.1, h2.2.1, fun j w hj => ?_⟩
  by_cases e1 : j = i + 1
  · subst e1
    rw [List.getElem?_set_self (by rw [List.length_set, h.2.1]; exact hi)] at hj
    cases hj
  · rw [List.getElem?_set_ne (fun q => e1 q.symm)] at hj
    by_cases e : j = i
    · subst e
      rw [List.getElem?_set_self (by rw [h.2.1]; omega)] at hj
      cases hj
      exact h2.2.2 (j, Value.long x) List.mem_cons_self
    · rw [List.getElem?_set_ne (fun q => e q.symm)] at hj
      refine h2.2.2 (j, cv E w) (List.mem_cons_of_mem _ (List.mem_filter.mpr ⟨prs_mem.mpr ⟨w, hj, rfl⟩, ?_⟩))
      by_cases e2 : j + 1 = i
      · subst e2
        have : isW w = true := by
          have hz : (match ls[j]? with | some (some v) => isW v | _ => true) = true := hz
          rw [hj] at hz
          exact hz
        simp [cv_cat E w this]
        omega
      · simp [e, e1, e2]
/-- fewer locals -/
theorem lr_fewer {E : ET} {nL : Nat} {ls ls' : List (Option AV)} {lsA : Array Slot} (h : LR E nL ls lsA) (hl : ls'.length = ls.length) (hs : ∀ (i : Nat) (v : AV), ls'[i]? = some (some v) → ls[i]? = some (some v)) : LR E nL ls' lsA :=
  ⟨h.1, hl.trans h.2.1, h.2.2.1, fun i v hi => h.2.2.2 i v (hs i v hi)⟩
section AROWS
variable {E : ET} {M : MT} {cu su pc : Nat} {ls : List (Option AV)} {st : List AV} {hi : HI} {hr : HR} {n : Nat} {Q : QT}
theorem aw_iconst {v : Int} (hd : decode (mC M) pc = .ok (.iconst v, 1)) (k : AW E M cu su (pc + 1) ls (aI v :: st) hi hr n Q) : AW E M cu su pc ls (st) hi hr n Q := by
  intro p e s m args below meth c H locs lsA C hC hL hR
  exact lv_iconst C.1 C.2.1 hd rfl (k p e s m args below meth c H locs lsA C hC hL hR)
theorem aw_bipush {v : Int} (hd : decode (mC M) pc = .ok (.bipush v, 2)) (hv : (Int8.ofInt v).toInt32 = Int32.ofInt v) (k : AW E M cu su (pc + 2) ls (aI v :: st) hi hr n Q) : AW E M cu su pc ls (st) hi hr n Q := by
  intro p e s m args below meth c H locs lsA C hC hL hR
  exact lv_bipush C.1 C.2.1 hd hv (k p e s m args below meth c H locs lsA C hC hL hR)
theorem aw_sipush {v : Int} (hd : decode (mC M) pc = .ok (.sipush v, 3)) (hv : (Int16.ofInt v).toInt32 = Int32.ofInt v) (k : AW E M cu su (pc + 3) ls (aI v :: st) hi hr n Q) : AW E M cu su pc ls (st) hi hr n Q := by
  intro p e s m args below meth c H locs lsA C hC hL hR
  exact lv_sipush C.1 C.2.1 hd hv (k p e s m args below meth c H locs lsA C hC hL hR)
theorem aw_null (hd : decode (mC M) pc = .ok (.aconst_null, 1)) (k : AW E M cu su (pc + 1) ls (aN :: st) hi hr n Q) : AW E M cu su pc ls (st) hi hr n Q := by
  intro p e s m args below meth c H locs lsA C hC hL hR
  exact lv_null C.1 C.2.1 hd (k p e s m args below meth c H locs lsA C hC hL hR)
theorem aw_iload_n {i : Fin 4} {x : Int} (hd : decode (mC M) pc = .ok (.iload_n i, 1)) (hl : ls[(i : Nat)]? = some (some (aI x))) (k : AW E M cu su (pc + 1) ls (aI x :: st) hi hr n Q) : AW E M cu su pc ls (st) hi hr n Q := by
  intro p e s m args below meth c H locs lsA C hC hL hR
  exact lv_iload_n C.1 C.2.1 hd rfl (hR.2.2.2 _ _ hl) (k p e s m args below meth c H locs lsA C hC hL hR)
theorem aw_iload {i : Nat} {x : Int} (hd : decode (mC M) pc = .ok (.iload i, 2)) (hl : ls[i]? = some (some (aI x))) (k : AW E M cu su (pc + 2) ls (aI x :: st) hi hr n Q) : AW E M cu su pc ls (st) hi hr n Q := by
  intro p e s m args below meth c H locs lsA C hC hL hR
  exact lv_iload C.1 C.2.1 hd (hR.2.2.2 _ _ hl) (k p e s m args below meth c H locs lsA C hC hL hR)
theorem aw_istore_n {i : Fin 4} {x : Int} {ls2 : List (Option AV)} (hd : decode (mC M) pc = .ok (.istore_n i, 1)) (hi2 : (i : Nat) < mL M) (hs : ls.set (i : Nat) (some (aI x)) = ls2) (k : AW E M cu su (pc + 1) ls2 (st) hi hr n Q) (hz : oneW ls (i : Nat) = true := by rfl) : AW E M cu su pc ls (aI x :: st) hi hr n Q := by
  intro p e s m args below meth c H locs lsA C hC hL hR
  exact lv_istore_n C.1 C.2.1 hd rfl (lr_has hR) hi2 rfl (fun ls2 h2 => k p e s m args below meth c H locs ls2 C hC hL (hs ▸ lr_set hz hR hi2 h2))
theorem aw_istore {i : Nat} {x : Int} {ls2 : List (Option AV)} (hd : decode (mC M) pc = .ok (.istore i, 2)) (hi2 : i < mL M) (hs : ls.set i (some (aI x)) = ls2) (k : AW E M cu su (pc + 2) ls2 (st) hi hr n Q) (hz : oneW ls i = true := by rfl) : AW E M cu su pc ls (aI x :: st) hi hr n Q := by
  intro p e s m args below meth c H locs lsA C hC hL hR
  exact lv_istore C.1 C.2.1 hd (lr_has hR) hi2 rfl (fun ls2 h2 => k p e s m args below meth c H locs ls2 C hC hL (hs ▸ lr_set hz hR hi2 h2))
theorem aw_aload_n {i : Fin 4} {x : Nat} (hd : decode (mC M) pc = .ok (.aload_n i, 1)) (hl : ls[(i : Nat)]? = some (some (aR x))) (k : AW E M cu su (pc + 1) ls (aR x :: st) hi hr n Q) : AW E M cu su pc ls (st) hi hr n Q := by
  intro p e s m args below meth c H locs lsA C hC hL hR
  exact lv_aload_n C.1 C.2.1 hd rfl (hR.2.2.2 _ _ hl) (k p e s m args below meth c H locs lsA C hC hL hR)
theorem aw_aload {i : Nat} {x : Nat} (hd : decode (mC M) pc = .ok (.aload i, 2)) (hl : ls[i]? = some (some (aR x))) (k : AW E M cu su (pc + 2) ls (aR x :: st) hi hr n Q) : AW E M cu su pc ls (st) hi hr n Q := by
  intro p e s m args below meth c H locs lsA C hC hL hR
  exact lv_aload C.1 C.2.1 hd (hR.2.2.2 _ _ hl) (k p e s m args below meth c H locs lsA C hC hL hR)
theorem aw_astore_n {i : Fin 4} {x : Nat} {ls2 : List (Option AV)} (hd : decode (mC M) pc = .ok (.astore_n i, 1)) (hi2 : (i : Nat) < mL M) (hs : ls.set (i : Nat) (some (aR x)) = ls2) (k : AW E M cu su (pc + 1) ls2 (st) hi hr n Q) (hz : oneW ls (i : Nat) = true := by rfl) : AW E M cu su pc ls (aR x :: st) hi hr n Q := by
  intro p e s m args below meth c H locs lsA C hC hL hR
  exact lv_astore_n C.1 C.2.1 hd rfl (lr_has hR) hi2 rfl (fun ls2 h2 => k p e s m args below meth c H locs ls2 C hC hL (hs ▸ lr_set hz hR hi2 h2))
theorem aw_astore {i : Nat} {x : Nat} {ls2 : List (Option AV)} (hd : decode (mC M) pc = .ok (.astore i, 2)) (hi2 : i < mL M) (hs : ls.set i (some (aR x)) = ls2) (k : AW E M cu su (pc + 2) ls2 (st) hi hr n Q) (hz : oneW ls i = true := by rfl) : AW E M cu su pc ls (aR x :: st) hi hr n Q := by
  intro p e s m args below meth c H locs lsA C hC hL hR
  exact lv_astore C.1 C.2.1 hd (lr_has hR) hi2 rfl (fun ls2 h2 => k p e s m args below meth c H locs ls2 C hC hL (hs ▸ lr_set hz hR hi2 h2))
theorem aw_iinc {i : Nat} {v x : Int} {ls2 : List (Option AV)} (hd : decode (mC M) pc = .ok (.iinc i v, 3)) (hl : ls[i]? = some (some (aI x))) (hi2 : i < mL M) (hs : ls.set i (some (aI (x + v))) = ls2) (k : AW E M cu su (pc + 3) ls2 (st) hi hr n Q) (hz : oneW ls i = true := by rfl) : AW E M cu su pc ls (st) hi hr n Q := by
  intro p e s m args below meth c H locs lsA C hC hL hR
  obtain ⟨kx, hk⟩ := List.getElem?_of_mem (prs_mem.mpr ⟨_, hl, rfl⟩ : (i, cv E (aI x)) ∈ prs E ls)
  exact lv_iinc C.1 C.2.1 hd (lr_has hR) hk (oi_add x v) hi2 rfl (fun ls2 h2 => k p e s m args below meth c H locs ls2 C hC hL (hs ▸ lr_set hz hR hi2 h2))
theorem aw_iadd {x y : Int} (hd : decode (mC M) pc = .ok (.iadd, 1)) (k : AW E M cu su (pc + 1) ls (aI (x + y) :: st) hi hr n Q) : AW E M cu su pc ls (aI y :: aI x :: st) hi hr n Q := by
  intro p e s m args below meth c H locs lsA C hC hL hR
  refine lv_iadd C.1 C.2.1 hd ?_
  rw [oi_add]
  exact k p e s m args below meth c H locs lsA C hC hL hR
theorem aw_isub {x y : Int} (hd : decode (mC M) pc = .ok (.isub, 1)) (k : AW E M cu su (pc + 1) ls (aI (x - y) :: st) hi hr n Q) : AW E M cu su pc ls (aI y :: aI x :: st) hi hr n Q := by
  intro p e s m args below meth c H locs lsA C hC hL hR
  refine lv_isub C.1 C.2.1 hd ?_
  rw [oi_sub]
  exact k p e s m args below meth c H locs lsA C hC hL hR
theorem aw_imul {x y : Int} (hd : decode (mC M) pc = .ok (.imul, 1)) (k : AW E M cu su (pc + 1) ls (aI (x * y) :: st) hi hr n Q) : AW E M cu su pc ls (aI y :: aI x :: st) hi hr n Q := by
  intro p e s m args below meth c H locs lsA C hC hL hR
  refine lv_imul C.1 C.2.1 hd ?_
  rw [oi_mul]
  exact k p e s m args below meth c H locs lsA C hC hL hR
theorem aw_idiv {x y : Int} (hd : decode (mC M) pc = .ok (.idiv, 1)) (h0 : 0 ≤ x) (hx : InR x) (h1 : 0 < y) (hy : InR y) (k : AW E M cu su (pc + 1) ls (aI (x / y) :: st) hi hr n Q) : AW E M cu su pc ls (aI y :: aI x :: st) hi hr n Q := by
  intro p e s m args below meth c H locs lsA C hC hL hR
  refine lv_idiv C.1 C.2.1 hd (oi_ne0 h1 hy) ?_
  rw [oi_div h0 hx h1 hy]
  exact k p e s m args below meth c H locs lsA C hC hL hR
theorem aw_irem {x y : Int} (hd : decode (mC M) pc = .ok (.irem, 1)) (h0 : 0 ≤ x) (hx : InR x) (h1 : 0 < y) (hy : InR y) (k : AW E M cu su (pc + 1) ls (aI (x % y) :: st) hi hr n Q) : AW E M cu su pc ls (aI y :: aI x :: st) hi hr n Q := by
  intro p e s m args below meth c H locs lsA C hC hL hR
  refine lv_irem C.1 C.2.1 hd (oi_ne0 h1 hy) ?_
  rw [oi_rem h0 hx h1 hy]
  exact k p e s m args below meth c H locs lsA C hC hL hR
theorem aw_iand {a b : Nat} {x y : Int} (hd : decode (mC M) pc = .ok (.iand, 1)) (hx : x = (a : Int)) (hy : y = (b : Int)) (k : AW E M cu su (pc + 1) ls (aI ((a &&& b : Nat) : Int) :: st) hi hr n Q) : AW E M cu su pc ls (aI y :: aI x :: st) hi hr n Q := by
  intro p e s m args below meth c H locs lsA C hC hL hR
  subst hx; subst hy
  refine lv_iand C.1 C.2.1 hd ?_
  rw [oi_nI, oi_nI, nI_land, ← oi_nI]
  exact k p e s m args below meth c H locs lsA C hC hL hR
theorem aw_ior {a b : Nat} {x y : Int} (hd : decode (mC M) pc = .ok (.ior, 1)) (hx : x = (a : Int)) (hy : y = (b : Int)) (k : AW E M cu su (pc + 1) ls (aI ((a ||| b : Nat) : Int) :: st) hi hr n Q) : AW E M cu su pc ls (aI y :: aI x :: st) hi hr n Q := by
  intro p e s m args below meth c H locs lsA C hC hL hR
  subst hx; subst hy
  refine lv_ior C.1 C.2.1 hd ?_
  rw [oi_nI, oi_nI, nI_lor, ← oi_nI]
  exact k p e s m args below meth c H locs lsA C hC hL hR
theorem aw_and31 {x : Int} (hd : decode (mC M) pc = .ok (.iand, 1)) (k : ∀ j : Nat, j < 32 → AW E M cu su (pc + 1) ls (aI (j : Int) :: st) hi hr n Q) : AW E M cu su pc ls (aI 31 :: aI x :: st) hi hr n Q := by
  intro p e s m args below meth c H locs lsA C hC hL hR
  refine lv_iand C.1 C.2.1 hd ?_
  obtain ⟨j, hj, ej⟩ := pk_andE (Int32.ofInt x) (m := Int32.ofInt 31) 5 (by decide)
  rw [ej, ← oi_nI]
  exact k j hj p e s m args below meth c H locs lsA C hC hL hR
theorem aw_if_eq {off : Int} {tgt : Nat} {x : Int} (hd : decode (mC M) pc = .ok (.ifCond .eq off, 3)) (ht : (pc : Int) + off = (tgt : Int)) (hx : InR x) (kt : x = 0 → AW E M cu su tgt ls st hi hr n Q) (kf : ¬ x = 0 → AW E M cu su (pc + 3) ls st hi hr n Q) : AW E M cu su pc ls (aI x :: st) hi hr n Q := by
  intro p e s m args below meth c H locs lsA C hC hL hR
  have Y := InR_0
  exact lv_if_eq C.1 C.2.1 hd ht (fun q => kt (by first | exact (oi_eq hx Y).mp q | exact fun z => q ((oi_eq hx Y).mpr z)) p e s m args below meth c H locs lsA C hC hL hR) (fun q => kf (by first | exact (oi_eq hx Y).mp q | exact fun z => q ((oi_eq hx Y).mpr z)) p e s m args below meth c H locs lsA C hC hL hR)
theorem aw_ic_eq {off : Int} {tgt : Nat} {x y : Int} (hd : decode (mC M) pc = .ok (.if_icmp .eq off, 3)) (ht : (pc : Int) + off = (tgt : Int)) (hx : InR x) (Y : InR y) (kt : x = y → AW E M cu su tgt ls st hi hr n Q) (kf : ¬ x = y → AW E M cu su (pc + 3) ls st hi hr n Q) : AW E M cu su pc ls (aI y :: aI x :: st) hi hr n Q := by
  intro p e s m args below meth c H locs lsA C hC hL hR
  exact lv_icmp_eq C.1 C.2.1 hd ht (fun q => kt (by first | exact (oi_eq hx Y).mp q | exact fun z => q ((oi_eq hx Y).mpr z)) p e s m args below meth c H locs lsA C hC hL hR) (fun q => kf (by first | exact (oi_eq hx Y).mp q | exact fun z => q ((oi_eq hx Y).mpr z)) p e s m args below meth c H locs lsA C hC hL hR)
theorem aw_if_ne {off : Int} {tgt : Nat} {x : Int} (hd : decode (mC M) pc = .ok (.ifCond .ne off, 3)) (ht : (pc : Int) + off = (tgt : Int)) (hx : InR x) (kt : ¬ x = 0 → AW E M cu su tgt ls st hi hr n Q) (kf : x = 0 → AW E M cu su (pc + 3) ls st hi hr n Q) : AW E M cu su pc ls (aI x :: st) hi hr n Q := by
  intro p e s m args below meth c H locs lsA C hC hL hR
  have Y := InR_0
  exact lv_if_ne C.1 C.2.1 hd ht (fun q => kt (by first | exact (oi_eq hx Y).mp q | exact fun z => q ((oi_eq hx Y).mpr z)) p e s m args below meth c H locs lsA C hC hL hR) (fun q => kf (by first | exact (oi_eq hx Y).mp q | exact fun z => q ((oi_eq hx Y).mpr z)) p e s m args below meth c H locs lsA C hC hL hR)
theorem aw_ic_ne {off : Int} {tgt : Nat} {x y : Int} (hd : decode (mC M) pc = .ok (.if_icmp .ne off, 3)) (ht : (pc : Int) + off = (tgt : Int)) (hx : InR x) (Y : InR y) (kt : ¬ x = y → AW E M cu su tgt ls st hi hr n Q) (kf : x = y → AW E M cu su (pc + 3) ls st hi hr n Q) : AW E M cu su pc ls (aI y :: aI x :: st) hi hr n Q := by
  intro p e s m args below meth c H locs lsA C hC hL hR
  exact lv_icmp_ne C.1 C.2.1 hd ht (fun q => kt (by first | exact (oi_eq hx Y).mp q | exact fun z => q ((oi_eq hx Y).mpr z)) p e s m args below meth c H locs lsA C hC hL hR) (fun q => kf (by first | exact (oi_eq hx Y).mp q | exact fun z => q ((oi_eq hx Y).mpr z)) p e s m args below meth c H locs lsA C hC hL hR)
theorem aw_if_lt {off : Int} {tgt : Nat} {x : Int} (hd : decode (mC M) pc = .ok (.ifCond .lt off, 3)) (ht : (pc : Int) + off = (tgt : Int)) (hx : InR x) (kt : x < 0 → AW E M cu su tgt ls st hi hr n Q) (kf : ¬ x < 0 → AW E M cu su (pc + 3) ls st hi hr n Q) : AW E M cu su pc ls (aI x :: st) hi hr n Q := by
  intro p e s m args below meth c H locs lsA C hC hL hR
  have Y := InR_0
  exact lv_if_lt C.1 C.2.1 hd ht (fun q => kt (by first | exact (oi_lt hx Y).mp q | exact fun z => q ((oi_lt hx Y).mpr z)) p e s m args below meth c H locs lsA C hC hL hR) (fun q => kf (by first | exact (oi_lt hx Y).mp q | exact fun z => q ((oi_lt hx Y).mpr z)) p e s m args below meth c H locs lsA C hC hL hR)
theorem aw_ic_lt {off : Int} {tgt : Nat} {x y : Int} (hd : decode (mC M) pc = .ok (.if_icmp .lt off, 3)) (ht : (pc : Int) + off = (tgt : Int)) (hx : InR x) (Y : InR y) (kt : x < y → AW E M cu su tgt ls st hi hr n Q) (kf : ¬ x < y → AW E M cu su (pc + 3) ls st hi hr n Q) : AW E M cu su pc ls (aI y :: aI x :: st) hi hr n Q := by
  intro p e s m args below meth c H locs lsA C hC hL hR
  exact lv_icmp_lt C.1 C.2.1 hd ht (fun q => kt (by first | exact (oi_lt hx Y).mp q | exact fun z => q ((oi_lt hx Y).mpr z)) p e s m args below meth c H locs lsA C hC hL hR) (fun q => kf (by first | exact (oi_lt hx Y).mp q | exact fun z => q ((oi_lt hx Y).mpr z)) p e s m args below meth c H locs lsA C hC hL hR)
theorem aw_if_ge {off : Int} {tgt : Nat} {x : Int} (hd : decode (mC M) pc = .ok (.ifCond .ge off, 3)) (ht : (pc : Int) + off = (tgt : Int)) (hx : InR x) (kt : 0 ≤ x → AW E M cu su tgt ls st hi hr n Q) (kf : ¬ 0 ≤ x → AW E M cu su (pc + 3) ls st hi hr n Q) : AW E M cu su pc ls (aI x :: st) hi hr n Q := by
  intro p e s m args below meth c H locs lsA C hC hL hR
  have Y := InR_0
  exact lv_if_ge C.1 C.2.1 hd ht (fun q => kt (by first | exact (oi_le Y hx).mp q | exact fun z => q ((oi_le Y hx).mpr z)) p e s m args below meth c H locs lsA C hC hL hR) (fun q => kf (by first | exact (oi_le Y hx).mp q | exact fun z => q ((oi_le Y hx).mpr z)) p e s m args below meth c H locs lsA C hC hL hR)
theorem aw_ic_ge {off : Int} {tgt : Nat} {x y : Int} (hd : decode (mC M) pc = .ok (.if_icmp .ge off, 3)) (ht : (pc : Int) + off = (tgt : Int)) (hx : InR x) (Y : InR y) (kt : y ≤ x → AW E M cu su tgt ls st hi hr n Q) (kf : ¬ y ≤ x → AW E M cu su (pc + 3) ls st hi hr n Q) : AW E M cu su pc ls (aI y :: aI x :: st) hi hr n Q := by
  intro p e s m args below meth c H locs lsA C hC hL hR
  exact lv_icmp_ge C.1 C.2.1 hd ht (fun q => kt (by first | exact (oi_le Y hx).mp q | exact fun z => q ((oi_le Y hx).mpr z)) p e s m args below meth c H locs lsA C hC hL hR) (fun q => kf (by first | exact (oi_le Y hx).mp q | exact fun z => q ((oi_le Y hx).mpr z)) p e s m args below meth c H locs lsA C hC hL hR)
theorem aw_if_gt {off : Int} {tgt : Nat} {x : Int} (hd : decode (mC M) pc = .ok (.ifCond .gt off, 3)) (ht : (pc : Int) + off = (tgt : Int)) (hx : InR x) (kt : 0 < x → AW E M cu su tgt ls st hi hr n Q) (kf : ¬ 0 < x → AW E M cu su (pc + 3) ls st hi hr n Q) : AW E M cu su pc ls (aI x :: st) hi hr n Q := by
  intro p e s m args below meth c H locs lsA C hC hL hR
  have Y := InR_0
  exact lv_if_gt C.1 C.2.1 hd ht (fun q => kt (by first | exact (oi_lt Y hx).mp q | exact fun z => q ((oi_lt Y hx).mpr z)) p e s m args below meth c H locs lsA C hC hL hR) (fun q => kf (by first | exact (oi_lt Y hx).mp q | exact fun z => q ((oi_lt Y hx).mpr z)) p e s m args below meth c H locs lsA C hC hL hR)
theorem aw_ic_gt {off : Int} {tgt : Nat} {x y : Int} (hd : decode (mC M) pc = .ok (.if_icmp .gt off, 3)) (ht : (pc : Int) + off = (tgt : Int)) (hx : InR x) (Y : InR y) (kt : y < x → AW E M cu su tgt ls st hi hr n Q) (kf : ¬ y < x → AW E M cu su (pc + 3) ls st hi hr n Q) : AW E M cu su pc ls (aI y :: aI x :: st) hi hr n Q := by
  intro p e s m args below meth c H locs lsA C hC hL hR
  exact lv_icmp_gt C.1 C.2.1 hd ht (fun q => kt (by first | exact (oi_lt Y hx).mp q | exact fun z => q ((oi_lt Y hx).mpr z)) p e s m args below meth c H locs lsA C hC hL hR) (fun q => kf (by first | exact (oi_lt Y hx).mp q | exact fun z => q ((oi_lt Y hx).mpr z)) p e s m args below meth c H locs lsA C hC hL hR)
theorem aw_if_le {off : Int} {tgt : Nat} {x : Int} (hd : decode (mC M) pc = .ok (.ifCond .le off, 3)) (ht : (pc : Int) + off = (tgt : Int)) (hx : InR x) (kt : x ≤ 0 → AW E M cu su tgt ls st hi hr n Q) (kf : ¬ x ≤ 0 → AW E M cu su (pc + 3) ls st hi hr n Q) : AW E M cu su pc ls (aI x :: st) hi hr n Q := by
  intro p e s m args below meth c H locs lsA C hC hL hR
  have Y := InR_0
  exact lv_if_le C.1 C.2.1 hd ht (fun q => kt (by first | exact (oi_le hx Y).mp q | exact fun z => q ((oi_le hx Y).mpr z)) p e s m args below meth c H locs lsA C hC hL hR) (fun q => kf (by first | exact (oi_le hx Y).mp q | exact fun z => q ((oi_le hx Y).mpr z)) p e s m args below meth c H locs lsA C hC hL hR)
theorem aw_ic_le {off : Int} {tgt : Nat} {x y : Int} (hd : decode (mC M) pc = .ok (.if_icmp .le off, 3)) (ht : (pc : Int) + off = (tgt : Int)) (hx : InR x) (Y : InR y) (kt : x ≤ y → AW E M cu su tgt ls st hi hr n Q) (kf : ¬ x ≤ y → AW E M cu su (pc + 3) ls st hi hr n Q) : AW E M cu su pc ls (aI y :: aI x :: st) hi hr n Q := by
  intro p e s m args below meth c H locs lsA C hC hL hR
  exact lv_icmp_le C.1 C.2.1 hd ht (fun q => kt (by first | exact (oi_le hx Y).mp q | exact fun z => q ((oi_le hx Y).mpr z)) p e s m args below meth c H locs lsA C hC hL hR) (fun q => kf (by first | exact (oi_le hx Y).mp q | exact fun z => q ((oi_le hx Y).mpr z)) p e s m args below meth c H locs lsA C hC hL hR)
theorem aw_ic_eqT {off : Int} {tgt : Nat} {x y : Int} (hd : decode (mC M) pc = .ok (.if_icmp .eq off, 3)) (ht : (pc : Int) + off = (tgt : Int)) (hxy : x = y) (k : AW E M cu su tgt ls (st) hi hr n Q) : AW E M cu su pc ls (aI y :: aI x :: st) hi hr n Q := by
  intro p e s m args below meth c H locs lsA C hC hL hR
  subst hxy
  exact lv_icmp_eq C.1 C.2.1 hd ht (fun _ => k p e s m args below meth c H locs lsA C hC hL hR) (fun q => absurd rfl q)
theorem aw_goto {off : Int} {tgt : Nat} (hd : decode (mC M) pc = .ok (.goto off, 3)) (ht : (pc : Int) + off = (tgt : Int)) (k : AW E M cu su tgt ls (st) hi hr n Q) : AW E M cu su pc ls (st) hi hr n Q := by
  intro p e s m args below meth c H locs lsA C hC hL hR
  exact lv_goto C.1 C.2.1 hd ht (k p e s m args below meth c H locs lsA C hC hL hR)
theorem aw_ifnonnull {off : Int} {tgt x : Nat} (hd : decode (mC M) pc = .ok (.ifnonnull off, 3)) (ht : (pc : Int) + off = (tgt : Int)) (k : AW E M cu su tgt ls (st) hi hr n Q) : AW E M cu su pc ls (aR x :: st) hi hr n Q := by
  intro p e s m args below meth c H locs lsA C hC hL hR
  exact lv_ifnonnull C.1 C.2.1 hd ht (k p e s m args below meth c H locs lsA C hC hL hR)
theorem aw_ifnull {off : Int} {x : Nat} (hd : decode (mC M) pc = .ok (.ifnull off, 3)) (k : AW E M cu su (pc + 3) ls (st) hi hr n Q) : AW E M cu su pc ls (aR x :: st) hi hr n Q := by
  intro p e s m args below meth c H locs lsA C hC hL hR
  exact lv_ifnull C.1 C.2.1 hd (k p e s m args below meth c H locs lsA C hC hL hR)
theorem aw_dup {v : AV} (hd : decode (mC M) pc = .ok (.dup, 1)) (k : AW E M cu su (pc + 1) ls (v :: v :: st) hi hr n Q) (hv : isW v = true := by rfl) : AW E M cu su pc ls (v :: st) hi hr n Q := by
  intro p e s m args below meth c H locs lsA C hC hL hR
  exact lv_dup C.1 C.2.1 hd (cv_cat E v hv) (k p e s m args below meth c H locs lsA C hC hL hR)
theorem aw_dup2 {v w : AV} (hd : decode (mC M) pc = .ok (.dup2, 1)) (k : AW E M cu su (pc + 1) ls (v :: w :: v :: w :: st) hi hr n Q) (hv : isW v = true := by rfl) (hw : isW w = true := by rfl) : AW E M cu su pc ls (v :: w :: st) hi hr n Q := by
  intro p e s m args below meth c H locs lsA C hC hL hR
  exact lv_dup2_11 C.1 C.2.1 hd (cv_cat E v hv) (cv_cat E w hw) (k p e s m args below meth c H locs lsA C hC hL hR)
theorem aw_tab {dflt lo hi2 : Int} {offs : Array Int} {len : Nat} {x off : Int} {tgt : Nat} (hd : decode (mC M) pc = .ok (.tableswitch dflt lo hi2 offs, len)) (hx : InR x) (h1 : lo ≤ x) (h2 : x ≤ hi2) (ho : offs[(x - lo).toNat]? = some off) (ht : (pc : Int) + off = (tgt : Int)) (k : AW E M cu su tgt ls (st) hi hr n Q) : AW E M cu su pc ls (aI x :: st) hi hr n Q := by
  intro p e s m args below meth c H locs lsA C hC hL hR
  exact lv_tableIn C.1 C.2.1 hd (by rw [oi_toInt hx]; omega) (by rw [oi_toInt hx]; omega) (by rw [oi_toInt hx]; exact ho) ht (k p e s m args below meth c H locs lsA C hC hL hR)
theorem aw_tabD {dflt lo hi2 : Int} {offs : Array Int} {len : Nat} {x : Int} {tgt : Nat} (hd : decode (mC M) pc = .ok (.tableswitch dflt lo hi2 offs, len)) (hx : InR x) (h1 : x < lo ∨ hi2 < x) (ht : (pc : Int) + dflt = (tgt : Int)) (k : AW E M cu su tgt ls (st) hi hr n Q) : AW E M cu su pc ls (aI x :: st) hi hr n Q := by
  intro p e s m args below meth c H locs lsA C hC hL hR
  exact lv_tableOut C.1 C.2.1 hd (by rw [oi_toInt hx]; omega) ht (k p e s m args below meth c H locs lsA C hC hL hR)
theorem aw_look {dflt : Int} {ps : Array (Int × Int)} {len : Nat} {x off : Int} {tgt : Nat} (hd : decode (mC M) pc = .ok (.lookupswitch dflt ps, len)) (hx : InR x) (hp : (ps.toList.zip (ps.toList.drop 1)).all (fun (a, next) => a.1 < next.1) = true) (ho : Op.lookupswitch.offset ps.toList dflt x = off) (ht : (pc : Int) + off = (tgt : Int)) (k : AW E M cu su tgt ls (st) hi hr n Q) : AW E M cu su pc ls (aI x :: st) hi hr n Q := by
  intro p e s m args below meth c H locs lsA C hC hL hR
  exact lv_lookup C.1 C.2.1 hd hp (by rw [oi_toInt hx]; exact ho) ht (k p e s m args below meth c H locs lsA C hC hL hR)
theorem aw_less {ls2 : List (Option AV)} (hl : ls2.length = ls.length) (hs : ∀ (i : Nat) (v : AV), ls2[i]? = some (some v) → ls[i]? = some (some v)) (k : AW E M cu su pc ls2 (st) hi hr n Q) : AW E M cu su pc ls (st) hi hr n Q := by
  intro p e s m args below meth c H locs lsA C hC hL hR
  exact k p e s m args below meth c H locs lsA C hC hL (lr_fewer hR hl hs)
theorem aw_iret {v : Int} (hd : decode (mC M) pc = .ok (.ireturn, 1)) (hr1 : mT M = some .int) (hw1 : cu ≤ mMc M) (hw2 : su ≤ mMs M) (hq : Q (some (aI v)) hi hr n) : AW E M cu su pc ls [aI v] hi hr n Q := by
  intro p e s m args below meth c H locs lsA C hC hL hR
  refine W.widen hw1 hw2 ?_
  exact W.iret C.1 C.2.1 (C.2.2.2.1.trans hr1) (fun t ht _ => ⟨_, hi, hr, n, rfl, hq, by rw [ht]; exact hC⟩) hL hd C.2.2.2.2.1
theorem aw_zret {v : Int} (hd : decode (mC M) pc = .ok (.ireturn, 1)) (hr1 : mT M = some .boolean) (hz : v = 0 ∨ v = 1) (hw1 : cu ≤ mMc M) (hw2 : su ≤ mMs M) (hq : Q (some (aI v)) hi hr n) : AW E M cu su pc ls [aI v] hi hr n Q := by
  intro p e s m args below meth c H locs lsA C hC hL hR
  refine W.widen hw1 hw2 ?_
  exact W.zret C.1 C.2.1 (C.2.2.2.1.trans hr1) (by rcases hz with rfl | rfl <;> rfl) (fun t ht _ => ⟨_, hi, hr, n, rfl, hq, by rw [ht]; exact hC⟩) hL hd C.2.2.2.2.1
theorem aw_vret (hd : decode (mC M) pc = .ok (.return_, 1)) (hr1 : mT M = none) (hw1 : cu ≤ mMc M) (hw2 : su ≤ mMs M) (hq : Q none hi hr n) : AW E M cu su pc ls [] hi hr n Q := by
  intro p e s m args below meth c H locs lsA C hC hL hR
  refine W.widen hw1 hw2 ?_
  exact W.vret C.1 C.2.1 (C.2.2.2.1.trans hr1) (fun t ht _ => ⟨_, hi, hr, n, rfl, hq, by rw [ht]; exact hC⟩) hL hd C.2.2.2.2.1
theorem aw_aret {a : Nat} {rt : FieldType} (hd : decode (mC M) pc = .ok (.areturn, 1)) (hr1 : mT M = some rt) (hrt : ∃ z, rt = .object z) (hw1 : cu ≤ mMc M) (hw2 : su ≤ mMs M) (hq : Q (some (aR a)) hi hr n) : AW E M cu su pc ls [aR a] hi hr n Q := by
  intro p e s m args below meth c H locs lsA C hC hL hR
  refine W.widen hw1 hw2 ?_
  exact W.aret C.1 C.2.1 (C.2.2.2.1.trans hr1) (Or.inl hrt) (Or.inr ⟨_, rfl⟩) (fun t ht _ => ⟨_, hi, hr, n, rfl, hq, by rw [ht]; exact hC⟩) hL hd C.2.2.2.2.1
theorem aw_lload_n {i : Fin 4} {x : Int64} (hd : decode (mC M) pc = .ok (.lload_n i, 1)) (hl : ls[(i : Nat)]? = some (some (aL x))) (k : AW E M cu su (pc + 1) ls (aL x :: st) hi hr n Q) : AW E M cu su pc ls (st) hi hr n Q := by
  intro p e s m args below meth c H locs lsA C hC hL hR
  exact lv_lload_n C.1 C.2.1 hd rfl (hR.2.2.2 _ _ hl) (k p e s m args below meth c H locs lsA C hC hL hR)
theorem aw_lload {i : Nat} {x : Int64} (hd : decode (mC M) pc = .ok (.lload i, 2)) (hl : ls[i]? = some (some (aL x))) (k : AW E M cu su (pc + 2) ls (aL x :: st) hi hr n Q) : AW E M cu su pc ls (st) hi hr n Q := by
  intro p e s m args below meth c H locs lsA C hC hL hR
  exact lv_lload C.1 C.2.1 hd (hR.2.2.2 _ _ hl) (k p e s m args below meth c H locs lsA C hC hL hR)
theorem aw_lstore_n {i : Fin 4} {x : Int64} {ls2 : List (Option AV)} (hd : decode (mC M) pc = .ok (.lstore_n i, 1)) (hi2 : (i : Nat) + 1 < mL M) (hs : (ls.set (i : Nat) (some (aL x))).set ((i : Nat) + 1) none = ls2) (k : AW E M cu su (pc + 1) ls2 (st) hi hr n Q) (hz : oneW ls (i : Nat) = true := by rfl) : AW E M cu su pc ls (aL x :: st) hi hr n Q := by
  intro p e s m args below meth c H locs lsA C hC hL hR
  exact lv_lstore_n C.1 C.2.1 hd rfl (lr_has hR) hi2 rfl (fun ls2 h2 => k p e s m args below meth c H locs ls2 C hC hL (hs ▸ lr_set2 hz hR hi2 h2))
theorem aw_lstore {i : Nat} {x : Int64} {ls2 : List (Option AV)} (hd : decode (mC M) pc = .ok (.lstore i, 2)) (hi2 : i + 1 < mL M) (hs : (ls.set i (some (aL x))).set (i + 1) none = ls2) (k : AW E M cu su (pc + 2) ls2 (st) hi hr n Q) (hz : oneW ls i = true := by rfl) : AW E M cu su pc ls (aL x :: st) hi hr n Q := by
  intro p e s m args below meth c H locs lsA C hC hL hR
  exact lv_lstore C.1 C.2.1 hd (lr_has hR) hi2 rfl (fun ls2 h2 => k p e s m args below meth c H locs ls2 C hC hL (hs ▸ lr_set2 hz hR hi2 h2))
theorem aw_ldc2 {idx : Nat} {v : Int64} (hd : decode (mC M) pc = .ok (.ldc2_w idx, 3)) (hc : Cond.constantLong (mY M).cls idx v ∈ lw_tbl) (k : AW E M cu su (pc + 3) ls (aL v :: st) hi hr n Q) : AW E M cu su pc ls (st) hi hr n Q := by
  intro p e s m args below meth c H locs lsA C hC hL hR
  exact lv_ldc2 C.1 C.2.1 C.2.2.2.2.2.1 (C.2.2.2.2.2.2.2.1 _ hc rfl _) hd (k p e s m args below meth c H locs lsA C hC hL hR)
theorem aw_lmul {x y : Int64} (hd : decode (mC M) pc = .ok (.lmul, 1)) (k : AW E M cu su (pc + 1) ls (aL (x * y) :: st) hi hr n Q) : AW E M cu su pc ls (aL y :: aL x :: st) hi hr n Q := by
  intro p e s m args below meth c H locs lsA C hC hL hR
  exact lv_lmul C.1 C.2.1 hd (k p e s m args below meth c H locs lsA C hC hL hR)
theorem aw_ladd {x y : Int64} (hd : decode (mC M) pc = .ok (.ladd, 1)) (k : AW E M cu su (pc + 1) ls (aL (x + y) :: st) hi hr n Q) : AW E M cu su pc ls (aL y :: aL x :: st) hi hr n Q := by
  intro p e s m args below meth c H locs lsA C hC hL hR
  exact lv_ladd C.1 C.2.1 hd (k p e s m args below meth c H locs lsA C hC hL hR)
theorem aw_i2l {x : Int} (hd : decode (mC M) pc = .ok (.i2l, 1)) (k : AW E M cu su (pc + 1) ls (aL (Int32.ofInt x).toInt64 :: st) hi hr n Q) : AW E M cu su pc ls (aI x :: st) hi hr n Q := by
  intro p e s m args below meth c H locs lsA C hC hL hR
  exact lv_i2l C.1 C.2.1 hd rfl (k p e s m args below meth c H locs lsA C hC hL hR)
theorem aw_lcmp {x y : Int64} (hd : decode (mC M) pc = .ok (.lcmp, 1)) (k0 : x = y → AW E M cu su (pc + 1) ls (aI 0 :: st) hi hr n Q) (k1 : ∀ z : Int, InR z → ¬ z = 0 → ¬ x = y → AW E M cu su (pc + 1) ls (aI z :: st) hi hr n Q) : AW E M cu su pc ls (aL y :: aL x :: st) hi hr n Q := by
  intro p e s m args below meth c H locs lsA C hC hL hR
  refine W.lcmp C.1 C.2.1 hd ?_
  by_cases h : x = y
  · have eq : lg_cmp x y = Int32.ofInt 0 := by subst h; simp [lg_cmp, Int64.lt_irrefl]
    rw [eq]
    exact k0 h p e s m args below meth c H locs lsA C hC hL hR
  · have eq : lg_cmp x y = Int32.ofInt (lg_cmp x y).toInt := (Int32.ofInt_toInt _).symm
    rw [eq]
    refine k1 _ ⟨?_, ?_⟩ ?_ h p e s m args below meth c H locs lsA C hC hL hR
    · exact Int32.le_toInt _
    · exact Int32.toInt_lt _
    · unfold lg_cmp
      by_cases h1 : y < x
      · simp [h1]
      · simp [h1, h]
theorem aw_lret {x : Int64} (hd : decode (mC M) pc = .ok (.lreturn, 1)) (hr1 : mT M = some .long) (hw1 : cu ≤ mMc M) (hw2 : su ≤ mMs M) (hq : Q (some (aL x)) hi hr n) : AW E M cu su pc ls [aL x] hi hr n Q := by
  intro p e s m args below meth c H locs lsA C hC hL hR
  refine W.widen hw1 hw2 ?_
  exact W.lret C.1 C.2.1 (C.2.2.2.1.trans hr1) (fun t ht _ => ⟨_, hi, hr, n, rfl, hq, by rw [ht]; exact hC⟩) hL hd C.2.2.2.2.1
theorem aw_andM {x : Int} (hd : decode (mC M) pc = .ok (.iand, 1)) (k : ∀ j : Int, 0 ≤ j → j ≤ 2147483647 → AW E M cu su (pc + 1) ls (aI j :: st) hi hr n Q) : AW E M cu su pc ls (aI 2147483647 :: aI x :: st) hi hr n Q := by
  intro p e s m args below meth c H locs lsA C hC hL hR
  refine lv_iand C.1 C.2.1 hd ?_
  obtain ⟨j, hj, ej⟩ := pk_andE (Int32.ofInt x) (m := Int32.ofInt 2147483647) 31 (by decide)
  rw [ej, ← oi_nI]
  have hj : j < 2147483648 := hj
  exact k (j : Int) (by omega) (by omega) p e s m args below meth c H locs lsA C hC hL hR
theorem aw_andX {x y : Int} (hd : decode (mC M) pc = .ok (.iand, 1)) (k : ∀ j : Int, InR j → AW E M cu su (pc + 1) ls (aI j :: st) hi hr n Q) : AW E M cu su pc ls (aI y :: aI x :: st) hi hr n Q := by
  intro p e s m args below meth c H locs lsA C hC hL hR
  refine lv_iand C.1 C.2.1 hd  ?_
  have g : ∀ z : Int32, W p (eL E) e (mR M) s m args below meth c H locs cu su (MQ below (QA E Q) args s (mMc M) (mMs M) (fr E)) (F0 m (pc + 1) lsA (.int z :: st.map (cv E))) := fun z => by
    have q := k z.toInt ⟨Int32.le_toInt _, Int32.toInt_lt _⟩ p e s m args below meth c H locs lsA C hC hL hR
    rw [List.map_cons, cv_i, Int32.ofInt_toInt] at q
    exact q
  exact g _
theorem aw_shrX {x y : Int} (hd : decode (mC M) pc = .ok (.ishr, 1)) (k : ∀ j : Int, InR j → AW E M cu su (pc + 1) ls (aI j :: st) hi hr n Q) : AW E M cu su pc ls (aI y :: aI x :: st) hi hr n Q := by
  intro p e s m args below meth c H locs lsA C hC hL hR
  refine lv_ishr C.1 C.2.1 hd  ?_
  have g : ∀ z : Int32, W p (eL E) e (mR M) s m args below meth c H locs cu su (MQ below (QA E Q) args s (mMc M) (mMs M) (fr E)) (F0 m (pc + 1) lsA (.int z :: st.map (cv E))) := fun z => by
    have q := k z.toInt ⟨Int32.le_toInt _, Int32.toInt_lt _⟩ p e s m args below meth c H locs lsA C hC hL hR
    rw [List.map_cons, cv_i, Int32.ofInt_toInt] at q
    exact q
  exact g _
theorem aw_divX {x y : Int} (hd : decode (mC M) pc = .ok (.idiv, 1)) (h0 : ¬ Int32.ofInt y = 0) (k : ∀ j : Int, InR j → AW E M cu su (pc + 1) ls (aI j :: st) hi hr n Q) : AW E M cu su pc ls (aI y :: aI x :: st) hi hr n Q := by
  intro p e s m args below meth c H locs lsA C hC hL hR
  refine lv_idiv C.1 C.2.1 hd h0 ?_
  have g : ∀ z : Int32, W p (eL E) e (mR M) s m args below meth c H locs cu su (MQ below (QA E Q) args s (mMc M) (mMs M) (fr E)) (F0 m (pc + 1) lsA (.int z :: st.map (cv E))) := fun z => by
    have q := k z.toInt ⟨Int32.le_toInt _, Int32.toInt_lt _⟩ p e s m args below meth c H locs lsA C hC hL hR
    rw [List.map_cons, cv_i, Int32.ofInt_toInt] at q
    exact q
  exact g _
theorem aw_mulX {x y : Int} (hd : decode (mC M) pc = .ok (.imul, 1)) (k : ∀ j : Int, InR j → AW E M cu su (pc + 1) ls (aI j :: st) hi hr n Q) : AW E M cu su pc ls (aI y :: aI x :: st) hi hr n Q := by
  intro p e s m args below meth c H locs lsA C hC hL hR
  refine lv_imul C.1 C.2.1 hd  ?_
  have g : ∀ z : Int32, W p (eL E) e (mR M) s m args below meth c H locs cu su (MQ below (QA E Q) args s (mMc M) (mMs M) (fr E)) (F0 m (pc + 1) lsA (.int z :: st.map (cv E))) := fun z => by
    have q := k z.toInt ⟨Int32.le_toInt _, Int32.toInt_lt _⟩ p e s m args below meth c H locs lsA C hC hL hR
    rw [List.map_cons, cv_i, Int32.ofInt_toInt] at q
    exact q
  exact g _
end AROWS
end
section
/-! heap rows of the abstract machine -/
def up2 (f : HI) (a k : Nat) (v : Int) : HI := fun x y => if x = a ∧ y = k then v else f x y
def upr (f : HR) (a k : Nat) (v : Option Nat) : HR := fun x y => if x = a ∧ y = k then v else f x y
theorem up2_self (f : HI) (a k : Nat) (v : Int) : up2 f a k v a k = v := by simp [up2]
/-- what a program decides of a class -/
def CI (c : Nat) (C : String) (T : u_T) (N : Nat) (ty : Nat → FieldType) : Prop :=
  vwCl[c]? = some (C, T, N) ∧ (∀ w ∈ u_ws C T N, w ∈ lw_tbl ∧ okW w = true) ∧ (∀ k, k < N → parseFieldDescriptor (T k).2.2.1 = some (ty k)) ∧ (∀ a, a < N → ∀ b, b < N → a ≠ b → (T a).2.1 ≠ (T b).2.1) ∧
  (∀ k, k < N → (T k).1 = C) ∧ (∀ k, k < N → defaultValue (ty k) = if frf c k then .null else .int 0) ∧ (∀ k, k < N → frf c k = true → (ty k).isReference = true) ∧ c < 10
/-- a field's link, in its own class or in a nest mate -/
def FL (own : String) (idx : Nat) (C : String) (T : u_T) (k : Nat) : Prop :=
  (Cond.fieldLink own idx C (T k).2.1 (T k).2.2.1 ∈ lw_tbl) ∨ ∃ host : String, Cond.fieldLinkNest own idx C (T k).2.1 (T k).2.2.1 host ∈ lw_tbl
theorem ad_own (E : ET) {a : Nat} (h : a < 1000) : ad E a = eB E + a := by unfold ad; rw [if_pos h]
theorem CC.cell {E : ET} {hi : HI} {hr : HR} {n : Nat} {H : Heap} (h : CC E hi hr n H) {a : Nat} (ha : a < n) : cellOK E hi hr a H := h.2.2.2.1 a ha
theorem CC.adr {E : ET} {hi : HI} {hr : HR} {n : Nat} {H : Heap} (h : CC E hi hr n H) {a : Nat} (ha : a < n) : ad E a = eB E + a := ad_own E (by have := h.2.1; omega)
theorem cellOK.kept {E : ET} {hi hi' : HI} {hr hr' : HR} {k : Nat} {H H' : Heap} (h : cellOK E hi hr k H) (h1 : H'[eB E + k]? = H[eB E + k]?) (h2 : ∀ y : Nat, hi' k y = hi k y) (h3 : ∀ y : Nat, hr' k y = hr k y) : cellOK E hi' hr' k H' := by
  have e1 : (fun j => cv E (.inl (hi' k j))) = (fun j => cv E (.inl (hi k j))) := funext fun j => by rw [h2]
  have e2 : (fun j => cv E (aO (hr' k j))) = (fun j => cv E (aO (hr k j))) := funext fun j => by rw [h3]
  have e3 : (fun j => fv E (sh k).1 hi' hr' k j) = (fun j => fv E (sh k).1 hi hr k j) := funext fun j => by unfold fv; rw [h2, h3]
  obtain ⟨g1, g2, g3⟩ := h
  refine ⟨fun q => ?_, fun q => ?_, fun q => ?_⟩
  · rw [e3]; exact (g1 q).kept h1
  · rw [e1, h1]; exact g2 q
  · rw [e2, h1]; exact g3 q
theorem CC.upd {E : ET} {hi hi' : HI} {hr hr' : HR} {n a : Nat} {H H' : Heap} (h : CC E hi hr n H) (ha : a < n) (hsz : H'.size = H.size) (ho : ∀ q : Nat, q ≠ eB E + a → H'[q]? = H[q]?) (hc : cellOK E hi' hr' a H')
    (h2 : ∀ x : Nat, x ≠ a → ∀ y : Nat, hi' x y = hi x y) (h3 : ∀ x : Nat, x ≠ a → ∀ y : Nat, hr' x y = hr x y) : CC E hi' hr' n H' := by
  obtain ⟨g1, g2, g3, g4, g5, g6⟩ := h
  refine ⟨hsz.trans g1, g2, fun q hq => (ho q (by omega)).trans (g3 q hq), fun k hk => ?_, fun i hi6 j => ?_, fun k hk1 hk2 j => ?_⟩
  · by_cases e : k = a
    · subst e; exact hc
    · exact (g4 k hk).kept (ho _ (by omega)) (h2 k e) (h3 k e)
  · rw [h2 _ (by omega)]; exact g5 i hi6 j
  · rw [h2 _ (by omega), h3 _ (by omega)]; exact g6 k hk1 hk2 j
theorem up2_ne (f : HI) {a x : Nat} (k : Nat) (v : Int) (h : x ≠ a) (y : Nat) : up2 f a k v x y = f x y := by simp [up2, h]
theorem upr_ne (f : HR) {a x : Nat} (k : Nat) (v : Option Nat) (h : x ≠ a) (y : Nat) : upr f a k v x y = f x y := by simp [upr, h]
theorem KE.link {E : ET} {M : MT} {s : State} (h : KE E s) {w : Cond} (hw : w ∈ lw_tbl) (hk : okW w = true) (a : Array Value) : w.before a s = true := h.1 w hw hk a
section HROWS
variable {E : ET} {M : MT} {cu su pc : Nat} {ls : List (Option AV)} {st : List AV} {hi : HI} {hr : HR} {n : Nat} {Q : QT} {c k idx a : Nat} {C : String} {T : u_T} {N : Nat} {ty : Nat → FieldType}
/-- an object's field, as the machine has it -/
theorem fld {p : Program} {s : State} {m : MethodId} {meth : Method} {cd : Code} {H : Heap} (hX : Cx E M p s m meth cd) (hC : CC E hi hr n H) (hc : CI c C T N ty) (hk : k < N) (ha : a < n) (hs : sh a = (c, N)) :
    ∃ (cell : Cell) (cf : Nat) (kf : Class) (fi : Nat) (f : Field), H[eB E + a]? = some cell ∧ cell.cls = eC E c ∧ cell.vm = .none ∧ (∀ j, j < N → cell.slots[eI E c j]? = some (fv E c hi hr a j)) ∧ s.fieldFound? C (T k).2.1 (T k).2.2.1 = some (cf, kf, fi, f) ∧ f.slot = eI E c k ∧ f.isStatic = false ∧
      (∀ x y, x < N → y < N → x ≠ y → eI E c x ≠ eI E c y) ∧
      ((T k).2.2.2 = false → ∀ v, narrow (ty k) v = v → fits (ty k) v = true → k2_Sd s f (eC E c) v) ∧ ((T k).2.2.2 = true → (mY M).cls = C → m.cls = cf) ∧ (∀ v, narrow (ty k) v = v → fits (ty k) v = true → narrow f.type v = v ∧ s.fitsSlot (eC E c) .none f.slot v = true) := by
  obtain ⟨hc1, hc2, hc3, hc4, hc5, hc6, hc7, hc8⟩ := hc
  have hKE : KE E s := hX.2.2.2.2.2.2.2
  have hts : ∀ w ∈ u_ws C T N, w.before #[] s = true := fun w hw => hKE.1 w (hc2 w hw).1 (hc2 w hw).2 _
  have hin : ∀ w ∈ u_ws C T N, w ∈ u_ws C T N := fun _ h => h
  obtain ⟨hS, hfc, kC, hkC, hkind⟩ := hKE.2.1 c _ hc1
  dsimp only at hS hfc
  obtain ⟨cell, q1, q2, q3, q4⟩ := (hC.cell ha).1 (by rw [hs]; exact hc8)
  rw [hs] at q2 q4
  obtain ⟨cf, kf, fi, f, hif, hsl⟩ := hS k hk
  have hT1 : (T k).1 = C := hc5 k hk
  have hif' : s.fieldFound? C (T k).2.1 (T k).2.2.1 = some (cf, kf, fi, f) := by rw [← hT1]; exact hif
  have hlay := hts _ (hin _ (u_in_lay hk))
  refine ⟨cell, cf, kf, fi, f, q1, q2, q3, q4, hif', hsl, (u_facts hfc hkC (u_lays hts hin hk) hif).1, ?_, ?_, ?_, ?_⟩
  · intro x y hx hy hne
    obtain ⟨_, _, _, fa, hia, ea⟩ := hS x hx
    obtain ⟨_, _, _, fb, hib, eb⟩ := hS y hy
    rw [← ea, ← eb]
    refine u_apart (u_lays hts hin hx) (u_lays hts hin hy) hia hib ?_
    rw [(State.fieldFound?_type hia (hc3 x hx)).1, (State.fieldFound?_type hib (hc3 y hy)).1]
    exact hc4 x hx y hy hne
  · intro hfin v hn hv
    unfold u_lay at hlay
    rw [if_neg (by rw [hfin]; decide)] at hlay
    exact u_store hfc hkC hkind hlay hif (hc3 k hk) hn hv
  · intro hfin hown
    have h := State.fieldFound?_spec hif'
    have h2 : s.vm.findClass (mY M).cls = some m.cls := hX.2.2.2.2.2.1
    unfold u_lay at hlay
    rw [if_pos hfin] at hlay
    rw [hT1] at hlay
    exact laid_decl (hown ▸ h2) hlay hif'
  · intro v hn hv
    exact u_fits hfc hkC hkind (u_lays hts hin hk) hif (hc3 k hk) hn hv
theorem aw_geti (hd : decode (mC M) pc = .ok (.getfield idx, 3)) (hc : CI c C T N ty) (hk : k < N) (hl : FL (mY M).cls idx C T k) (ha : a < n) (hs : sh a = (c, N)) (hf : frf c k = false)
    (kk : AW E M cu su (pc + 3) ls (aI (hi a k) :: st) hi hr n Q) : AW E M cu su pc ls (aR a :: st) hi hr n Q := by
  intro p e s m args below meth cd H locs lsA hX hC hL hR
  obtain ⟨cell, cf, kf, fi, f, q1, q2, q3, q4, hif, hsl, hst, -⟩ := fld (k := k) hX hC hc hk ha hs
  have hv : cell.slots[f.slot]? = some (cv E (aI (hi a k))) := by rw [hsl, q4 k hk]; unfold fv; rw [hf]; rfl
  have g := kk p e s m args below meth cd H locs lsA hX hC hL hR
  rw [List.map_cons, cv_r, hC.adr ha]
  rcases hl with hl | ⟨host, hl⟩
  · exact W.getf hX.1 hX.2.1 hX.2.2.2.2.2.1 (hX.2.2.2.2.2.2.2.1 _ hl rfl _) hif hst q1 (by rw [q3]; exact fun h => by cases h) hv rfl rfl hd g
  · exact va_Wgetf hX.1 hX.2.1 hX.2.2.2.2.2.1 (hX.2.2.2.2.2.2.2.1 _ hl rfl _) hif hst q1 (by rw [q3]; exact fun h => by cases h) hv rfl rfl hd g
theorem aw_getr {x : Nat} (hd : decode (mC M) pc = .ok (.getfield idx, 3)) (hc : CI c C T N ty) (hk : k < N) (hl : FL (mY M).cls idx C T k) (ha : a < n) (hs : sh a = (c, N)) (hf : frf c k = true) (hx : hr a k = some x)
    (kk : AW E M cu su (pc + 3) ls (aR x :: st) hi hr n Q) : AW E M cu su pc ls (aR a :: st) hi hr n Q := by
  intro p e s m args below meth cd H locs lsA hX hC hL hR
  obtain ⟨cell, cf, kf, fi, f, q1, q2, q3, q4, hif, hsl, hst, -⟩ := fld (k := k) hX hC hc hk ha hs
  have hv : cell.slots[f.slot]? = some (cv E (aR x)) := by rw [hsl, q4 k hk]; unfold fv; rw [hf, hx]; rfl
  have g := kk p e s m args below meth cd H locs lsA hX hC hL hR
  rw [List.map_cons, cv_r, hC.adr ha]
  rcases hl with hl | ⟨host, hl⟩
  · exact W.getf hX.1 hX.2.1 hX.2.2.2.2.2.1 (hX.2.2.2.2.2.2.2.1 _ hl rfl _) hif hst q1 (by rw [q3]; exact fun h => by cases h) hv rfl rfl hd g
  · exact va_Wgetf hX.1 hX.2.1 hX.2.2.2.2.2.1 (hX.2.2.2.2.2.2.2.1 _ hl rfl _) hif hst q1 (by rw [q3]; exact fun h => by cases h) hv rfl rfl hd g
theorem cell_put {hi' : HI} {hr' : HR} {H H' : Heap} {cell : Cell} {v : Value} (hs : sh a = (c, N)) (hc8 : c < 10) (q2 : cell.cls = eC E c) (q3 : cell.vm = .none) (q4 : ∀ j, j < N → cell.slots[eI E c j]? = some (fv E c hi hr a j)) (hap : ∀ x y, x < N → y < N → x ≠ y → eI E c x ≠ eI E c y) (hk : k < N)
    (e1 : H'[eB E + a]? = some (cell.setSlot (eI E c k) v)) (hv : ∀ j, j < N → fv E c hi' hr' a j = if j = k then v else fv E c hi hr a j) : cellOK E hi' hr' a H' := by
  refine ⟨fun _ => ?_, fun q => ?_, fun q => ?_⟩
  · rw [hs]
    refine ⟨_, e1, q2, q3, fun j hj => ?_⟩
    rw [t_set q4 hap hk v j hj]
    show some (updV (fv E c hi hr a) k v j) = some (fv E c hi' hr' a j)
    rw [hv j hj]
    rfl
  · rw [hs] at q; dsimp only at q; omega
  · rw [hs] at q; dsimp only at q; omega
theorem aw_puti {v : Int} (hd : decode (mC M) pc = .ok (.putfield idx, 3)) (hc : CI c C T N ty) (hk : k < N) (hl : FL (mY M).cls idx C T k) (ha : a < n) (hs : sh a = (c, N)) (hf : frf c k = false) (hfin : (T k).2.2.2 = false) (hty : ty k = .int ∨ (ty k = .boolean ∧ (v = 0 ∨ v = 1)))
    (kk : AW E M cu su (pc + 3) ls st (up2 hi a k v) hr n Q) : AW E M cu su pc ls (aI v :: aR a :: st) hi hr n Q := by
  intro p e s m args below meth cd H locs lsA hX hC hL hR
  obtain ⟨cell, cf, kf, fi, f, q1, q2, q3, q4, hif, hsl, hst, hap, hsd, -⟩ := fld (k := k) hX hC hc hk ha hs
  have hS : k2_Sd s f cell.cls (.int (Int32.ofInt v)) := by
    rw [q2]
    refine hsd hfin _ ?_ ?_
    · rcases hty with h | ⟨h, rfl | rfl⟩ <;> rw [h] <;> rfl
    · rcases hty with h | ⟨h, rfl | rfl⟩ <;> rw [h] <;> rfl
  have g : ∀ H' : Heap, H'[eB E + a]? = some (cell.setSlot f.slot (.int (Int32.ofInt v))) → H'.size = H.size → (∀ q : Nat, q ≠ eB E + a → H'[q]? = H[q]?) → W p (eL E) e (mR M) s m args below meth cd H' (locs ++ [⟨eB E + a, f.slot⟩]) cu su (MQ below (QA E Q) args s (mMc M) (mMs M) (fr E)) (F0 m (pc + 3) lsA (st.map (cv E))) := by
    intro H' e1 e2 e3
    rw [hsl] at e1
    refine kk p e s m args below meth cd H' _ lsA hX (hC.upd ha e2 e3 (cell_put (hi := hi) (hr := hr) (H := H) hs hc.2.2.2.2.2.2.2 q2 q3 q4 hap hk e1 fun j hj => ?_) (fun x hx y => up2_ne hi k v hx y) (fun _ _ _ => rfl)) (fun q hq => ?_) hR
    · unfold fv up2
      by_cases e : j = k
      · subst e; simp [hf]; rfl
      · simp [e]
    · rcases List.mem_append.mp hq with h | h
      · exact hL q h
      · rw [List.mem_singleton] at h; subst h; exact Nat.le_add_right _ _
  rw [List.map_cons, List.map_cons, cv_r, cv_i, hC.adr ha]
  rcases hl with hl | ⟨host, hl⟩
  · exact W.putK hX.1 hX.2.1 ⟨hX.2.2.2.2.2.1, hX.2.2.2.2.2.2.2.1 _ hl rfl _, ⟨_, _, _, hif⟩, hst⟩ hS q1 q3 (by rw [hsl]; exact k2_hasslot (q4 k hk)) rfl rfl hd g
  · exact va_WputK hX.1 hX.2.1 hX.2.2.2.2.2.1 (hX.2.2.2.2.2.2.2.1 _ hl rfl _) hif hst hS q1 q3 (by rw [hsl]; exact k2_hasslot (q4 k hk)) rfl rfl hd g
/-- a final reference, in its class's constructor -/
theorem aw_putr {x : Nat} (hd : decode (mC M) pc = .ok (.putfield idx, 3)) (hc : CI c C T N ty) (hk : k < N) (hl : Cond.fieldLink (mY M).cls idx C (T k).2.1 (T k).2.2.1 ∈ lw_tbl) (ha : a < n) (hs : sh a = (c, N)) (hf : frf c k = true) (hfin : (T k).2.2.2 = true) (hy1 : (mY M).name = "<init>") (hy2 : (mY M).cls = C)
    (kk : AW E M cu su (pc + 3) ls st hi (upr hr a k (some x)) n Q) : AW E M cu su pc ls (aR x :: aR a :: st) hi hr n Q := by
  intro p e s m args below meth cd H locs lsA hX hC hL hR
  obtain ⟨cell, cf, kf, fi, f, q1, q2, q3, q4, hif, hsl, hst, hap, -, hdecl, hfit⟩ := fld (k := k) hX hC hc hk ha hs
  have hty : (ty k).isReference = true := hc.2.2.2.2.2.2.1 k hk hf
  have g : ∀ H' : Heap, H'[eB E + a]? = some (cell.setSlot f.slot (.ref (ad E x))) → H'.size = H.size → (∀ q : Nat, q ≠ eB E + a → H'[q]? = H[q]?) → W p (eL E) e (mR M) s m args below meth cd H' (locs ++ [⟨eB E + a, f.slot⟩]) cu su (MQ below (QA E Q) args s (mMc M) (mMs M) (fr E)) (F0 m (pc + 3) lsA (st.map (cv E))) := by
    intro H' e1 e2 e3
    rw [hsl] at e1
    refine kk p e s m args below meth cd H' _ lsA hX (hC.upd ha e2 e3 (cell_put (hi := hi) (hr := hr) (H := H) hs hc.2.2.2.2.2.2.2 q2 q3 q4 hap hk e1 fun j hj => ?_) (fun _ _ _ => rfl) (fun y hy z => upr_ne hr k (some x) hy z)) (fun q hq => ?_) hR
    · unfold fv upr
      by_cases e : j = k
      · subst e; simp [hf]; rfl
      · simp [e]
    · rcases List.mem_append.mp hq with h | h
      · exact hL q h
      · rw [List.mem_singleton] at h; subst h; exact Nat.le_add_right _ _
  rw [List.map_cons, List.map_cons, cv_r, cv_r, hC.adr ha]
  have hS : narrow f.type (.ref (ad E x)) = .ref (ad E x) ∧ s.fitsSlot cell.cls .none f.slot (.ref (ad E x)) = true := by
    rw [q2]
    refine hfit _ ?_ ?_
    · cases h : ty k <;> rw [h] at hty <;> first | rfl | simp [FieldType.isReference] at hty
    · cases h : ty k <;> rw [h] at hty <;> first | rfl | simp [FieldType.isReference] at hty
  exact W.putFinK hX.1 hX.2.1 hX.2.2.2.2.2.1 (hX.2.2.2.2.2.2.2.1 _ hl rfl _) hif hst (hdecl hfin hy2) (hX.2.2.2.2.2.2.1.trans hy1) hS q1 q3 (by rw [hsl]; exact k2_hasslot (q4 k hk)) rfl rfl hd g
end HROWS
end
section
/-! arrays, new objects, statics, copies -/
/-- an int array that may be read: ours, or one of the six that were there before -/
def AOK (E : ET) (n a N : Nat) : Prop := (a < n ∧ sh a = (10, N)) ∨ (∃ i : Nat, i < 6 ∧ a = 1000 + i ∧ N = eN E i)
theorem oi_clamp {j : Int} (h0 : 0 ≤ j) (hj : InR j) : (Int32.ofInt j).toNatClampNeg = j.toNat := by
  show (Int32.ofInt j).toInt.toNat = _
  rw [oi_toInt hj]
theorem oi_in {j : Int} {N : Nat} (h0 : 0 ≤ j) (h1 : j < N) (hj : InR j) : ¬ (Int32.ofInt j < 0 ∨ N ≤ (Int32.ofInt j).toNatClampNeg) := by
  rw [oi_clamp h0 hj, show (0 : Int32) = Int32.ofInt 0 from rfl, oi_lt hj InR_0]
  omega
theorem CC.arr {E : ET} {hi : HI} {hr : HR} {n a N : Nat} {H : Heap} {s : State} (h : CC E hi hr n H) (hK : KE E s) (hA : AOK E n a N) :
    ∃ cell : Cell, H[ad E a]? = some cell ∧ s.isArrayOf cell .int ∧ cell.vm ≠ .unknown ∧ (N ≤ cell.slots.size ∧ cell.slots.size.toInt32 = Int32.ofNat N) ∧ ∀ j : Nat, j < N → cell.slots[j]? = some (cv E (aI (hi a j))) := by
  rcases hA with ⟨ha, hs⟩ | ⟨i, hi6, rfl, rfl⟩
  · have h2 := (h.cell ha).2.1 (by rw [hs])
    rw [hs] at h2
    refine ⟨_, by rw [h.adr ha]; exact h2, hK.2.2.1.1 _ _, (fun q => by cases q), ⟨by rw [arrV_size]; exact Nat.le_refl _, by rw [arrV_size]⟩, fun j hj => ?_⟩
    rw [arrV_read _ _ hj]
  · obtain ⟨⟨scr, h1, h2, h3, h4a, h4b, h5, -⟩, hlt⟩ := hK.2.2.2.2.1 i hi6
    have e : ad E (1000 + i) = eSa E i := by unfold ad; rw [if_neg (by omega)]; rw [show 1000 + i - 1000 = i by omega]
    refine ⟨scr, by rw [e, h.2.2.1 _ hlt]; exact h1, h2, h3, ⟨h4a, h4b⟩, fun j hj => ?_⟩
    rw [h5 j hj, h.2.2.2.2.1 i hi6 j]
    rfl
section ARR
variable {E : ET} {M : MT} {cu su pc : Nat} {ls : List (Option AV)} {st : List AV} {hi : HI} {hr : HR} {n : Nat} {Q : QT} {idx a b N : Nat}
theorem aw_iaload {j : Int} (hd : decode (mC M) pc = .ok (.iaload, 1)) (hA : AOK E n a N) (h0 : 0 ≤ j) (h1 : j < N) (hj : InR j) (kk : AW E M cu su (pc + 1) ls (aI (hi a j.toNat) :: st) hi hr n Q) : AW E M cu su pc ls (aI j :: aR a :: st) hi hr n Q := by
  intro p e s m args below meth cd H locs lsA hX hC hL hR
  obtain ⟨cell, q1, q2, q3, q4, q5⟩ := hC.arr hX.2.2.2.2.2.2.2 hA
  have g := kk p e s m args below meth cd H locs lsA hX hC hL hR
  refine W.iald hX.1 hX.2.1 q1 q2 q3 (fun q => oi_in h0 h1 hj (q.imp id (fun z => Nat.le_trans q4.1 z))) (v := cv E (aI (hi a j.toNat))) ?_ rfl rfl hd g
  rw [oi_clamp h0 hj]
  exact q5 _ (by omega)
theorem aw_alen (hd : decode (mC M) pc = .ok (.arraylength, 1)) (hA : AOK E n a N) (kk : AW E M cu su (pc + 1) ls (aI (N : Int) :: st) hi hr n Q) : AW E M cu su pc ls (aR a :: st) hi hr n Q := by
  intro p e s m args below meth cd H locs lsA hX hC hL hR
  obtain ⟨cell, q1, q2, q3, q4, q5⟩ := hC.arr hX.2.2.2.2.2.2.2 hA
  have g := kk p e s m args below meth cd H locs lsA hX hC hL hR
  refine W.alen hX.1 hX.2.1 q1 q2 (n := Int32.ofInt (N : Int)) ?_ rfl rfl hd g
  rw [q4.2, oi_nI]
  rfl
theorem aw_iastore {j v : Int} (hd : decode (mC M) pc = .ok (.iastore, 1)) (ha : a < n) (hs : sh a = (10, N)) (h0 : 0 ≤ j) (h1 : j < N) (hj : InR j) (kk : AW E M cu su (pc + 1) ls st (up2 hi a j.toNat v) hr n Q) : AW E M cu su pc ls (aI v :: aI j :: aR a :: st) hi hr n Q := by
  intro p e s m args below meth cd H locs lsA hX hC hL hR
  have h2 := (hC.cell ha).2.1 (by rw [hs])
  rw [hs] at h2
  rw [List.map_cons, List.map_cons, List.map_cons, cv_r, cv_i, cv_i, hC.adr ha]
  refine W.iast hX.1 hX.2.1 h2 (hX.2.2.2.2.2.2.2.2.2.1.1 _ _) (fun q => by cases q) (by rw [arrV_size]; exact oi_in h0 h1 hj) rfl rfl hd fun H' e1 e2 e3 => ?_
  rw [oi_clamp h0 hj, arrV_store] at e1
  refine kk p e s m args below meth cd H' _ lsA hX (hC.upd ha e2 e3 ⟨fun q => ?_, fun _ => ?_, fun q => ?_⟩ (fun x hx y => up2_ne hi _ v hx y) (fun _ _ _ => rfl)) (fun q hq => ?_) hR
  · rw [hs] at q; dsimp only at q; omega
  · rw [e1, hs]
    congr 2
    funext y
    unfold updV up2
    by_cases e : y = j.toNat
    · subst e; simp; rfl
    · simp [e]
  · rw [hs] at q; dsimp only at q; omega
  · rcases List.mem_append.mp hq with h | h
    · exact hL q h
    · rw [List.mem_singleton] at h; subst h; exact Nat.le_add_right _ _
theorem aw_aaload {j : Int} {x : Nat} (hd : decode (mC M) pc = .ok (.aaload, 1)) (ha : a < n) (hs : sh a = (11, N)) (h0 : 0 ≤ j) (h1 : j < N) (hj : InR j) (hx : hr a j.toNat = some x) (kk : AW E M cu su (pc + 1) ls (aR x :: st) hi hr n Q) : AW E M cu su pc ls (aI j :: aR a :: st) hi hr n Q := by
  intro p e s m args below meth cd H locs lsA hX hC hL hR
  have h2 := (hC.cell ha).2.2 (by rw [hs])
  rw [hs] at h2
  have g := kk p e s m args below meth cd H locs lsA hX hC hL hR
  rw [List.map_cons, List.map_cons, cv_r, cv_i, hC.adr ha]
  refine W.aald hX.1 hX.2.1 h2 (hX.2.2.2.2.2.2.2.2.2.2.1.1 _ _) rfl (fun q => by cases q) (by rw [arrV_size]; exact oi_in h0 h1 hj) (v := cv E (aR x)) ?_ rfl rfl hd g
  rw [oi_clamp h0 hj, arrV_read _ _ (show j.toNat < N by omega), hx]
theorem aw_aastore {j : Int} {x : Nat} (hd : decode (mC M) pc = .ok (.aastore, 1)) (ha : a < n) (hs : sh a = (11, N)) (hx : x < n) (hsx : sh x = (4, 11)) (h0 : 0 ≤ j) (h1 : j < N) (hj : InR j) (kk : AW E M cu su (pc + 1) ls st hi (upr hr a j.toNat (some x)) n Q) : AW E M cu su pc ls (aR x :: aI j :: aR a :: st) hi hr n Q := by
  intro p e s m args below meth cd H locs lsA hX hC hL hR
  have hKE : KE E s := hX.2.2.2.2.2.2.2
  have h2 := (hC.cell ha).2.2 (by rw [hs])
  rw [hs] at h2
  obtain ⟨cellV, g1, g2, g3, -⟩ := (hC.cell hx).1 (by rw [hsx]; decide)
  rw [hsx] at g2
  have hcls := (hKE.2.1 4 (RX4, TX4, 11) rfl).2
  obtain ⟨kA, comp, k1, k2, k3, -⟩ := hKE.2.2.2.1.2
  have hcomp : comp = eC E 4 := Option.some.inj (k3.symm.trans hcls.1)
  subst hcomp
  obtain ⟨kC, hkC, -⟩ := hcls.2
  rw [List.map_cons, List.map_cons, List.map_cons, cv_r, cv_r, cv_i, hC.adr ha, hC.adr hx]
  refine W.aast hX.1 hX.2.1 h2 (fun q h => by cases h) (fun h => by cases h) k1 k2 rfl hkC ⟨?_, ?_⟩ g1 (fun q h => by rw [g3] at h; cases h) (by rw [g2]; exact hkC) (by rw [g2]; exact va_assign hcls) rfl rfl hd fun H' e1 e2 e3 => ?_
  · exact fun q => oi_in h0 h1 hj (Or.inl q)
  · rw [arrV_size]; exact Nat.not_le.mp fun q => oi_in h0 h1 hj (Or.inr q)
  rw [oi_clamp h0 hj, arrV_store] at e1
  refine kk p e s m args below meth cd H' _ lsA hX (hC.upd ha e2 e3 ⟨fun q => ?_, fun q => ?_, fun _ => ?_⟩ (fun _ _ _ => rfl) (fun y hy z => upr_ne hr _ (some x) hy z)) (fun q hq => ?_) hR
  · rw [hs] at q; dsimp only at q; omega
  · rw [hs] at q; dsimp only at q; omega
  · rw [e1, hs]
    congr 2
    funext y
    unfold updV upr
    by_cases e : y = j.toNat
    · subst e; simp; rw [cv_r, hC.adr hx]
    · simp [e]
  · rcases List.mem_append.mp hq with h | h
    · exact hL q h
    · rw [List.mem_singleton] at h; subst h; exact Nat.le_add_right _ _
theorem aw_gets {i : Nat} (hd : decode (mC M) pc = .ok (.getstatic idx, 3)) (hi5 : i < 5) (hl : (Cond.fieldLink (mY M).cls idx "PagePairs" (stn i) "[I" ∈ lw_tbl) ∨ ∃ host : String, Cond.fieldLinkNest (mY M).cls idx "PagePairs" (stn i) "[I" host ∈ lw_tbl)
    (kk : AW E M cu su (pc + 3) ls (aR (1000 + i) :: st) hi hr n Q) : AW E M cu su pc ls st hi hr n Q := by
  intro p e s m args below meth cd H locs lsA hX hC hL hR
  have hKE : KE E s := hX.2.2.2.2.2.2.2
  obtain ⟨cf, kf, fi, f, a, cell, h1, h2, h3, h4, h5, h6, h7, h8⟩ := hKE.2.2.2.2.2.1 i hi5
  have g := kk p e s m args below meth cd H locs lsA hX hC hL hR
  have ea : ad E (1000 + i) = eSa E i := by unfold ad; rw [if_neg (by omega)]; rw [show 1000 + i - 1000 = i by omega]
  rw [List.map_cons, cv_r, ea] at g
  have hH : H[a]? = some cell := by rw [hC.2.2.1 a (Nat.not_le.mp h8)]; exact h5
  rcases hl with hl | ⟨host, hl⟩
  · exact W.gets hX.1 hX.2.1 hX.2.2.2.2.2.1 (hKE.1 _ hl rfl _) h1 h2 h3 h4 hH (fun e => by rw [e] at h6; cases h6) h7 rfl hd g
  · exact va_WgetsN hX.1 hX.2.1 hX.2.2.2.2.2.1 (hKE.1 _ hl rfl _) h1 h2 h3 h4 hH (fun e => by rw [e] at h6; cases h6) h7 rfl hd g
/-- a heap that has grown by one cell -/
theorem CC.push {H H' : Heap} (hC : CC E hi hr n H) (hn : n < 125) (h1 : H'.size = H.size + 1) (h2 : ∀ q : Nat, q < H.size → H'[q]? = H[q]?) (hc : cellOK E hi hr n H') : CC E hi hr (n + 1) H' := by
  obtain ⟨g1, g2, g3, g4, g5, g6⟩ := hC
  refine ⟨by omega, by omega, fun q hq => (h2 q (by omega)).trans (g3 q hq), fun k hk => ?_, g5, fun k hk => g6 k (by omega)⟩
  by_cases e : k = n
  · subst e; exact hc
  · exact (g4 k (by omega)).kept (h2 _ (by omega)) (fun _ => rfl) (fun _ => rfl)
theorem aw_new {c : Nat} {C : String} {T : u_T} {N : Nat} {ty : Nat → FieldType} (hd : decode (mC M) pc = .ok (.new idx, 3)) (hc : CI c C T N ty) (hn : n < 125) (hs : sh n = (c, N)) (hcl : Cond.classLink (mY M).cls idx C ∈ lw_tbl) (hin : Cond.instantiable C N ∈ lw_tbl) (hit : Cond.initialized C ∈ lw_tbl)
    (hw1 : cu + 1 ≤ mMc M) (hw2 : su + N ≤ mMs M) (kk : AW E M (cu + 1) (su + N) (pc + 3) ls (aR n :: st) hi hr (n + 1) Q) : AW E M cu su pc ls st hi hr n Q := by
  intro p e s m args below meth cd H locs lsA hX hC hL hR
  have hKE : KE E s := hX.2.2.2.2.2.2.2
  obtain ⟨hc1, hc2, hc3, hc4, hc5, hc6, hc7, hc8⟩ := hc
  have hts : ∀ w ∈ u_ws C T N, w.before #[] s = true := fun w hw => hKE.1 w (hc2 w hw).1 (hc2 w hw).2 _
  have hKn := hKE.2.1 c _ hc1
  have hfc := hKn.2.1
  dsimp only at hKn hfc
  refine W.newcK hX.1 hX.2.1 hX.2.2.2.2.2.1 (hKE.1 _ hcl rfl _) (hKE.1 _ hin rfl _) (hKE.1 _ hit rfl _) rfl hd hw1 hw2 hfc (h := eB E + n) hC.1 fun H' kC hkC e1 e2 e3 => ?_
  have g := kk p e s m args below meth cd H' locs lsA hX (hC.push hn (by rw [e2, hC.1]) (fun q hq => e3 q (by rw [← hC.1]; exact hq)) ⟨fun _ => ?_, fun q => ?_, fun q => ?_⟩) hL hR
  · rw [List.map_cons, cv_r, ad_own E (by omega)] at g
    exact g
  · rw [hs]
    refine (u_born ty hts (fun _ h => h) hKn hkC e1 hc3).to fun j hj => ?_
    rw [hc6 j hj]
    unfold fv
    obtain ⟨z1, z2⟩ := hC.2.2.2.2.2 n (Nat.le_refl n) (by omega) j
    rw [z1, z2]
    rfl
  · rw [hs] at q; dsimp only at q; omega
  · rw [hs] at q; dsimp only at q; omega
theorem aw_newarray {N : Nat} (hd : decode (mC M) pc = .ok (.newarray .int, 2)) (hn : n < 125) (hs : sh n = (10, N)) (hN : N < 2000) (hin : Cond.arrayClass .int ∈ lw_tbl) (hw1 : cu + 1 ≤ mMc M) (hw2 : su + N ≤ mMs M)
    (kk : AW E M (cu + 1) (su + N) (pc + 2) ls (aR n :: st) hi hr (n + 1) Q) : AW E M cu su pc ls (aI (N : Int) :: st) hi hr n Q := by
  intro p e s m args below meth cd H locs lsA hX hC hL hR
  have hKE : KE E s := hX.2.2.2.2.2.2.2
  have hj : InR (N : Int) := ⟨by omega, by omega⟩
  have hcl : (Int32.ofInt (N : Int)).toNatClampNeg = N := by rw [oi_clamp (by omega) hj]; rfl
  refine W.newa hX.1 hX.2.1 (atype := .int) (hKE.1 _ hin rfl _) rfl hd rfl (fun q => oi_in (j := (N : Int)) (N := N + 1) (by omega) (by omega) hj (Or.inl q)) (by rw [hcl]; show N * 4 ≤ _; omega) hw1 (by rw [hcl]; exact hw2) fun cA kA comp h1 h2 h3 => ?_
  have hcA : cA = eA E := Option.some.inj (h1.symm.trans hKE.2.2.1.2)
  subst hcA
  rw [hcl]
  have g := kk p e s m args below meth cd (H.push { cls := eA E, slots := Array.replicate N (defaultValue .int), vm := .none }) locs lsA hX (hC.push hn (by simp) (fun q hq => by rw [Array.getElem?_push, if_neg (Nat.ne_of_lt hq)]) ⟨fun q => ?_, fun _ => ?_, fun q => ?_⟩) hL hR
  · rw [List.map_cons, cv_r, ad_own E (by omega), ← hC.1] at g
    exact g
  · rw [hs] at q; dsimp only at q; omega
  · rw [← hC.1, hs]
    rw [show (H.push { cls := eA E, slots := Array.replicate N (defaultValue .int), vm := .none })[H.size]? = some { cls := eA E, slots := Array.replicate N (defaultValue .int), vm := .none } by simp]
    rw [arrV_new]
    congr 2
    funext j
    rw [(hC.2.2.2.2.2 n (Nat.le_refl n) (by omega) j).1]
    rfl
  · rw [hs] at q; dsimp only at q; omega
theorem aw_anew {N : Nat} (hd : decode (mC M) pc = .ok (.anewarray idx, 3)) (hn : n < 125) (hs : sh n = (11, N)) (hN : N < 2000) (hcl0 : Cond.classLink (mY M).cls idx "PagePairs$State" ∈ lw_tbl) (hw1 : cu + 1 ≤ mMc M) (hw2 : su + N ≤ mMs M)
    (kk : AW E M (cu + 1) (su + N) (pc + 3) ls (aR n :: st) hi hr (n + 1) Q) : AW E M cu su pc ls (aI (N : Int) :: st) hi hr n Q := by
  intro p e s m args below meth cd H locs lsA hX hC hL hR
  have hKE : KE E s := hX.2.2.2.2.2.2.2
  have hj : InR (N : Int) := ⟨by omega, by omega⟩
  have hcl : (Int32.ofInt (N : Int)).toNatClampNeg = N := by rw [oi_clamp (by omega) hj]; rfl
  refine W.anew hX.1 hX.2.1 hX.2.2.2.2.2.1 (hKE.1 _ hcl0 rfl _) (va_AO.use hKE.2.2.2.2.2.2) rfl hd rfl (fun q => oi_in (j := (N : Int)) (N := N + 1) (by omega) (by omega) hj (Or.inl q)) (by rw [hcl]; omega) hw1 (by rw [hcl]; exact hw2) fun cA kA comp h1 h2 h3 h4 => ?_
  obtain ⟨kA', comp', k1, k2, k3, k4⟩ := hKE.2.2.2.1.2
  have hcA : cA = eS E := Option.some.inj (h1.symm.trans k4)
  subst hcA
  rw [hcl]
  have g := kk p e s m args below meth cd (H.push { cls := eS E, slots := Array.replicate N .null, vm := .none }) locs lsA hX (hC.push hn (by simp) (fun q hq => by rw [Array.getElem?_push, if_neg (Nat.ne_of_lt hq)]) ⟨fun q => ?_, fun q => ?_, fun _ => ?_⟩) hL hR
  · rw [List.map_cons, cv_r, ad_own E (by omega), ← hC.1] at g
    exact g
  · rw [hs] at q; dsimp only at q; omega
  · rw [hs] at q; dsimp only at q; omega
  · rw [← hC.1, hs]
    rw [show (H.push { cls := eS E, slots := Array.replicate N .null, vm := .none })[H.size]? = some { cls := eS E, slots := Array.replicate N .null, vm := .none } by simp]
    rw [arrV_new]
    congr 2
    funext j
    rw [(hC.2.2.2.2.2 n (Nat.le_refl n) (by omega) j).2]
    rfl
theorem aw_objInit (hd : decode (mC M) pc = .ok (.invokespecial idx, 3)) (hl : Cond.methodLink (mY M).cls idx Lib.objectInit ∈ lw_tbl) (h2 : Cond.instanceMethod Lib.objectInit ∈ lw_tbl) (h3 : Cond.code Lib.objectInit ⟨#[0xb1]⟩ 1 none ∈ lw_tbl) (hF : 1 ≤ mF M) (hO : 2 * st.length + 12 ≤ mO M)
    (kk : AW E M cu su (pc + 3) ls st hi hr n Q) : AW E M cu su pc ls (aR a :: st) hi hr n Q := by
  intro p e s m args below meth cd H locs lsA hX hC hL hR
  have hKE : KE E s := hX.2.2.2.2.2.2.2
  have g := kk p e s m args below meth cd H locs lsA hX hC hL hR
  refine W.objInit hX.1 hX.2.1 hX.2.2.2.2.2.1 (hKE.1 _ hl rfl _) (hKE.1 _ h2 rfl _) (hKE.1 _ h3 rfl _) rfl (hR.1.trans hX.2.2.1.symm) rfl hd hF ?_ g
  have hcat : ((st.map (cv E)).map fun v => v.category).sum ≤ 2 * st.length := by
    clear hd kk g hO
    induction st with
    | nil => exact Nat.le_refl _
    | cons a t ih => simp only [List.map_cons, List.sum_cons, List.length_cons]; have := cv_cat2 E a; omega
  show 2 * 0 + _ + 12 ≤ mO M
  omega
def cpy (f : HI) (a b m : Nat) : HI := fun x y => if x = b ∧ y < m then f a y else f x y
theorem aw_copy0 {N1 m0 : Nat} (hd : decode (mC M) pc = .ok (.invokestatic idx, 3)) (hl : Cond.methodLink (mY M).cls idx arraycopyName ∈ lw_tbl) (h2 : Cond.native arraycopyName ∈ lw_tbl) (h3 : Cond.static arraycopyName ∈ lw_tbl) (h4 : Cond.initialized "java/lang/System" ∈ lw_tbl)
    (hA : AOK E n a N) (hb : b < n) (hs : sh b = (10, N1)) (hm : m0 ≤ N) (hm1 : m0 ≤ N1) (hm2 : m0 < 2000) (hF : 1 ≤ mF M) (hO : 2 * st.length + 20 ≤ mO M)
    (kk : AW E M cu su (pc + 3) ls st (cpy hi a b m0) hr n Q) : AW E M cu su pc ls (aI (m0 : Int) :: aI 0 :: aR b :: aI 0 :: aR a :: st) hi hr n Q := by
  intro p e s m args below meth cd H locs lsA hX hC hL hR
  have hKE : KE E s := hX.2.2.2.2.2.2.2
  obtain ⟨cs, q1, q2, q3, q4, q5⟩ := hC.arr hKE hA
  have hB := (hC.cell hb).2.1 (by rw [hs])
  rw [hs] at hB
  have hj : InR (m0 : Int) := ⟨by omega, by omega⟩
  have hcl : (Int32.ofInt (m0 : Int)).toNatClampNeg = m0 := by rw [oi_clamp (by omega) hj]; rfl
  have hci : (Int32.ofInt (m0 : Int)).toInt = (m0 : Int) := oi_toInt hj
  have h00 : (Int32.ofInt 0).toNatClampNeg = 0 := rfl
  obtain ⟨q2a, ks, hks, sc, hsk⟩ := q2
  obtain ⟨-, kd, hkd, dc, hdk⟩ := hKE.2.2.1.1 N1 (fun j => cv E (.inl (hi b j)))
  have hcat : ((st.map (cv E)).map fun v => v.category).sum ≤ 2 * st.length := by
    clear hd kk hO
    induction st with
    | nil => exact Nat.le_refl _
    | cons a t ih => simp only [List.map_cons, List.sum_cons, List.length_cons]; have := cv_cat2 E a; omega
  intro T hT X
  obtain ⟨vm', X', step⟩ := X.arraycopy hX.1 hX.2.2.2.2.2.1 (hKE.1 _ hl rfl _) (hKE.1 _ h2 rfl _) (hKE.1 _ h3 rfl _) (hKE.1 _ h4 rfl _) (src := ad E a) (dst := ad E b) (cs := cs) (cd := arrV (eA E) N1 (fun j => cv E (.inl (hi b j)))) (srcPos := Int32.ofInt 0) (destPos := Int32.ofInt 0) (n := Int32.ofInt (m0 : Int))
    (by rw [hT]; exact q1) (by rw [hT, hC.adr hb]; exact hB) q2a (fun _ h => by cases h) q3 (fun h => by cases h) hks hkd hsk hdk (by rfl) (by decide) (by decide) (fun q => oi_in (j := (m0 : Int)) (N := m0 + 1) (by omega) (by omega) hj (Or.inl q))
    (by rw [hci, show (Int32.ofInt 0).toInt = 0 from rfl]; have := q4.1; omega) (by rw [hci, arrV_size, show (Int32.ofInt 0).toInt = 0 from rfl]; omega)
    (fun vm₁ _ i hi2 => by
      rw [hcl] at hi2
      have e : cs.slots.getD ((Int32.ofInt 0).toNatClampNeg + i) .null = .int (Int32.ofInt (hi a i)) := by
        rw [h00, Array.getD_eq_getD_getElem?, Nat.zero_add, q5 i (by omega)]
        rfl
      rw [e]
      exact ⟨rfl, trivial⟩)
    (g := F0 m pc lsA ((aI (m0 : Int) :: aI 0 :: aR b :: aI 0 :: aR a :: st).map (cv E))) rfl (hR.1.trans hX.2.2.1.symm) (rest := st.map (cv E)) rfl (by rw [hX.2.1]; exact hd) hF (by show 2 * 0 + _ + (7 + 11) ≤ mO M; omega)
  have e1 : copied cs (arrV (eA E) N1 (fun j => cv E (.inl (hi b j)))) (Int32.ofInt 0) (Int32.ofInt 0) (Int32.ofInt (m0 : Int)) = arrV (eA E) N1 (fun j => cv E (.inl (va_cpy (hi a) (hi b) 0 0 m0 j))) := by
    have := va_copiedX (fun z => cv E (.inl z)) cs (eA E) (n0 := N) (n1 := N1) (sp := 0) (dp := 0) (n := m0) (hi a) (hi b) q5 (by omega)
    unfold copied
    rw [hcl, h00]
    exact this
  rw [e1] at X' step
  have hlt : eB E + b < H.size := (Array.getElem?_eq_some_iff.mp hB).1
  have hheap : ((T.setVm vm').setCell (ad E b) (arrV (eA E) N1 (fun j => cv E (.inl (va_cpy (hi a) (hi b) 0 0 m0 j))))).heap = H.setIfInBounds (eB E + b) (arrV (eA E) N1 (fun j => cv E (.inl (va_cpy (hi a) (hi b) 0 0 m0 j)))) := by rw [hC.adr hb, ← hT]; rfl
  have hCC : CC E (cpy hi a b m0) hr n (H.setIfInBounds (eB E + b) (arrV (eA E) N1 (fun j => cv E (.inl (va_cpy (hi a) (hi b) 0 0 m0 j))))) := by
    refine hC.upd hb (by simp) (fun q hq => by simp [Array.getElem?_setIfInBounds, Ne.symm hq]) ⟨fun q => ?_, fun _ => ?_, fun q => ?_⟩ (fun x hx y => by simp [cpy, hx]) (fun _ _ _ => rfl)
    · rw [hs] at q; dsimp only at q; omega
    · rw [hs]
      rw [show (H.setIfInBounds (eB E + b) (arrV (eA E) N1 (fun j => cv E (.inl (va_cpy (hi a) (hi b) 0 0 m0 j)))))[eB E + b]? = some (arrV (eA E) N1 (fun j => cv E (.inl (va_cpy (hi a) (hi b) 0 0 m0 j)))) by simp [Array.getElem?_setIfInBounds, hlt]]
      congr 2
      funext j
      unfold va_cpy cpy
      by_cases e : j < m0
      · simp [e]
      · simp [e]
    · rw [hs] at q; dsimp only at q; omega
  obtain ⟨t, a1, b1⟩ := kk p e s m args below meth cd _ _ lsA hX hCC (fun q hq => by
    rcases List.mem_append.mp hq with h | h
    · exact hL q h
    · obtain ⟨z, -, hz⟩ := List.mem_map.mp h
      rw [← hz, hC.adr hb]
      exact Nat.le_add_right _ _) hR _ hheap X'
  exact ⟨t, step t a1, b1⟩
end ARR
end
section
/-! calls of the abstract machine -/
/-- what a program decides of a call from the class own by the entry idx -/
def CL (own : String) (idx : Nat) (M : MT) (k : Nat) : Prop :=
  ((Cond.methodLink own idx (mY M) ∈ lw_tbl) ∨ ∃ host : String, Cond.methodLinkNest own idx (mY M) host ∈ lw_tbl) ∧ Cond.code (mY M) (mC M) (mL M) (mT M) ∈ lw_tbl ∧ Cond.initialized (mY M).cls ∈ lw_tbl ∧
  ((mY M).cls ≠ "java/lang/invoke/MethodHandle" ∧ (mY M).cls ≠ "java/lang/invoke/VarHandle") ∧ (parseMethodDescriptor (mY M).desc).map (fun d => d.parameters.length) = some k
def CLV (own : String) (idx : Nat) (M : MT) (k : Nat) : Prop := CL own idx M k ∧ Cond.instanceMethod (mY M) ∈ lw_tbl ∧ Cond.selects (mY M).cls (mY M) (mY M) ∈ lw_tbl
def CLS (own : String) (idx : Nat) (M : MT) (k : Nat) : Prop := CL own idx M k ∧ Cond.static (mY M) ∈ lw_tbl
def CLI (own : String) (idx : Nat) (M : MT) (k : Nat) : Prop := CL own idx M k ∧ (mY M).name = "<init>" ∧ Cond.instanceMethod (mY M) ∈ lw_tbl ∧ mT M = none
/-- the callee's room in the caller's -/
def fitsIn (M M2 : MT) : Prop := mF M2 + 1 ≤ mF M ∧ 8 + (mL M2 + 11) + mO M2 ≤ mO M
/-- ends: exactly so; a number, and what holds; nothing, and what holds -/
def EX (r1 : Option AV) (h1 : HI) (r2 : HR) (n1 : Nat) : QT := fun r hi hr n => r = r1 ∧ hi = h1 ∧ hr = r2 ∧ n = n1
def PI (P : Int → HI → HR → Nat → Prop) : QT := fun r hi hr n => ∃ v : Int, r = some (aI v) ∧ P v hi hr n
def PV (P : HI → HR → Nat → Prop) : QT := fun r hi hr n => r = none ∧ P hi hr n
theorem EX.rf {r1 : Option AV} {h1 : HI} {r2 : HR} {n1 : Nat} : EX r1 h1 r2 n1 r1 h1 r2 n1 := ⟨rfl, rfl, rfl, rfl⟩
theorem st_cat (E : ET) (st : List AV) : ((st.map (cv E)).map fun v => v.category).sum ≤ 2 * st.length := by
  induction st with
  | nil => exact Nat.le_refl _
  | cons a t ih => simp only [List.map_cons, List.sum_cons, List.length_cons]; have := cv_cat2 E a; omega
section CALLS
variable {E : ET} {M M2 : MT} {cu su pc : Nat} {ls : List (Option AV)} {st : List AV} {hi : HI} {hr : HR} {n : Nat} {Q Q2 : QT} {idx : Nat}
theorem code_ws {s : State} (hK : KE E s) (h : Cond.code (mY M2) (mC M2) (mL M2) (mT M2) ∈ lw_tbl) : ∀ w ∈ [Cond.code (mY M2) (mC M2) (mL M2) (mT M2)], ∀ (a' : Array Value) (U : State), s.WarmedH U.vm → w.before a' U = true := by
  intro w hw a' U hW
  rw [List.mem_singleton] at hw
  subst hw
  exact (hK.warm hW).1 _ h rfl a'
theorem pc_blind (as : List AV) : FrameBlind (fun v U => v = (as.map (cv E)).toArray ∧ CC E hi hr n U.heap ∧ KE E U) := fun a U g mk q => ⟨q.1, q.2.1, KE.same (s := U) (U := U.calling g mk a) rfl q.2.2⟩
theorem aw_after {p : Program} {e : Env} {s : State} {m : MethodId} {args a2 : Array Value} {below : List Frame} {meth : Method} {c : Code} {H : Heap} {locs : List Loc} {lsA : Array Slot} {st0 : List Value}
    (hR : va_Run p (eL E) e (mR M) s m args below meth c H locs cu su (mMc M2) (mMs M2) (F0 m pc lsA st0) (st.map (cv E)) (QA E Q2 a2) (fr E)) (hX : Cx E M p s m meth c) (hL : ∀ q ∈ locs, fr E q.base) (hl : LR E (mL M) ls lsA)
    (kk : ∀ (r : Option AV) (hi1 : HI) (hr1 : HR) (n1 : Nat), Q2 r hi1 hr1 n1 → AW E M (cu + mMc M2) (su + mMs M2) (pc + 3) ls (r.toList ++ st) hi1 hr1 n1 Q) :
    W p (eL E) e (mR M) s m args below meth c H locs cu su (MQ below (QA E Q) args s (mMc M) (mMs M) (fr E)) (F0 m pc lsA st0) := by
  intro T hT X
  obtain ⟨v, st₀, t, T', L, h0, X', hL2, e1, e2, ⟨r, hi1, hr1, n1, hv, hq, hC⟩, stp⟩ := hR T hT X
  cases hv
  rw [← e1] at hC
  have g := kk r hi1 hr1 n1 hq p e s m args below meth c T'.heap (locs ++ L) lsA hX hC (fun q h => by
    rcases List.mem_append.mp h with h | h
    · exact hL q h
    · exact hL2 q h) hl
  obtain ⟨t2, a1, b1⟩ := g T' rfl X'
  refine ⟨t2, stp t2 ?_, b1⟩
  have e3 : (r.toList ++ st).map (cv E) = (r.map (cv E)).toList ++ st.map (cv E) := by cases r <;> simp
  rw [e3] at a1
  exact a1
theorem recv {s : State} {H : Heap} {b c N : Nat} {C : String} {T : u_T} (hK : KE E s) (hC : CC E hi hr n H) (hb : b < n) (hs : sh b = (c, N)) (hc : vwCl[c]? = some (C, T, N)) : ∃ cellB : Cell, H[ad E b]? = some cellB ∧ cellB.vm.isStatics = false ∧ s.vm.findClass C = some cellB.cls := by
  have hc10 : c < 10 := Nat.lt_of_lt_of_le (List.getElem?_eq_some_iff.mp hc).1 (by decide : vwCl.length ≤ 10)
  obtain ⟨cell, q1, q2, q3, -⟩ := (hC.cell hb).1 (by rw [hs]; exact hc10)
  rw [hs] at q2
  refine ⟨cell, by rw [hC.adr hb]; exact q1, by rw [q3]; rfl, ?_⟩
  rw [q2]
  exact (hK.2.1 c _ hc).2.1
theorem aw_S1 {v1 : AV} (hd : decode (mC M) pc = .ok (.invokestatic idx, 3)) (hc : CLS (mY M).cls idx M2 1) (hf : fitsIn M M2) (hM : AMet E M2 [v1] hi hr n Q2) (hw1 : cu + mMc M2 ≤ mMc M) (hw2 : su + mMs M2 ≤ mMs M) (hst : st.length ≤ 4)
    (kk : ∀ (r : Option AV) (hi1 : HI) (hr1 : HR) (n1 : Nat), Q2 r hi1 hr1 n1 → AW E M (cu + mMc M2) (su + mMs M2) (pc + 3) ls (r.toList ++ st) hi1 hr1 n1 Q) : AW E M cu su pc ls (v1 :: st) hi hr n Q := by
  intro p e s m args below meth c H locs lsA hX hC hL hR
  have hK : KE E s := hX.2.2.2.2.2.2.2
  obtain ⟨⟨h1, h2, h3, h4, h5⟩, h6⟩ := hc
  have hlen : ∀ sig, parseMethodDescriptor (mY M2).desc = some sig → 1 = sig.parameters.length := fun sig h => by rw [h] at h5; exact (Option.some.inj h5).symm
  have hp : PreS s H (fun v U => v = (([v1] : List AV).map (cv E)).toArray ∧ CC E hi hr n U.heap ∧ KE E U) (([v1] : List AV).map (cv E)) := ⟨pc_blind [v1], fun U hU hW => ⟨rfl, by rw [hU]; exact hC, hK.warm hW⟩⟩
  have S : CallFix p m c (mC M) (mL M) s args [] (mY M).cls := ⟨hX.1, hX.2.1, hX.2.2.1, hX.2.2.2.2.2.1, fun w h => by cases h⟩
  have hW : 2 * (F0 m pc lsA ((v1 :: st : List AV).map (cv E))).monitorRoom + ((st.map (cv E)).map fun v => v.category).sum ≤ 8 := by have := st_cat E st; show 2 * 0 + _ ≤ 8; omega
  rcases h1 with h1 | ⟨host, h1⟩
  · exact aw_after (va_runS (As := ([v1] : List AV).map (cv E)) (rest := st.map (cv E)) S hM ⟨⟨rfl, rfl, hf.1, hf.2, code_ws hK h2, List.mem_singleton.mpr rfl, hK.1 _ h2 rfl _, hK.1 _ h3 rfl _, h4, hlen, hK.1 _ h1 rfl _⟩, hK.1 _ h6 rfl _⟩ hp rfl rfl hR.1 rfl hW hd ⟨hw1, hw2⟩) hX hL hR kk
  · exact aw_after (va_runSN (As := ([v1] : List AV).map (cv E)) (rest := st.map (cv E)) S hM ⟨⟨⟨rfl, rfl, hf.1, hf.2, code_ws hK h2, List.mem_singleton.mpr rfl⟩, hK.1 _ h2 rfl _, hK.1 _ h3 rfl _, h4, hlen, hK.1 _ h1 rfl _⟩, hK.1 _ h6 rfl _, trivial⟩ hp rfl rfl hR.1 rfl hW hd ⟨hw1, hw2⟩) hX hL hR kk
theorem aw_S2 {v1 v2 : AV} (hd : decode (mC M) pc = .ok (.invokestatic idx, 3)) (hc : CLS (mY M).cls idx M2 2) (hf : fitsIn M M2) (hM : AMet E M2 [v1, v2] hi hr n Q2) (hw1 : cu + mMc M2 ≤ mMc M) (hw2 : su + mMs M2 ≤ mMs M) (hst : st.length ≤ 4)
    (kk : ∀ (r : Option AV) (hi1 : HI) (hr1 : HR) (n1 : Nat), Q2 r hi1 hr1 n1 → AW E M (cu + mMc M2) (su + mMs M2) (pc + 3) ls (r.toList ++ st) hi1 hr1 n1 Q) : AW E M cu su pc ls (v2 :: v1 :: st) hi hr n Q := by
  intro p e s m args below meth c H locs lsA hX hC hL hR
  have hK : KE E s := hX.2.2.2.2.2.2.2
  obtain ⟨⟨h1, h2, h3, h4, h5⟩, h6⟩ := hc
  have hlen : ∀ sig, parseMethodDescriptor (mY M2).desc = some sig → 2 = sig.parameters.length := fun sig h => by rw [h] at h5; exact (Option.some.inj h5).symm
  have hp : PreS s H (fun v U => v = (([v1, v2] : List AV).map (cv E)).toArray ∧ CC E hi hr n U.heap ∧ KE E U) (([v1, v2] : List AV).map (cv E)) := ⟨pc_blind [v1, v2], fun U hU hW => ⟨rfl, by rw [hU]; exact hC, hK.warm hW⟩⟩
  have S : CallFix p m c (mC M) (mL M) s args [] (mY M).cls := ⟨hX.1, hX.2.1, hX.2.2.1, hX.2.2.2.2.2.1, fun w h => by cases h⟩
  have hW : 2 * (F0 m pc lsA ((v2 :: v1 :: st : List AV).map (cv E))).monitorRoom + ((st.map (cv E)).map fun v => v.category).sum ≤ 8 := by have := st_cat E st; show 2 * 0 + _ ≤ 8; omega
  rcases h1 with h1 | ⟨host, h1⟩
  · exact aw_after (va_runS (As := ([v1, v2] : List AV).map (cv E)) (rest := st.map (cv E)) S hM ⟨⟨rfl, rfl, hf.1, hf.2, code_ws hK h2, List.mem_singleton.mpr rfl, hK.1 _ h2 rfl _, hK.1 _ h3 rfl _, h4, hlen, hK.1 _ h1 rfl _⟩, hK.1 _ h6 rfl _⟩ hp rfl rfl hR.1 rfl hW hd ⟨hw1, hw2⟩) hX hL hR kk
  · exact aw_after (va_runSN (As := ([v1, v2] : List AV).map (cv E)) (rest := st.map (cv E)) S hM ⟨⟨⟨rfl, rfl, hf.1, hf.2, code_ws hK h2, List.mem_singleton.mpr rfl⟩, hK.1 _ h2 rfl _, hK.1 _ h3 rfl _, h4, hlen, hK.1 _ h1 rfl _⟩, hK.1 _ h6 rfl _, trivial⟩ hp rfl rfl hR.1 rfl hW hd ⟨hw1, hw2⟩) hX hL hR kk
theorem aw_S3 {v1 v2 v3 : AV} (hd : decode (mC M) pc = .ok (.invokestatic idx, 3)) (hc : CLS (mY M).cls idx M2 3) (hf : fitsIn M M2) (hM : AMet E M2 [v1, v2, v3] hi hr n Q2) (hw1 : cu + mMc M2 ≤ mMc M) (hw2 : su + mMs M2 ≤ mMs M) (hst : st.length ≤ 4)
    (kk : ∀ (r : Option AV) (hi1 : HI) (hr1 : HR) (n1 : Nat), Q2 r hi1 hr1 n1 → AW E M (cu + mMc M2) (su + mMs M2) (pc + 3) ls (r.toList ++ st) hi1 hr1 n1 Q) : AW E M cu su pc ls (v3 :: v2 :: v1 :: st) hi hr n Q := by
  intro p e s m args below meth c H locs lsA hX hC hL hR
  have hK : KE E s := hX.2.2.2.2.2.2.2
  obtain ⟨⟨h1, h2, h3, h4, h5⟩, h6⟩ := hc
  have hlen : ∀ sig, parseMethodDescriptor (mY M2).desc = some sig → 3 = sig.parameters.length := fun sig h => by rw [h] at h5; exact (Option.some.inj h5).symm
  have hp : PreS s H (fun v U => v = (([v1, v2, v3] : List AV).map (cv E)).toArray ∧ CC E hi hr n U.heap ∧ KE E U) (([v1, v2, v3] : List AV).map (cv E)) := ⟨pc_blind [v1, v2, v3], fun U hU hW => ⟨rfl, by rw [hU]; exact hC, hK.warm hW⟩⟩
  have S : CallFix p m c (mC M) (mL M) s args [] (mY M).cls := ⟨hX.1, hX.2.1, hX.2.2.1, hX.2.2.2.2.2.1, fun w h => by cases h⟩
  have hW : 2 * (F0 m pc lsA ((v3 :: v2 :: v1 :: st : List AV).map (cv E))).monitorRoom + ((st.map (cv E)).map fun v => v.category).sum ≤ 8 := by have := st_cat E st; show 2 * 0 + _ ≤ 8; omega
  rcases h1 with h1 | ⟨host, h1⟩
  · exact aw_after (va_runS (As := ([v1, v2, v3] : List AV).map (cv E)) (rest := st.map (cv E)) S hM ⟨⟨rfl, rfl, hf.1, hf.2, code_ws hK h2, List.mem_singleton.mpr rfl, hK.1 _ h2 rfl _, hK.1 _ h3 rfl _, h4, hlen, hK.1 _ h1 rfl _⟩, hK.1 _ h6 rfl _⟩ hp rfl rfl hR.1 rfl hW hd ⟨hw1, hw2⟩) hX hL hR kk
  · exact aw_after (va_runSN (As := ([v1, v2, v3] : List AV).map (cv E)) (rest := st.map (cv E)) S hM ⟨⟨⟨rfl, rfl, hf.1, hf.2, code_ws hK h2, List.mem_singleton.mpr rfl⟩, hK.1 _ h2 rfl _, hK.1 _ h3 rfl _, h4, hlen, hK.1 _ h1 rfl _⟩, hK.1 _ h6 rfl _, trivial⟩ hp rfl rfl hR.1 rfl hW hd ⟨hw1, hw2⟩) hX hL hR kk
theorem aw_V0 {b : Nat} (hd : decode (mC M) pc = .ok (.invokevirtual idx, 3)) (hc : CLV (mY M).cls idx M2 0) (hf : fitsIn M M2) (hb : b < n) {c N : Nat} {T : u_T} (hs : sh b = (c, N)) (hcl : vwCl[c]? = some ((mY M2).cls, T, N)) (hM : AMet E M2 [aR b] hi hr n Q2) (hw1 : cu + mMc M2 ≤ mMc M) (hw2 : su + mMs M2 ≤ mMs M) (hst : st.length ≤ 4)
    (kk : ∀ (r : Option AV) (hi1 : HI) (hr1 : HR) (n1 : Nat), Q2 r hi1 hr1 n1 → AW E M (cu + mMc M2) (su + mMs M2) (pc + 3) ls (r.toList ++ st) hi1 hr1 n1 Q) : AW E M cu su pc ls (aR b :: st) hi hr n Q := by
  intro p e s m args below meth c0 H locs lsA hX hC hL hR
  have hK : KE E s := hX.2.2.2.2.2.2.2
  obtain ⟨⟨h1, h2, h3, h4, h5⟩, h6, h7⟩ := hc
  have hlen : ∀ sig, parseMethodDescriptor (mY M2).desc = some sig → 0 = sig.parameters.length := fun sig h => by rw [h] at h5; exact (Option.some.inj h5).symm
  have hp : PreV s H (mY M2).cls (ad E b) (fun v U => v = (([aR b] : List AV).map (cv E)).toArray ∧ CC E hi hr n U.heap ∧ KE E U) (([] : List AV).map (cv E)) := ⟨pc_blind [aR b], recv hK hC hb hs hcl, fun U hU hW => ⟨rfl, by rw [hU]; exact hC, hK.warm hW⟩⟩
  have S : CallFix p m c0 (mC M) (mL M) s args [] (mY M).cls := ⟨hX.1, hX.2.1, hX.2.2.1, hX.2.2.2.2.2.1, fun w h => by cases h⟩
  have hW : 2 * (F0 m pc lsA ((aR b :: st : List AV).map (cv E))).monitorRoom + ((st.map (cv E)).map fun v => v.category).sum ≤ 8 := by have := st_cat E st; show 2 * 0 + _ ≤ 8; omega
  rcases h1 with h1 | ⟨host, h1⟩
  · exact aw_after (va_runV (b := ad E b) (As := ([] : List AV).map (cv E)) (rest := st.map (cv E)) S hM ⟨⟨rfl, rfl, hf.1, hf.2, code_ws hK h2, List.mem_singleton.mpr rfl, hK.1 _ h2 rfl _, hK.1 _ h3 rfl _, h4, hlen, hK.1 _ h1 rfl _⟩, hK.1 _ h6 rfl _, hK.1 _ h7 rfl _⟩ hp rfl rfl hR.1 rfl hW hd ⟨hw1, hw2⟩) hX hL hR kk
  · exact aw_after (va_runVN (b := ad E b) (As := ([] : List AV).map (cv E)) (rest := st.map (cv E)) S hM ⟨⟨⟨rfl, rfl, hf.1, hf.2, code_ws hK h2, List.mem_singleton.mpr rfl⟩, hK.1 _ h2 rfl _, hK.1 _ h3 rfl _, h4, hlen, hK.1 _ h1 rfl _⟩, hK.1 _ h6 rfl _, hK.1 _ h7 rfl _⟩ hp rfl rfl hR.1 rfl hW hd ⟨hw1, hw2⟩) hX hL hR kk
theorem aw_V1 {b : Nat} {v1 : AV} (hd : decode (mC M) pc = .ok (.invokevirtual idx, 3)) (hc : CLV (mY M).cls idx M2 1) (hf : fitsIn M M2) (hb : b < n) {c N : Nat} {T : u_T} (hs : sh b = (c, N)) (hcl : vwCl[c]? = some ((mY M2).cls, T, N)) (hM : AMet E M2 [aR b, v1] hi hr n Q2) (hw1 : cu + mMc M2 ≤ mMc M) (hw2 : su + mMs M2 ≤ mMs M) (hst : st.length ≤ 4)
    (kk : ∀ (r : Option AV) (hi1 : HI) (hr1 : HR) (n1 : Nat), Q2 r hi1 hr1 n1 → AW E M (cu + mMc M2) (su + mMs M2) (pc + 3) ls (r.toList ++ st) hi1 hr1 n1 Q) : AW E M cu su pc ls (v1 :: aR b :: st) hi hr n Q := by
  intro p e s m args below meth c0 H locs lsA hX hC hL hR
  have hK : KE E s := hX.2.2.2.2.2.2.2
  obtain ⟨⟨h1, h2, h3, h4, h5⟩, h6, h7⟩ := hc
  have hlen : ∀ sig, parseMethodDescriptor (mY M2).desc = some sig → 1 = sig.parameters.length := fun sig h => by rw [h] at h5; exact (Option.some.inj h5).symm
  have hp : PreV s H (mY M2).cls (ad E b) (fun v U => v = (([aR b, v1] : List AV).map (cv E)).toArray ∧ CC E hi hr n U.heap ∧ KE E U) (([v1] : List AV).map (cv E)) := ⟨pc_blind [aR b, v1], recv hK hC hb hs hcl, fun U hU hW => ⟨rfl, by rw [hU]; exact hC, hK.warm hW⟩⟩
  have S : CallFix p m c0 (mC M) (mL M) s args [] (mY M).cls := ⟨hX.1, hX.2.1, hX.2.2.1, hX.2.2.2.2.2.1, fun w h => by cases h⟩
  have hW : 2 * (F0 m pc lsA ((v1 :: aR b :: st : List AV).map (cv E))).monitorRoom + ((st.map (cv E)).map fun v => v.category).sum ≤ 8 := by have := st_cat E st; show 2 * 0 + _ ≤ 8; omega
  rcases h1 with h1 | ⟨host, h1⟩
  · exact aw_after (va_runV (b := ad E b) (As := ([v1] : List AV).map (cv E)) (rest := st.map (cv E)) S hM ⟨⟨rfl, rfl, hf.1, hf.2, code_ws hK h2, List.mem_singleton.mpr rfl, hK.1 _ h2 rfl _, hK.1 _ h3 rfl _, h4, hlen, hK.1 _ h1 rfl _⟩, hK.1 _ h6 rfl _, hK.1 _ h7 rfl _⟩ hp rfl rfl hR.1 rfl hW hd ⟨hw1, hw2⟩) hX hL hR kk
  · exact aw_after (va_runVN (b := ad E b) (As := ([v1] : List AV).map (cv E)) (rest := st.map (cv E)) S hM ⟨⟨⟨rfl, rfl, hf.1, hf.2, code_ws hK h2, List.mem_singleton.mpr rfl⟩, hK.1 _ h2 rfl _, hK.1 _ h3 rfl _, h4, hlen, hK.1 _ h1 rfl _⟩, hK.1 _ h6 rfl _, hK.1 _ h7 rfl _⟩ hp rfl rfl hR.1 rfl hW hd ⟨hw1, hw2⟩) hX hL hR kk
theorem aw_V2 {b : Nat} {v1 v2 : AV} (hd : decode (mC M) pc = .ok (.invokevirtual idx, 3)) (hc : CLV (mY M).cls idx M2 2) (hf : fitsIn M M2) (hb : b < n) {c N : Nat} {T : u_T} (hs : sh b = (c, N)) (hcl : vwCl[c]? = some ((mY M2).cls, T, N)) (hM : AMet E M2 [aR b, v1, v2] hi hr n Q2) (hw1 : cu + mMc M2 ≤ mMc M) (hw2 : su + mMs M2 ≤ mMs M) (hst : st.length ≤ 4)
    (kk : ∀ (r : Option AV) (hi1 : HI) (hr1 : HR) (n1 : Nat), Q2 r hi1 hr1 n1 → AW E M (cu + mMc M2) (su + mMs M2) (pc + 3) ls (r.toList ++ st) hi1 hr1 n1 Q) : AW E M cu su pc ls (v2 :: v1 :: aR b :: st) hi hr n Q := by
  intro p e s m args below meth c0 H locs lsA hX hC hL hR
  have hK : KE E s := hX.2.2.2.2.2.2.2
  obtain ⟨⟨h1, h2, h3, h4, h5⟩, h6, h7⟩ := hc
  have hlen : ∀ sig, parseMethodDescriptor (mY M2).desc = some sig → 2 = sig.parameters.length := fun sig h => by rw [h] at h5; exact (Option.some.inj h5).symm
  have hp : PreV s H (mY M2).cls (ad E b) (fun v U => v = (([aR b, v1, v2] : List AV).map (cv E)).toArray ∧ CC E hi hr n U.heap ∧ KE E U) (([v1, v2] : List AV).map (cv E)) := ⟨pc_blind [aR b, v1, v2], recv hK hC hb hs hcl, fun U hU hW => ⟨rfl, by rw [hU]; exact hC, hK.warm hW⟩⟩
  have S : CallFix p m c0 (mC M) (mL M) s args [] (mY M).cls := ⟨hX.1, hX.2.1, hX.2.2.1, hX.2.2.2.2.2.1, fun w h => by cases h⟩
  have hW : 2 * (F0 m pc lsA ((v2 :: v1 :: aR b :: st : List AV).map (cv E))).monitorRoom + ((st.map (cv E)).map fun v => v.category).sum ≤ 8 := by have := st_cat E st; show 2 * 0 + _ ≤ 8; omega
  rcases h1 with h1 | ⟨host, h1⟩
  · exact aw_after (va_runV (b := ad E b) (As := ([v1, v2] : List AV).map (cv E)) (rest := st.map (cv E)) S hM ⟨⟨rfl, rfl, hf.1, hf.2, code_ws hK h2, List.mem_singleton.mpr rfl, hK.1 _ h2 rfl _, hK.1 _ h3 rfl _, h4, hlen, hK.1 _ h1 rfl _⟩, hK.1 _ h6 rfl _, hK.1 _ h7 rfl _⟩ hp rfl rfl hR.1 rfl hW hd ⟨hw1, hw2⟩) hX hL hR kk
  · exact aw_after (va_runVN (b := ad E b) (As := ([v1, v2] : List AV).map (cv E)) (rest := st.map (cv E)) S hM ⟨⟨⟨rfl, rfl, hf.1, hf.2, code_ws hK h2, List.mem_singleton.mpr rfl⟩, hK.1 _ h2 rfl _, hK.1 _ h3 rfl _, h4, hlen, hK.1 _ h1 rfl _⟩, hK.1 _ h6 rfl _, hK.1 _ h7 rfl _⟩ hp rfl rfl hR.1 rfl hW hd ⟨hw1, hw2⟩) hX hL hR kk
theorem aw_V3 {b : Nat} {v1 v2 v3 : AV} (hd : decode (mC M) pc = .ok (.invokevirtual idx, 3)) (hc : CLV (mY M).cls idx M2 3) (hf : fitsIn M M2) (hb : b < n) {c N : Nat} {T : u_T} (hs : sh b = (c, N)) (hcl : vwCl[c]? = some ((mY M2).cls, T, N)) (hM : AMet E M2 [aR b, v1, v2, v3] hi hr n Q2) (hw1 : cu + mMc M2 ≤ mMc M) (hw2 : su + mMs M2 ≤ mMs M) (hst : st.length ≤ 4)
    (kk : ∀ (r : Option AV) (hi1 : HI) (hr1 : HR) (n1 : Nat), Q2 r hi1 hr1 n1 → AW E M (cu + mMc M2) (su + mMs M2) (pc + 3) ls (r.toList ++ st) hi1 hr1 n1 Q) : AW E M cu su pc ls (v3 :: v2 :: v1 :: aR b :: st) hi hr n Q := by
  intro p e s m args below meth c0 H locs lsA hX hC hL hR
  have hK : KE E s := hX.2.2.2.2.2.2.2
  obtain ⟨⟨h1, h2, h3, h4, h5⟩, h6, h7⟩ := hc
  have hlen : ∀ sig, parseMethodDescriptor (mY M2).desc = some sig → 3 = sig.parameters.length := fun sig h => by rw [h] at h5; exact (Option.some.inj h5).symm
  have hp : PreV s H (mY M2).cls (ad E b) (fun v U => v = (([aR b, v1, v2, v3] : List AV).map (cv E)).toArray ∧ CC E hi hr n U.heap ∧ KE E U) (([v1, v2, v3] : List AV).map (cv E)) := ⟨pc_blind [aR b, v1, v2, v3], recv hK hC hb hs hcl, fun U hU hW => ⟨rfl, by rw [hU]; exact hC, hK.warm hW⟩⟩
  have S : CallFix p m c0 (mC M) (mL M) s args [] (mY M).cls := ⟨hX.1, hX.2.1, hX.2.2.1, hX.2.2.2.2.2.1, fun w h => by cases h⟩
  have hW : 2 * (F0 m pc lsA ((v3 :: v2 :: v1 :: aR b :: st : List AV).map (cv E))).monitorRoom + ((st.map (cv E)).map fun v => v.category).sum ≤ 8 := by have := st_cat E st; show 2 * 0 + _ ≤ 8; omega
  rcases h1 with h1 | ⟨host, h1⟩
  · exact aw_after (va_runV (b := ad E b) (As := ([v1, v2, v3] : List AV).map (cv E)) (rest := st.map (cv E)) S hM ⟨⟨rfl, rfl, hf.1, hf.2, code_ws hK h2, List.mem_singleton.mpr rfl, hK.1 _ h2 rfl _, hK.1 _ h3 rfl _, h4, hlen, hK.1 _ h1 rfl _⟩, hK.1 _ h6 rfl _, hK.1 _ h7 rfl _⟩ hp rfl rfl hR.1 rfl hW hd ⟨hw1, hw2⟩) hX hL hR kk
  · exact aw_after (va_runVN (b := ad E b) (As := ([v1, v2, v3] : List AV).map (cv E)) (rest := st.map (cv E)) S hM ⟨⟨⟨rfl, rfl, hf.1, hf.2, code_ws hK h2, List.mem_singleton.mpr rfl⟩, hK.1 _ h2 rfl _, hK.1 _ h3 rfl _, h4, hlen, hK.1 _ h1 rfl _⟩, hK.1 _ h6 rfl _, hK.1 _ h7 rfl _⟩ hp rfl rfl hR.1 rfl hW hd ⟨hw1, hw2⟩) hX hL hR kk
theorem aw_V4 {b : Nat} {v1 v2 v3 v4 : AV} (hd : decode (mC M) pc = .ok (.invokevirtual idx, 3)) (hc : CLV (mY M).cls idx M2 4) (hf : fitsIn M M2) (hb : b < n) {c N : Nat} {T : u_T} (hs : sh b = (c, N)) (hcl : vwCl[c]? = some ((mY M2).cls, T, N)) (hM : AMet E M2 [aR b, v1, v2, v3, v4] hi hr n Q2) (hw1 : cu + mMc M2 ≤ mMc M) (hw2 : su + mMs M2 ≤ mMs M) (hst : st.length ≤ 4)
    (kk : ∀ (r : Option AV) (hi1 : HI) (hr1 : HR) (n1 : Nat), Q2 r hi1 hr1 n1 → AW E M (cu + mMc M2) (su + mMs M2) (pc + 3) ls (r.toList ++ st) hi1 hr1 n1 Q) : AW E M cu su pc ls (v4 :: v3 :: v2 :: v1 :: aR b :: st) hi hr n Q := by
  intro p e s m args below meth c0 H locs lsA hX hC hL hR
  have hK : KE E s := hX.2.2.2.2.2.2.2
  obtain ⟨⟨h1, h2, h3, h4, h5⟩, h6, h7⟩ := hc
  have hlen : ∀ sig, parseMethodDescriptor (mY M2).desc = some sig → 4 = sig.parameters.length := fun sig h => by rw [h] at h5; exact (Option.some.inj h5).symm
  have hp : PreV s H (mY M2).cls (ad E b) (fun v U => v = (([aR b, v1, v2, v3, v4] : List AV).map (cv E)).toArray ∧ CC E hi hr n U.heap ∧ KE E U) (([v1, v2, v3, v4] : List AV).map (cv E)) := ⟨pc_blind [aR b, v1, v2, v3, v4], recv hK hC hb hs hcl, fun U hU hW => ⟨rfl, by rw [hU]; exact hC, hK.warm hW⟩⟩
  have S : CallFix p m c0 (mC M) (mL M) s args [] (mY M).cls := ⟨hX.1, hX.2.1, hX.2.2.1, hX.2.2.2.2.2.1, fun w h => by cases h⟩
  have hW : 2 * (F0 m pc lsA ((v4 :: v3 :: v2 :: v1 :: aR b :: st : List AV).map (cv E))).monitorRoom + ((st.map (cv E)).map fun v => v.category).sum ≤ 8 := by have := st_cat E st; show 2 * 0 + _ ≤ 8; omega
  rcases h1 with h1 | ⟨host, h1⟩
  · exact aw_after (va_runV (b := ad E b) (As := ([v1, v2, v3, v4] : List AV).map (cv E)) (rest := st.map (cv E)) S hM ⟨⟨rfl, rfl, hf.1, hf.2, code_ws hK h2, List.mem_singleton.mpr rfl, hK.1 _ h2 rfl _, hK.1 _ h3 rfl _, h4, hlen, hK.1 _ h1 rfl _⟩, hK.1 _ h6 rfl _, hK.1 _ h7 rfl _⟩ hp rfl rfl hR.1 rfl hW hd ⟨hw1, hw2⟩) hX hL hR kk
  · exact aw_after (va_runVN (b := ad E b) (As := ([v1, v2, v3, v4] : List AV).map (cv E)) (rest := st.map (cv E)) S hM ⟨⟨⟨rfl, rfl, hf.1, hf.2, code_ws hK h2, List.mem_singleton.mpr rfl⟩, hK.1 _ h2 rfl _, hK.1 _ h3 rfl _, h4, hlen, hK.1 _ h1 rfl _⟩, hK.1 _ h6 rfl _, hK.1 _ h7 rfl _⟩ hp rfl rfl hR.1 rfl hW hd ⟨hw1, hw2⟩) hX hL hR kk
theorem aw_V5 {b : Nat} {v1 v2 v3 v4 v5 : AV} (hd : decode (mC M) pc = .ok (.invokevirtual idx, 3)) (hc : CLV (mY M).cls idx M2 5) (hf : fitsIn M M2) (hb : b < n) {c N : Nat} {T : u_T} (hs : sh b = (c, N)) (hcl : vwCl[c]? = some ((mY M2).cls, T, N)) (hM : AMet E M2 [aR b, v1, v2, v3, v4, v5] hi hr n Q2) (hw1 : cu + mMc M2 ≤ mMc M) (hw2 : su + mMs M2 ≤ mMs M) (hst : st.length ≤ 4)
    (kk : ∀ (r : Option AV) (hi1 : HI) (hr1 : HR) (n1 : Nat), Q2 r hi1 hr1 n1 → AW E M (cu + mMc M2) (su + mMs M2) (pc + 3) ls (r.toList ++ st) hi1 hr1 n1 Q) : AW E M cu su pc ls (v5 :: v4 :: v3 :: v2 :: v1 :: aR b :: st) hi hr n Q := by
  intro p e s m args below meth c0 H locs lsA hX hC hL hR
  have hK : KE E s := hX.2.2.2.2.2.2.2
  obtain ⟨⟨h1, h2, h3, h4, h5⟩, h6, h7⟩ := hc
  have hlen : ∀ sig, parseMethodDescriptor (mY M2).desc = some sig → 5 = sig.parameters.length := fun sig h => by rw [h] at h5; exact (Option.some.inj h5).symm
  have hp : PreV s H (mY M2).cls (ad E b) (fun v U => v = (([aR b, v1, v2, v3, v4, v5] : List AV).map (cv E)).toArray ∧ CC E hi hr n U.heap ∧ KE E U) (([v1, v2, v3, v4, v5] : List AV).map (cv E)) := ⟨pc_blind [aR b, v1, v2, v3, v4, v5], recv hK hC hb hs hcl, fun U hU hW => ⟨rfl, by rw [hU]; exact hC, hK.warm hW⟩⟩
  have S : CallFix p m c0 (mC M) (mL M) s args [] (mY M).cls := ⟨hX.1, hX.2.1, hX.2.2.1, hX.2.2.2.2.2.1, fun w h => by cases h⟩
  have hW : 2 * (F0 m pc lsA ((v5 :: v4 :: v3 :: v2 :: v1 :: aR b :: st : List AV).map (cv E))).monitorRoom + ((st.map (cv E)).map fun v => v.category).sum ≤ 8 := by have := st_cat E st; show 2 * 0 + _ ≤ 8; omega
  rcases h1 with h1 | ⟨host, h1⟩
  · exact aw_after (va_runV (b := ad E b) (As := ([v1, v2, v3, v4, v5] : List AV).map (cv E)) (rest := st.map (cv E)) S hM ⟨⟨rfl, rfl, hf.1, hf.2, code_ws hK h2, List.mem_singleton.mpr rfl, hK.1 _ h2 rfl _, hK.1 _ h3 rfl _, h4, hlen, hK.1 _ h1 rfl _⟩, hK.1 _ h6 rfl _, hK.1 _ h7 rfl _⟩ hp rfl rfl hR.1 rfl hW hd ⟨hw1, hw2⟩) hX hL hR kk
  · exact aw_after (va_runVN (b := ad E b) (As := ([v1, v2, v3, v4, v5] : List AV).map (cv E)) (rest := st.map (cv E)) S hM ⟨⟨⟨rfl, rfl, hf.1, hf.2, code_ws hK h2, List.mem_singleton.mpr rfl⟩, hK.1 _ h2 rfl _, hK.1 _ h3 rfl _, h4, hlen, hK.1 _ h1 rfl _⟩, hK.1 _ h6 rfl _, hK.1 _ h7 rfl _⟩ hp rfl rfl hR.1 rfl hW hd ⟨hw1, hw2⟩) hX hL hR kk
theorem aw_I0 {b : Nat} (hd : decode (mC M) pc = .ok (.invokespecial idx, 3)) (hc : CLI (mY M).cls idx M2 0) (hf : fitsIn M M2) (hM : AMet E M2 [aR b] hi hr n Q2) (hw1 : cu + mMc M2 ≤ mMc M) (hw2 : su + mMs M2 ≤ mMs M) (hst : st.length ≤ 4)
    (kk : ∀ (r : Option AV) (hi1 : HI) (hr1 : HR) (n1 : Nat), Q2 r hi1 hr1 n1 → AW E M (cu + mMc M2) (su + mMs M2) (pc + 3) ls (r.toList ++ st) hi1 hr1 n1 Q) : AW E M cu su pc ls (aR b :: st) hi hr n Q := by
  intro p e s m args below meth c H locs lsA hX hC hL hR
  have hK : KE E s := hX.2.2.2.2.2.2.2
  obtain ⟨⟨h1, h2, h3, h4, h5⟩, h6, h7, h8⟩ := hc
  have hlen : ∀ sig, parseMethodDescriptor (mY M2).desc = some sig → 0 = sig.parameters.length := fun sig h => by rw [h] at h5; exact (Option.some.inj h5).symm
  have hp : PreS s H (fun v U => v = (([aR b] : List AV).map (cv E)).toArray ∧ CC E hi hr n U.heap ∧ KE E U) (.ref (ad E b) :: ([] : List AV).map (cv E)) := ⟨pc_blind [aR b], fun U hU hW => ⟨rfl, by rw [hU]; exact hC, hK.warm hW⟩⟩
  have hM : Met (eL E) (mY M2) [Cond.code (mY M2) (mC M2) (mL M2) (mT M2)] (mR M2) (fun v U => v = (([aR b] : List AV).map (cv E)).toArray ∧ CC E hi hr n U.heap ∧ KE E U) (QA E Q2) (mMc M2) (mMs M2) (fr E) := hM
  have hcw := code_ws hK h2
  have hcm := hK.1 _ h2 rfl
  rw [h8] at hM hcw hcm
  have S : CallFix p m c (mC M) (mL M) s args [] (mY M).cls := ⟨hX.1, hX.2.1, hX.2.2.1, hX.2.2.2.2.2.1, fun w h => by cases h⟩
  have hW : 2 * (F0 m pc lsA ((aR b :: st : List AV).map (cv E))).monitorRoom + ((st.map (cv E)).map fun v => v.category).sum ≤ 8 := by have := st_cat E st; show 2 * 0 + _ ≤ 8; omega
  rcases h1 with h1 | ⟨host, h1⟩
  · exact aw_after (va_runI (b := ad E b) (As := ([] : List AV).map (cv E)) (rest := st.map (cv E)) S hM ⟨⟨rfl, rfl, hf.1, hf.2, hcw, List.mem_singleton.mpr rfl, hcm _, hK.1 _ h3 rfl _, h4, hlen, hK.1 _ h1 rfl _⟩, h6, hK.1 _ h7 rfl _⟩ hp rfl rfl hR.1 rfl hW hd ⟨hw1, hw2⟩) hX hL hR kk
  · exact aw_after (va_runIN (b := ad E b) (As := ([] : List AV).map (cv E)) (rest := st.map (cv E)) S hM ⟨⟨⟨rfl, rfl, hf.1, hf.2, hcw, List.mem_singleton.mpr rfl⟩, hcm _, hK.1 _ h3 rfl _, h4, hlen, hK.1 _ h1 rfl _⟩, h6, hK.1 _ h7 rfl _⟩ hp rfl rfl hR.1 rfl hW hd ⟨hw1, hw2⟩) hX hL hR kk
end CALLS
end
section
/-! links: what a program decides of classes, fields and calls -/
theorem ci0 : CI 0 RX0 TX0 4 tyX0 := by
  refine ⟨rfl, ?_, tyX0_ok, nmX0, by decide +kernel, by decide +kernel, by decide +kernel, by decide⟩
  intro w hw
  obtain ⟨k, hk, rfl⟩ := List.mem_map.mp hw
  have hk := List.mem_range.mp hk
  match k, hk with
    | 0, _ => exact ⟨(mem_tb (List.mem_of_getElem? (i := 37) (by decide +kernel))), by decide +kernel⟩
    | 1, _ => exact ⟨(mem_tb (List.mem_of_getElem? (i := 39) (by decide +kernel))), by decide +kernel⟩
    | 2, _ => exact ⟨(mem_tb (List.mem_of_getElem? (i := 41) (by decide +kernel))), by decide +kernel⟩
    | 3, _ => exact ⟨(mem_tb (List.mem_of_getElem? (i := 43) (by decide +kernel))), by decide +kernel⟩
    | k + 4, h => exact absurd h (by omega)
theorem ci1 : CI 1 RX1 TX1 2 tyX1 := by
  refine ⟨rfl, ?_, tyX1_ok, nmX1, by decide +kernel, by decide +kernel, by decide +kernel, by decide⟩
  intro w hw
  obtain ⟨k, hk, rfl⟩ := List.mem_map.mp hw
  have hk := List.mem_range.mp hk
  match k, hk with
    | 0, _ => exact ⟨(mem_tb (List.mem_of_getElem? (i := 199) (by decide +kernel))), by decide +kernel⟩
    | 1, _ => exact ⟨(mem_tb (List.mem_of_getElem? (i := 201) (by decide +kernel))), by decide +kernel⟩
    | k + 2, h => exact absurd h (by omega)
theorem ci2 : CI 2 RX2 TX2 5 tyX2 := by
  refine ⟨rfl, ?_, tyX2_ok, nmX2, by decide +kernel, by decide +kernel, by decide +kernel, by decide⟩
  intro w hw
  obtain ⟨k, hk, rfl⟩ := List.mem_map.mp hw
  have hk := List.mem_range.mp hk
  match k, hk with
    | 0, _ => exact ⟨(mem_tb (List.mem_of_getElem? (i := 58) (by decide +kernel))), by decide +kernel⟩
    | 1, _ => exact ⟨(mem_tb (List.mem_of_getElem? (i := 60) (by decide +kernel))), by decide +kernel⟩
    | 2, _ => exact ⟨(mem_tb (List.mem_of_getElem? (i := 62) (by decide +kernel))), by decide +kernel⟩
    | 3, _ => exact ⟨(mem_tb (List.mem_of_getElem? (i := 64) (by decide +kernel))), by decide +kernel⟩
    | 4, _ => exact ⟨(mem_tb (List.mem_of_getElem? (i := 66) (by decide +kernel))), by decide +kernel⟩
    | k + 5, h => exact absurd h (by omega)
theorem ci3 : CI 3 RX3 TX3 5 tyX3 := by
  refine ⟨rfl, ?_, tyX3_ok, nmX3, by decide +kernel, by decide +kernel, by decide +kernel, by decide⟩
  intro w hw
  obtain ⟨k, hk, rfl⟩ := List.mem_map.mp hw
  have hk := List.mem_range.mp hk
  match k, hk with
    | 0, _ => exact ⟨(mem_tb (List.mem_of_getElem? (i := 244) (by decide +kernel))), by decide +kernel⟩
    | 1, _ => exact ⟨(mem_tb (List.mem_of_getElem? (i := 246) (by decide +kernel))), by decide +kernel⟩
    | 2, _ => exact ⟨(mem_tb (List.mem_of_getElem? (i := 248) (by decide +kernel))), by decide +kernel⟩
    | 3, _ => exact ⟨(mem_tb (List.mem_of_getElem? (i := 250) (by decide +kernel))), by decide +kernel⟩
    | 4, _ => exact ⟨(mem_tb (List.mem_of_getElem? (i := 252) (by decide +kernel))), by decide +kernel⟩
    | k + 5, h => exact absurd h (by omega)
theorem ci4 : CI 4 RX4 TX4 11 tyX4 := by
  refine ⟨rfl, ?_, tyX4_ok, nmX4, by decide +kernel, by decide +kernel, by decide +kernel, by decide⟩
  intro w hw
  obtain ⟨k, hk, rfl⟩ := List.mem_map.mp hw
  have hk := List.mem_range.mp hk
  match k, hk with
    | 0, _ => exact ⟨(mem_tb (List.mem_of_getElem? (i := 165) (by decide +kernel))), by decide +kernel⟩
    | 1, _ => exact ⟨(mem_tb (List.mem_of_getElem? (i := 167) (by decide +kernel))), by decide +kernel⟩
    | 2, _ => exact ⟨(mem_tb (List.mem_of_getElem? (i := 169) (by decide +kernel))), by decide +kernel⟩
    | 3, _ => exact ⟨(mem_tb (List.mem_of_getElem? (i := 171) (by decide +kernel))), by decide +kernel⟩
    | 4, _ => exact ⟨(mem_tb (List.mem_of_getElem? (i := 173) (by decide +kernel))), by decide +kernel⟩
    | 5, _ => exact ⟨(mem_tb (List.mem_of_getElem? (i := 175) (by decide +kernel))), by decide +kernel⟩
    | 6, _ => exact ⟨(mem_tb (List.mem_of_getElem? (i := 177) (by decide +kernel))), by decide +kernel⟩
    | 7, _ => exact ⟨(mem_tb (List.mem_of_getElem? (i := 179) (by decide +kernel))), by decide +kernel⟩
    | 8, _ => exact ⟨(mem_tb (List.mem_of_getElem? (i := 181) (by decide +kernel))), by decide +kernel⟩
    | 9, _ => exact ⟨(mem_tb (List.mem_of_getElem? (i := 183) (by decide +kernel))), by decide +kernel⟩
    | 10, _ => exact ⟨(mem_tb (List.mem_of_getElem? (i := 185) (by decide +kernel))), by decide +kernel⟩
    | k + 11, h => exact absurd h (by omega)
theorem ci5 : CI 5 RX5 TX5 7 tyX5 := by
  refine ⟨rfl, ?_, tyX5_ok, nmX5, by decide +kernel, by decide +kernel, by decide +kernel, by decide⟩
  intro w hw
  obtain ⟨k, hk, rfl⟩ := List.mem_map.mp hw
  have hk := List.mem_range.mp hk
  match k, hk with
    | 0, _ => exact ⟨(mem_tb (List.mem_of_getElem? (i := 128) (by decide +kernel))), by decide +kernel⟩
    | 1, _ => exact ⟨(mem_tb (List.mem_of_getElem? (i := 130) (by decide +kernel))), by decide +kernel⟩
    | 2, _ => exact ⟨(mem_tb (List.mem_of_getElem? (i := 132) (by decide +kernel))), by decide +kernel⟩
    | 3, _ => exact ⟨(mem_tb (List.mem_of_getElem? (i := 134) (by decide +kernel))), by decide +kernel⟩
    | 4, _ => exact ⟨(mem_tb (List.mem_of_getElem? (i := 136) (by decide +kernel))), by decide +kernel⟩
    | 5, _ => exact ⟨(mem_tb (List.mem_of_getElem? (i := 138) (by decide +kernel))), by decide +kernel⟩
    | 6, _ => exact ⟨(mem_tb (List.mem_of_getElem? (i := 140) (by decide +kernel))), by decide +kernel⟩
    | k + 7, h => exact absurd h (by omega)
theorem ci6 : CI 6 RX6 TX6 6 tyX6 := by
  refine ⟨rfl, ?_, tyX6_ok, nmX6, by decide +kernel, by decide +kernel, by decide +kernel, by decide⟩
  intro w hw
  obtain ⟨k, hk, rfl⟩ := List.mem_map.mp hw
  have hk := List.mem_range.mp hk
  match k, hk with
    | 0, _ => exact ⟨(mem_tb (List.mem_of_getElem? (i := 220) (by decide +kernel))), by decide +kernel⟩
    | 1, _ => exact ⟨(mem_tb (List.mem_of_getElem? (i := 222) (by decide +kernel))), by decide +kernel⟩
    | 2, _ => exact ⟨(mem_tb (List.mem_of_getElem? (i := 224) (by decide +kernel))), by decide +kernel⟩
    | 3, _ => exact ⟨(mem_tb (List.mem_of_getElem? (i := 226) (by decide +kernel))), by decide +kernel⟩
    | 4, _ => exact ⟨(mem_tb (List.mem_of_getElem? (i := 228) (by decide +kernel))), by decide +kernel⟩
    | 5, _ => exact ⟨(mem_tb (List.mem_of_getElem? (i := 230) (by decide +kernel))), by decide +kernel⟩
    | k + 6, h => exact absurd h (by omega)
theorem ci7 : CI 7 RX7 TX7 8 tyX7 := by
  refine ⟨rfl, ?_, tyX7_ok, nmX7, by decide +kernel, by decide +kernel, by decide +kernel, by decide⟩
  intro w hw
  obtain ⟨k, hk, rfl⟩ := List.mem_map.mp hw
  have hk := List.mem_range.mp hk
  match k, hk with
    | 0, _ => exact ⟨(mem_tb (List.mem_of_getElem? (i := 91) (by decide +kernel))), by decide +kernel⟩
    | 1, _ => exact ⟨(mem_tb (List.mem_of_getElem? (i := 93) (by decide +kernel))), by decide +kernel⟩
    | 2, _ => exact ⟨(mem_tb (List.mem_of_getElem? (i := 95) (by decide +kernel))), by decide +kernel⟩
    | 3, _ => exact ⟨(mem_tb (List.mem_of_getElem? (i := 97) (by decide +kernel))), by decide +kernel⟩
    | 4, _ => exact ⟨(mem_tb (List.mem_of_getElem? (i := 99) (by decide +kernel))), by decide +kernel⟩
    | 5, _ => exact ⟨(mem_tb (List.mem_of_getElem? (i := 101) (by decide +kernel))), by decide +kernel⟩
    | 6, _ => exact ⟨(mem_tb (List.mem_of_getElem? (i := 103) (by decide +kernel))), by decide +kernel⟩
    | 7, _ => exact ⟨(mem_tb (List.mem_of_getElem? (i := 105) (by decide +kernel))), by decide +kernel⟩
    | k + 8, h => exact absurd h (by omega)
theorem ci8 : CI 8 RX8 TX8 5 tyX8 := by
  refine ⟨rfl, ?_, tyX8_ok, nmX8, by decide +kernel, by decide +kernel, by decide +kernel, by decide⟩
  intro w hw
  obtain ⟨k, hk, rfl⟩ := List.mem_map.mp hw
  have hk := List.mem_range.mp hk
  match k, hk with
    | 0, _ => exact ⟨(mem_tb (List.mem_of_getElem? (i := 260) (by decide +kernel))), by decide +kernel⟩
    | 1, _ => exact ⟨(mem_tb (List.mem_of_getElem? (i := 262) (by decide +kernel))), by decide +kernel⟩
    | 2, _ => exact ⟨(mem_tb (List.mem_of_getElem? (i := 264) (by decide +kernel))), by decide +kernel⟩
    | 3, _ => exact ⟨(mem_tb (List.mem_of_getElem? (i := 266) (by decide +kernel))), by decide +kernel⟩
    | 4, _ => exact ⟨(mem_tb (List.mem_of_getElem? (i := 268) (by decide +kernel))), by decide +kernel⟩
    | k + 5, h => exact absurd h (by omega)
theorem fX0_9 : FL RX0 9 RX0 TX0 0 := Or.inl (mem_tb (List.mem_of_getElem? (i := 33) (by decide +kernel)))
theorem flX0_9 : Cond.fieldLink RX0 9 RX0 (TX0 0).2.1 (TX0 0).2.2.1 ∈ lw_tbl := (mem_tb (List.mem_of_getElem? (i := 33) (by decide +kernel)))
theorem fX0_15 : FL RX0 15 RX0 TX0 1 := Or.inl (mem_tb (List.mem_of_getElem? (i := 34) (by decide +kernel)))
theorem flX0_15 : Cond.fieldLink RX0 15 RX0 (TX0 1).2.1 (TX0 1).2.2.1 ∈ lw_tbl := (mem_tb (List.mem_of_getElem? (i := 34) (by decide +kernel)))
theorem fX0_18 : FL RX0 18 RX0 TX0 2 := Or.inl (mem_tb (List.mem_of_getElem? (i := 35) (by decide +kernel)))
theorem flX0_18 : Cond.fieldLink RX0 18 RX0 (TX0 2).2.1 (TX0 2).2.2.1 ∈ lw_tbl := (mem_tb (List.mem_of_getElem? (i := 35) (by decide +kernel)))
theorem fX0_21 : FL RX0 21 RX0 TX0 3 := Or.inl (mem_tb (List.mem_of_getElem? (i := 36) (by decide +kernel)))
theorem flX0_21 : Cond.fieldLink RX0 21 RX0 (TX0 3).2.1 (TX0 3).2.2.1 ∈ lw_tbl := (mem_tb (List.mem_of_getElem? (i := 36) (by decide +kernel)))
theorem fX2_9 : FL RX2 9 RX2 TX2 0 := Or.inl (mem_tb (List.mem_of_getElem? (i := 53) (by decide +kernel)))
theorem flX2_9 : Cond.fieldLink RX2 9 RX2 (TX2 0).2.1 (TX2 0).2.2.1 ∈ lw_tbl := (mem_tb (List.mem_of_getElem? (i := 53) (by decide +kernel)))
theorem fX2_15 : FL RX2 15 RX2 TX2 1 := Or.inl (mem_tb (List.mem_of_getElem? (i := 54) (by decide +kernel)))
theorem flX2_15 : Cond.fieldLink RX2 15 RX2 (TX2 1).2.1 (TX2 1).2.2.1 ∈ lw_tbl := (mem_tb (List.mem_of_getElem? (i := 54) (by decide +kernel)))
theorem fX2_18 : FL RX2 18 RX2 TX2 2 := Or.inl (mem_tb (List.mem_of_getElem? (i := 55) (by decide +kernel)))
theorem flX2_18 : Cond.fieldLink RX2 18 RX2 (TX2 2).2.1 (TX2 2).2.2.1 ∈ lw_tbl := (mem_tb (List.mem_of_getElem? (i := 55) (by decide +kernel)))
theorem fX2_21 : FL RX2 21 RX2 TX2 3 := Or.inl (mem_tb (List.mem_of_getElem? (i := 56) (by decide +kernel)))
theorem flX2_21 : Cond.fieldLink RX2 21 RX2 (TX2 3).2.1 (TX2 3).2.2.1 ∈ lw_tbl := (mem_tb (List.mem_of_getElem? (i := 56) (by decide +kernel)))
theorem fX2_28 : FL RX2 28 RX2 TX2 4 := Or.inl (mem_tb (List.mem_of_getElem? (i := 57) (by decide +kernel)))
theorem flX2_28 : Cond.fieldLink RX2 28 RX2 (TX2 4).2.1 (TX2 4).2.2.1 ∈ lw_tbl := (mem_tb (List.mem_of_getElem? (i := 57) (by decide +kernel)))
theorem fX7_9 : FL RX7 9 RX7 TX7 0 := Or.inl (mem_tb (List.mem_of_getElem? (i := 75) (by decide +kernel)))
theorem flX7_9 : Cond.fieldLink RX7 9 RX7 (TX7 0).2.1 (TX7 0).2.2.1 ∈ lw_tbl := (mem_tb (List.mem_of_getElem? (i := 75) (by decide +kernel)))
theorem fX4_105 : FL RX4 105 RX7 TX7 0 := Or.inr ⟨"PagePairs", (mem_tb (List.mem_of_getElem? (i := 76) (by decide +kernel)))⟩
theorem fX7_15 : FL RX7 15 RX7 TX7 1 := Or.inl (mem_tb (List.mem_of_getElem? (i := 77) (by decide +kernel)))
theorem flX7_15 : Cond.fieldLink RX7 15 RX7 (TX7 1).2.1 (TX7 1).2.2.1 ∈ lw_tbl := (mem_tb (List.mem_of_getElem? (i := 77) (by decide +kernel)))
theorem fX4_163 : FL RX4 163 RX7 TX7 1 := Or.inr ⟨"PagePairs", (mem_tb (List.mem_of_getElem? (i := 78) (by decide +kernel)))⟩
theorem fX7_18 : FL RX7 18 RX7 TX7 2 := Or.inl (mem_tb (List.mem_of_getElem? (i := 79) (by decide +kernel)))
theorem flX7_18 : Cond.fieldLink RX7 18 RX7 (TX7 2).2.1 (TX7 2).2.2.1 ∈ lw_tbl := (mem_tb (List.mem_of_getElem? (i := 79) (by decide +kernel)))
theorem fX4_166 : FL RX4 166 RX7 TX7 2 := Or.inr ⟨"PagePairs", (mem_tb (List.mem_of_getElem? (i := 80) (by decide +kernel)))⟩
theorem fX7_22 : FL RX7 22 RX7 TX7 3 := Or.inl (mem_tb (List.mem_of_getElem? (i := 81) (by decide +kernel)))
theorem flX7_22 : Cond.fieldLink RX7 22 RX7 (TX7 3).2.1 (TX7 3).2.2.1 ∈ lw_tbl := (mem_tb (List.mem_of_getElem? (i := 81) (by decide +kernel)))
theorem fX4_171 : FL RX4 171 RX7 TX7 3 := Or.inr ⟨"PagePairs", (mem_tb (List.mem_of_getElem? (i := 82) (by decide +kernel)))⟩
theorem fX7_25 : FL RX7 25 RX7 TX7 4 := Or.inl (mem_tb (List.mem_of_getElem? (i := 83) (by decide +kernel)))
theorem flX7_25 : Cond.fieldLink RX7 25 RX7 (TX7 4).2.1 (TX7 4).2.2.1 ∈ lw_tbl := (mem_tb (List.mem_of_getElem? (i := 83) (by decide +kernel)))
theorem fX4_177 : FL RX4 177 RX7 TX7 4 := Or.inr ⟨"PagePairs", (mem_tb (List.mem_of_getElem? (i := 84) (by decide +kernel)))⟩
theorem fX7_28 : FL RX7 28 RX7 TX7 5 := Or.inl (mem_tb (List.mem_of_getElem? (i := 85) (by decide +kernel)))
theorem flX7_28 : Cond.fieldLink RX7 28 RX7 (TX7 5).2.1 (TX7 5).2.2.1 ∈ lw_tbl := (mem_tb (List.mem_of_getElem? (i := 85) (by decide +kernel)))
theorem fX4_180 : FL RX4 180 RX7 TX7 5 := Or.inr ⟨"PagePairs", (mem_tb (List.mem_of_getElem? (i := 86) (by decide +kernel)))⟩
theorem fX7_31 : FL RX7 31 RX7 TX7 6 := Or.inl (mem_tb (List.mem_of_getElem? (i := 87) (by decide +kernel)))
theorem flX7_31 : Cond.fieldLink RX7 31 RX7 (TX7 6).2.1 (TX7 6).2.2.1 ∈ lw_tbl := (mem_tb (List.mem_of_getElem? (i := 87) (by decide +kernel)))
theorem fX4_186 : FL RX4 186 RX7 TX7 6 := Or.inr ⟨"PagePairs", (mem_tb (List.mem_of_getElem? (i := 88) (by decide +kernel)))⟩
theorem fX7_34 : FL RX7 34 RX7 TX7 7 := Or.inl (mem_tb (List.mem_of_getElem? (i := 89) (by decide +kernel)))
theorem flX7_34 : Cond.fieldLink RX7 34 RX7 (TX7 7).2.1 (TX7 7).2.2.1 ∈ lw_tbl := (mem_tb (List.mem_of_getElem? (i := 89) (by decide +kernel)))
theorem fX4_111 : FL RX4 111 RX7 TX7 7 := Or.inr ⟨"PagePairs", (mem_tb (List.mem_of_getElem? (i := 90) (by decide +kernel)))⟩
theorem fX5_7 : FL RX5 7 RX5 TX5 0 := Or.inl (mem_tb (List.mem_of_getElem? (i := 114) (by decide +kernel)))
theorem flX5_7 : Cond.fieldLink RX5 7 RX5 (TX5 0).2.1 (TX5 0).2.2.1 ∈ lw_tbl := (mem_tb (List.mem_of_getElem? (i := 114) (by decide +kernel)))
theorem fX4_95 : FL RX4 95 RX5 TX5 0 := Or.inr ⟨"PagePairs", (mem_tb (List.mem_of_getElem? (i := 115) (by decide +kernel)))⟩
theorem fX5_13 : FL RX5 13 RX5 TX5 1 := Or.inl (mem_tb (List.mem_of_getElem? (i := 116) (by decide +kernel)))
theorem flX5_13 : Cond.fieldLink RX5 13 RX5 (TX5 1).2.1 (TX5 1).2.2.1 ∈ lw_tbl := (mem_tb (List.mem_of_getElem? (i := 116) (by decide +kernel)))
theorem fX4_189 : FL RX4 189 RX5 TX5 1 := Or.inr ⟨"PagePairs", (mem_tb (List.mem_of_getElem? (i := 117) (by decide +kernel)))⟩
theorem fX5_16 : FL RX5 16 RX5 TX5 2 := Or.inl (mem_tb (List.mem_of_getElem? (i := 118) (by decide +kernel)))
theorem flX5_16 : Cond.fieldLink RX5 16 RX5 (TX5 2).2.1 (TX5 2).2.2.1 ∈ lw_tbl := (mem_tb (List.mem_of_getElem? (i := 118) (by decide +kernel)))
theorem fX4_98 : FL RX4 98 RX5 TX5 2 := Or.inr ⟨"PagePairs", (mem_tb (List.mem_of_getElem? (i := 119) (by decide +kernel)))⟩
theorem fX5_19 : FL RX5 19 RX5 TX5 3 := Or.inl (mem_tb (List.mem_of_getElem? (i := 120) (by decide +kernel)))
theorem flX5_19 : Cond.fieldLink RX5 19 RX5 (TX5 3).2.1 (TX5 3).2.2.1 ∈ lw_tbl := (mem_tb (List.mem_of_getElem? (i := 120) (by decide +kernel)))
theorem fX4_234 : FL RX4 234 RX5 TX5 3 := Or.inr ⟨"PagePairs", (mem_tb (List.mem_of_getElem? (i := 121) (by decide +kernel)))⟩
theorem fX5_22 : FL RX5 22 RX5 TX5 4 := Or.inl (mem_tb (List.mem_of_getElem? (i := 122) (by decide +kernel)))
theorem flX5_22 : Cond.fieldLink RX5 22 RX5 (TX5 4).2.1 (TX5 4).2.2.1 ∈ lw_tbl := (mem_tb (List.mem_of_getElem? (i := 122) (by decide +kernel)))
theorem fX4_243 : FL RX4 243 RX5 TX5 4 := Or.inr ⟨"PagePairs", (mem_tb (List.mem_of_getElem? (i := 123) (by decide +kernel)))⟩
theorem fX5_25 : FL RX5 25 RX5 TX5 5 := Or.inl (mem_tb (List.mem_of_getElem? (i := 124) (by decide +kernel)))
theorem flX5_25 : Cond.fieldLink RX5 25 RX5 (TX5 5).2.1 (TX5 5).2.2.1 ∈ lw_tbl := (mem_tb (List.mem_of_getElem? (i := 124) (by decide +kernel)))
theorem fX4_231 : FL RX4 231 RX5 TX5 5 := Or.inr ⟨"PagePairs", (mem_tb (List.mem_of_getElem? (i := 125) (by decide +kernel)))⟩
theorem fX5_28 : FL RX5 28 RX5 TX5 6 := Or.inl (mem_tb (List.mem_of_getElem? (i := 126) (by decide +kernel)))
theorem flX5_28 : Cond.fieldLink RX5 28 RX5 (TX5 6).2.1 (TX5 6).2.2.1 ∈ lw_tbl := (mem_tb (List.mem_of_getElem? (i := 126) (by decide +kernel)))
theorem fX4_211 : FL RX4 211 RX5 TX5 6 := Or.inr ⟨"PagePairs", (mem_tb (List.mem_of_getElem? (i := 127) (by decide +kernel)))⟩
theorem gsX4_56 : (Cond.fieldLink RX4 56 "PagePairs" (stn 0) "[I" ∈ lw_tbl) ∨ ∃ host : String, Cond.fieldLinkNest RX4 56 "PagePairs" (stn 0) "[I" host ∈ lw_tbl := Or.inr ⟨"PagePairs", (mem_tb (List.mem_of_getElem? (i := 143) (by decide +kernel)))⟩
theorem fX4_12 : FL RX4 12 RX4 TX4 0 := Or.inl (mem_tb (List.mem_of_getElem? (i := 154) (by decide +kernel)))
theorem flX4_12 : Cond.fieldLink RX4 12 RX4 (TX4 0).2.1 (TX4 0).2.2.1 ∈ lw_tbl := (mem_tb (List.mem_of_getElem? (i := 154) (by decide +kernel)))
theorem fX4_21 : FL RX4 21 RX4 TX4 1 := Or.inl (mem_tb (List.mem_of_getElem? (i := 155) (by decide +kernel)))
theorem flX4_21 : Cond.fieldLink RX4 21 RX4 (TX4 1).2.1 (TX4 1).2.2.1 ∈ lw_tbl := (mem_tb (List.mem_of_getElem? (i := 155) (by decide +kernel)))
theorem fX4_28 : FL RX4 28 RX4 TX4 2 := Or.inl (mem_tb (List.mem_of_getElem? (i := 156) (by decide +kernel)))
theorem flX4_28 : Cond.fieldLink RX4 28 RX4 (TX4 2).2.1 (TX4 2).2.2.1 ∈ lw_tbl := (mem_tb (List.mem_of_getElem? (i := 156) (by decide +kernel)))
theorem fX4_35 : FL RX4 35 RX4 TX4 3 := Or.inl (mem_tb (List.mem_of_getElem? (i := 157) (by decide +kernel)))
theorem flX4_35 : Cond.fieldLink RX4 35 RX4 (TX4 3).2.1 (TX4 3).2.2.1 ∈ lw_tbl := (mem_tb (List.mem_of_getElem? (i := 157) (by decide +kernel)))
theorem fX4_39 : FL RX4 39 RX4 TX4 4 := Or.inl (mem_tb (List.mem_of_getElem? (i := 158) (by decide +kernel)))
theorem flX4_39 : Cond.fieldLink RX4 39 RX4 (TX4 4).2.1 (TX4 4).2.2.1 ∈ lw_tbl := (mem_tb (List.mem_of_getElem? (i := 158) (by decide +kernel)))
theorem fX4_43 : FL RX4 43 RX4 TX4 5 := Or.inl (mem_tb (List.mem_of_getElem? (i := 159) (by decide +kernel)))
theorem flX4_43 : Cond.fieldLink RX4 43 RX4 (TX4 5).2.1 (TX4 5).2.2.1 ∈ lw_tbl := (mem_tb (List.mem_of_getElem? (i := 159) (by decide +kernel)))
theorem fX4_46 : FL RX4 46 RX4 TX4 6 := Or.inl (mem_tb (List.mem_of_getElem? (i := 160) (by decide +kernel)))
theorem flX4_46 : Cond.fieldLink RX4 46 RX4 (TX4 6).2.1 (TX4 6).2.2.1 ∈ lw_tbl := (mem_tb (List.mem_of_getElem? (i := 160) (by decide +kernel)))
theorem fX4_49 : FL RX4 49 RX4 TX4 7 := Or.inl (mem_tb (List.mem_of_getElem? (i := 161) (by decide +kernel)))
theorem flX4_49 : Cond.fieldLink RX4 49 RX4 (TX4 7).2.1 (TX4 7).2.2.1 ∈ lw_tbl := (mem_tb (List.mem_of_getElem? (i := 161) (by decide +kernel)))
theorem fX4_52 : FL RX4 52 RX4 TX4 8 := Or.inl (mem_tb (List.mem_of_getElem? (i := 162) (by decide +kernel)))
theorem flX4_52 : Cond.fieldLink RX4 52 RX4 (TX4 8).2.1 (TX4 8).2.2.1 ∈ lw_tbl := (mem_tb (List.mem_of_getElem? (i := 162) (by decide +kernel)))
theorem fX4_76 : FL RX4 76 RX4 TX4 9 := Or.inl (mem_tb (List.mem_of_getElem? (i := 163) (by decide +kernel)))
theorem flX4_76 : Cond.fieldLink RX4 76 RX4 (TX4 9).2.1 (TX4 9).2.2.1 ∈ lw_tbl := (mem_tb (List.mem_of_getElem? (i := 163) (by decide +kernel)))
theorem fX4_80 : FL RX4 80 RX4 TX4 10 := Or.inl (mem_tb (List.mem_of_getElem? (i := 164) (by decide +kernel)))
theorem flX4_80 : Cond.fieldLink RX4 80 RX4 (TX4 10).2.1 (TX4 10).2.2.1 ∈ lw_tbl := (mem_tb (List.mem_of_getElem? (i := 164) (by decide +kernel)))
theorem fX1_11 : FL RX1 11 RX1 TX1 0 := Or.inl (mem_tb (List.mem_of_getElem? (i := 197) (by decide +kernel)))
theorem flX1_11 : Cond.fieldLink RX1 11 RX1 (TX1 0).2.1 (TX1 0).2.2.1 ∈ lw_tbl := (mem_tb (List.mem_of_getElem? (i := 197) (by decide +kernel)))
theorem fX1_18 : FL RX1 18 RX1 TX1 1 := Or.inl (mem_tb (List.mem_of_getElem? (i := 198) (by decide +kernel)))
theorem flX1_18 : Cond.fieldLink RX1 18 RX1 (TX1 1).2.1 (TX1 1).2.2.1 ∈ lw_tbl := (mem_tb (List.mem_of_getElem? (i := 198) (by decide +kernel)))
theorem fX6_9 : FL RX6 9 RX6 TX6 0 := Or.inl (mem_tb (List.mem_of_getElem? (i := 210) (by decide +kernel)))
theorem flX6_9 : Cond.fieldLink RX6 9 RX6 (TX6 0).2.1 (TX6 0).2.2.1 ∈ lw_tbl := (mem_tb (List.mem_of_getElem? (i := 210) (by decide +kernel)))
theorem fX6_15 : FL RX6 15 RX6 TX6 1 := Or.inl (mem_tb (List.mem_of_getElem? (i := 211) (by decide +kernel)))
theorem flX6_15 : Cond.fieldLink RX6 15 RX6 (TX6 1).2.1 (TX6 1).2.2.1 ∈ lw_tbl := (mem_tb (List.mem_of_getElem? (i := 211) (by decide +kernel)))
theorem fX3_28 : FL RX3 28 RX6 TX6 2 := Or.inr ⟨"PagePairs", (mem_tb (List.mem_of_getElem? (i := 212) (by decide +kernel)))⟩
theorem fX6_27 : FL RX6 27 RX6 TX6 2 := Or.inl (mem_tb (List.mem_of_getElem? (i := 213) (by decide +kernel)))
theorem flX6_27 : Cond.fieldLink RX6 27 RX6 (TX6 2).2.1 (TX6 2).2.2.1 ∈ lw_tbl := (mem_tb (List.mem_of_getElem? (i := 213) (by decide +kernel)))
theorem fX3_51 : FL RX3 51 RX6 TX6 3 := Or.inr ⟨"PagePairs", (mem_tb (List.mem_of_getElem? (i := 214) (by decide +kernel)))⟩
theorem fX6_34 : FL RX6 34 RX6 TX6 3 := Or.inl (mem_tb (List.mem_of_getElem? (i := 215) (by decide +kernel)))
theorem flX6_34 : Cond.fieldLink RX6 34 RX6 (TX6 3).2.1 (TX6 3).2.2.1 ∈ lw_tbl := (mem_tb (List.mem_of_getElem? (i := 215) (by decide +kernel)))
theorem fX6_44 : FL RX6 44 RX6 TX6 4 := Or.inl (mem_tb (List.mem_of_getElem? (i := 216) (by decide +kernel)))
theorem flX6_44 : Cond.fieldLink RX6 44 RX6 (TX6 4).2.1 (TX6 4).2.2.1 ∈ lw_tbl := (mem_tb (List.mem_of_getElem? (i := 216) (by decide +kernel)))
theorem fX3_54 : FL RX3 54 RX6 TX6 4 := Or.inr ⟨"PagePairs", (mem_tb (List.mem_of_getElem? (i := 217) (by decide +kernel)))⟩
theorem fX6_51 : FL RX6 51 RX6 TX6 5 := Or.inl (mem_tb (List.mem_of_getElem? (i := 218) (by decide +kernel)))
theorem flX6_51 : Cond.fieldLink RX6 51 RX6 (TX6 5).2.1 (TX6 5).2.2.1 ∈ lw_tbl := (mem_tb (List.mem_of_getElem? (i := 218) (by decide +kernel)))
theorem fX3_57 : FL RX3 57 RX6 TX6 5 := Or.inr ⟨"PagePairs", (mem_tb (List.mem_of_getElem? (i := 219) (by decide +kernel)))⟩
theorem fX3_9 : FL RX3 9 RX3 TX3 0 := Or.inl (mem_tb (List.mem_of_getElem? (i := 239) (by decide +kernel)))
theorem flX3_9 : Cond.fieldLink RX3 9 RX3 (TX3 0).2.1 (TX3 0).2.2.1 ∈ lw_tbl := (mem_tb (List.mem_of_getElem? (i := 239) (by decide +kernel)))
theorem fX3_15 : FL RX3 15 RX3 TX3 1 := Or.inl (mem_tb (List.mem_of_getElem? (i := 240) (by decide +kernel)))
theorem flX3_15 : Cond.fieldLink RX3 15 RX3 (TX3 1).2.1 (TX3 1).2.2.1 ∈ lw_tbl := (mem_tb (List.mem_of_getElem? (i := 240) (by decide +kernel)))
theorem fX3_31 : FL RX3 31 RX3 TX3 2 := Or.inl (mem_tb (List.mem_of_getElem? (i := 241) (by decide +kernel)))
theorem flX3_31 : Cond.fieldLink RX3 31 RX3 (TX3 2).2.1 (TX3 2).2.2.1 ∈ lw_tbl := (mem_tb (List.mem_of_getElem? (i := 241) (by decide +kernel)))
theorem fX3_45 : FL RX3 45 RX3 TX3 3 := Or.inl (mem_tb (List.mem_of_getElem? (i := 242) (by decide +kernel)))
theorem flX3_45 : Cond.fieldLink RX3 45 RX3 (TX3 3).2.1 (TX3 3).2.2.1 ∈ lw_tbl := (mem_tb (List.mem_of_getElem? (i := 242) (by decide +kernel)))
theorem fX3_48 : FL RX3 48 RX3 TX3 4 := Or.inl (mem_tb (List.mem_of_getElem? (i := 243) (by decide +kernel)))
theorem flX3_48 : Cond.fieldLink RX3 48 RX3 (TX3 4).2.1 (TX3 4).2.2.1 ∈ lw_tbl := (mem_tb (List.mem_of_getElem? (i := 243) (by decide +kernel)))
theorem fX8_12 : FL RX8 12 RX8 TX8 0 := Or.inl (mem_tb (List.mem_of_getElem? (i := 255) (by decide +kernel)))
theorem flX8_12 : Cond.fieldLink RX8 12 RX8 (TX8 0).2.1 (TX8 0).2.2.1 ∈ lw_tbl := (mem_tb (List.mem_of_getElem? (i := 255) (by decide +kernel)))
theorem fX8_16 : FL RX8 16 RX8 TX8 1 := Or.inl (mem_tb (List.mem_of_getElem? (i := 256) (by decide +kernel)))
theorem flX8_16 : Cond.fieldLink RX8 16 RX8 (TX8 1).2.1 (TX8 1).2.2.1 ∈ lw_tbl := (mem_tb (List.mem_of_getElem? (i := 256) (by decide +kernel)))
theorem fX8_22 : FL RX8 22 RX8 TX8 2 := Or.inl (mem_tb (List.mem_of_getElem? (i := 257) (by decide +kernel)))
theorem flX8_22 : Cond.fieldLink RX8 22 RX8 (TX8 2).2.1 (TX8 2).2.2.1 ∈ lw_tbl := (mem_tb (List.mem_of_getElem? (i := 257) (by decide +kernel)))
theorem fX8_29 : FL RX8 29 RX8 TX8 3 := Or.inl (mem_tb (List.mem_of_getElem? (i := 258) (by decide +kernel)))
theorem flX8_29 : Cond.fieldLink RX8 29 RX8 (TX8 3).2.1 (TX8 3).2.2.1 ∈ lw_tbl := (mem_tb (List.mem_of_getElem? (i := 258) (by decide +kernel)))
theorem fX8_36 : FL RX8 36 RX8 TX8 4 := Or.inl (mem_tb (List.mem_of_getElem? (i := 259) (by decide +kernel)))
theorem flX8_36 : Cond.fieldLink RX8 36 RX8 (TX8 4).2.1 (TX8 4).2.2.1 ∈ lw_tbl := (mem_tb (List.mem_of_getElem? (i := 259) (by decide +kernel)))
theorem gsX4_153 : (Cond.fieldLink RX4 153 "PagePairs" (stn 1) "[I" ∈ lw_tbl) ∨ ∃ host : String, Cond.fieldLinkNest RX4 153 "PagePairs" (stn 1) "[I" host ∈ lw_tbl := Or.inr ⟨"PagePairs", (mem_tb (List.mem_of_getElem? (i := 375) (by decide +kernel)))⟩
theorem gsX4_160 : (Cond.fieldLink RX4 160 "PagePairs" (stn 2) "[I" ∈ lw_tbl) ∨ ∃ host : String, Cond.fieldLinkNest RX4 160 "PagePairs" (stn 2) "[I" host ∈ lw_tbl := Or.inr ⟨"PagePairs", (mem_tb (List.mem_of_getElem? (i := 377) (by decide +kernel)))⟩
theorem gsX4_271 : (Cond.fieldLink RX4 271 "PagePairs" (stn 3) "[I" ∈ lw_tbl) ∨ ∃ host : String, Cond.fieldLinkNest RX4 271 "PagePairs" (stn 3) "[I" host ∈ lw_tbl := Or.inr ⟨"PagePairs", (mem_tb (List.mem_of_getElem? (i := 663) (by decide +kernel)))⟩
theorem gsX4_274 : (Cond.fieldLink RX4 274 "PagePairs" (stn 4) "[I" ∈ lw_tbl) ∨ ∃ host : String, Cond.fieldLinkNest RX4 274 "PagePairs" (stn 4) "[I" host ∈ lw_tbl := Or.inr ⟨"PagePairs", (mem_tb (List.mem_of_getElem? (i := 665) (by decide +kernel)))⟩
abbrev M_J6_bitCount_0f7a4 : MT := (yJ6_bitCount_0f7a4, cJ6_bitCount_0f7a4, 1, some .int, 0, 0, 0, 0)
abbrev M_J9_max_7cf53 : MT := (yJ9_max_7cf53, cJ9_max_7cf53, 2, some .int, 0, 0, 0, 0)
abbrev M_J9_min_7cf53 : MT := (yJ9_min_7cf53, cJ9_min_7cf53, 2, some .int, 0, 0, 0, 0)
abbrev M_L_acts : MT := (yL_acts, cL_acts, 13, some .boolean, 9, 205, 0, 0)
abbrev M_L_digest : MT := (yL_digest, cL_digest, 4, some .long, 4, 90, 0, 0)
abbrev M_L_digits : MT := (yL_digits, cL_digits, 3, some .boolean, 3, 64, 0, 0)
abbrev M_L_holds : MT := (yL_holds, cL_holds, 8, some .boolean, 4, 90, 0, 0)
abbrev M_L_law : MT := (yL_law, cL_law, 11, some .boolean, 12, 474, 600000, 7302250)
abbrev M_L_lot : MT := (yL_lot, cL_lot, 2, some .int, 0, 0, 0, 0)
abbrev M_L_low : MT := (yL_low, cL_low, 2, some .int, 0, 0, 0, 0)
abbrev M_L_reads : MT := (yL_reads, cL_reads, 8, some .boolean, 8, 178, 0, 0)
abbrev M_L_types : MT := (yL_types, cL_types, 8, some .boolean, 4, 86, 0, 0)
abbrev M_X0_begin : MT := (yX0_begin, cX0_begin, 5, none, 0, 0, 0, 0)
abbrev M_X0_beginBackup : MT := (yX0_beginBackup, cX0_beginBackup, 3, none, 0, 0, 0, 0)
abbrev M_X0_blankBlock : MT := (yX0_blankBlock, cX0_blankBlock, 3, none, 1, 22, 0, 0)
abbrev M_X0_copyFrom : MT := (yX0_copyFrom, cX0_copyFrom, 2, none, 2, 51, 0, 0)
abbrev M_X0_fact : MT := (yX0_fact, cX0_fact, 3, some .int, 1, 21, 0, 0)
abbrev M_X0_init : MT := (yX0_init, cX0_init, 1, none, 1, 20, 4, 192)
abbrev M_X0_isBlankBlock : MT := (yX0_isBlankBlock, cX0_isBlankBlock, 3, some .boolean, 1, 21, 0, 0)
abbrev M_X0_isPlace : MT := (yX0_isPlace, cX0_isPlace, 2, some .boolean, 1, 24, 0, 0)
abbrev M_X0_key : MT := (yX0_key, cX0_key, 2, some .int, 0, 0, 0, 0)
abbrev M_X0_keysWithPlace : MT := (yX0_keysWithPlace, cX0_keysWithPlace, 3, some .int, 1, 24, 0, 0)
abbrev M_X0_kind : MT := (yX0_kind, cX0_kind, 2, some .int, 0, 0, 0, 0)
abbrev M_X0_mark : MT := (yX0_mark, cX0_mark, 3, none, 0, 0, 0, 0)
abbrev M_X0_place : MT := (yX0_place, cX0_place, 5, some .int, 0, 0, 0, 0)
abbrev M_X0_placeStamp : MT := (yX0_placeStamp, cX0_placeStamp, 3, some .int, 1, 24, 0, 0)
abbrev M_X0_placesInBlock : MT := (yX0_placesInBlock, cX0_placesInBlock, 4, some .int, 2, 45, 0, 0)
abbrev M_X0_stamp : MT := (yX0_stamp, cX0_stamp, 2, some .int, 0, 0, 0, 0)
abbrev M_X0_tornPages : MT := (yX0_tornPages, cX0_tornPages, 3, some .int, 0, 0, 0, 0)
abbrev M_X0_value : MT := (yX0_value, cX0_value, 2, some .int, 0, 0, 0, 0)
abbrev M_X1_dropOldest : MT := (yX1_dropOldest, cX1_dropOldest, 3, none, 1, 21, 0, 0)
abbrev M_X1_init : MT := (yX1_init, cX1_init, 2, none, 3, 71, 86, 1430)
abbrev M_X1_keep : MT := (yX1_keep, cX1_keep, 1, none, 2, 43, 0, 0)
abbrev M_X1_note : MT := (yX1_note, cX1_note, 3, none, 4, 93, 0, 0)
abbrev M_X1_restore : MT := (yX1_restore, cX1_restore, 3, some .int, 4, 93, 0, 0)
abbrev M_X1_size : MT := (yX1_size, cX1_size, 1, some .int, 0, 0, 0, 0)
abbrev M_X1_stateAt : MT := (yX1_stateAt, cX1_stateAt, 2, some (.object "PagePairs$State"), 0, 0, 0, 0)
abbrev M_X2_add : MT := (yX2_add, cX2_add, 7, none, 1, 25, 0, 0)
abbrev M_X2_copyFrom : MT := (yX2_copyFrom, cX2_copyFrom, 2, none, 2, 51, 0, 0)
abbrev M_X2_dropFirst : MT := (yX2_dropFirst, cX2_dropFirst, 2, none, 1, 22, 0, 0)
abbrev M_X2_init : MT := (yX2_init, cX2_init, 1, none, 1, 20, 4, 32)
abbrev M_X2_key : MT := (yX2_key, cX2_key, 2, some .int, 0, 0, 0, 0)
abbrev M_X2_makeEmpty : MT := (yX2_makeEmpty, cX2_makeEmpty, 1, none, 0, 0, 0, 0)
abbrev M_X2_move : MT := (yX2_move, cX2_move, 3, none, 0, 0, 0, 0)
abbrev M_X2_put : MT := (yX2_put, cX2_put, 6, none, 0, 0, 0, 0)
abbrev M_X2_size : MT := (yX2_size, cX2_size, 1, some .int, 0, 0, 0, 0)
abbrev M_X2_stamp : MT := (yX2_stamp, cX2_stamp, 2, some .int, 0, 0, 0, 0)
abbrev M_X2_urgency : MT := (yX2_urgency, cX2_urgency, 2, some .int, 0, 0, 0, 0)
abbrev M_X2_value : MT := (yX2_value, cX2_value, 2, some .int, 0, 0, 0, 0)
abbrev M_X3_commandsDone : MT := (yX3_commandsDone, cX3_commandsDone, 1, some .int, 0, 0, 0, 0)
abbrev M_X3_faultFact : MT := (yX3_faultFact, cX3_faultFact, 2, some .int, 0, 0, 0, 0)
abbrev M_X3_hasFault : MT := (yX3_hasFault, cX3_hasFault, 1, some .boolean, 0, 0, 0, 0)
abbrev M_X3_init : MT := (yX3_init, cX3_init, 1, none, 1, 20, 0, 0)
abbrev M_X3_perform : MT := (yX3_perform, cX3_perform, 2, some .int, 5, 112, 0, 0)
abbrev M_X3_run : MT := (yX3_run, cX3_run, 5, none, 6, 133, 0, 0)
abbrev M_X3_tellFault : MT := (yX3_tellFault, cX3_tellFault, 3, none, 0, 0, 0, 0)
abbrev M_X4_askFor : MT := (yX4_askFor, cX4_askFor, 4, some .int, 2, 51, 0, 0)
abbrev M_X4_askForCopy : MT := (yX4_askForCopy, cX4_askForCopy, 3, none, 2, 51, 0, 0)
abbrev M_X4_backupFact : MT := (yX4_backupFact, cX4_backupFact, 5, some .int, 2, 43, 0, 0)
abbrev M_X4_beginWriting : MT := (yX4_beginWriting, cX4_beginWriting, 2, none, 1, 24, 0, 0)
abbrev M_X4_changeSetting : MT := (yX4_changeSetting, cX4_changeSetting, 4, some .int, 1, 22, 0, 0)
abbrev M_X4_changeSlowness : MT := (yX4_changeSlowness, cX4_changeSlowness, 4, some .int, 1, 22, 0, 0)
abbrev M_X4_cleanBlock : MT := (yX4_cleanBlock, cX4_cleanBlock, 4, some .int, 3, 73, 0, 0)
abbrev M_X4_copyFrom : MT := (yX4_copyFrom, cX4_copyFrom, 2, none, 3, 72, 0, 0)
abbrev M_X4_cutPower : MT := (yX4_cutPower, cX4_cutPower, 1, some .int, 3, 68, 0, 0)
abbrev M_X4_eraseBlock : MT := (yX4_eraseBlock, cX4_eraseBlock, 3, some .int, 3, 68, 0, 0)
abbrev M_X4_finishWriting : MT := (yX4_finishWriting, cX4_finishWriting, 1, none, 1, 22, 0, 0)
abbrev M_X4_goOn : MT := (yX4_goOn, cX4_goOn, 2, none, 2, 42, 0, 0)
abbrev M_X4_init : MT := (yX4_init, cX4_init, 1, none, 2, 51, 16, 274)
abbrev M_X4_isFull : MT := (yX4_isFull, cX4_isFull, 1, some .boolean, 0, 0, 0, 0)
abbrev M_X4_isOutdated : MT := (yX4_isOutdated, cX4_isOutdated, 3, some .boolean, 1, 24, 0, 0)
abbrev M_X4_letTicks : MT := (yX4_letTicks, cX4_letTicks, 3, some .int, 4, 90, 0, 0)
abbrev M_X4_loseByCut : MT := (yX4_loseByCut, cX4_loseByCut, 3, some .int, 2, 46, 0, 0)
abbrev M_X4_numberOf : MT := (yX4_numberOf, cX4_numberOf, 2, some .int, 2, 46, 0, 0)
abbrev M_X4_pageFact : MT := (yX4_pageFact, cX4_pageFact, 5, some .int, 2, 43, 0, 0)
abbrev M_X4_pass : MT := (yX4_pass, cX4_pass, 4, none, 3, 67, 0, 0)
abbrev M_X4_placeFact : MT := (yX4_placeFact, cX4_placeFact, 4, some .int, 1, 24, 0, 0)
abbrev M_X4_requestFact : MT := (yX4_requestFact, cX4_requestFact, 3, some .int, 1, 22, 0, 0)
abbrev M_X4_restorePower : MT := (yX4_restorePower, cX4_restorePower, 3, some .int, 3, 73, 0, 0)
abbrev M_X4_settingOrSlowness : MT := (yX4_settingOrSlowness, cX4_settingOrSlowness, 2, some .int, 1, 22, 0, 0)
abbrev M_X4_takeRequests : MT := (yX4_takeRequests, cX4_takeRequests, 2, none, 2, 46, 0, 0)
abbrev M_X4_tearWriting : MT := (yX4_tearWriting, cX4_tearWriting, 1, none, 1, 22, 0, 0)
abbrev M_X4_turnToOther : MT := (yX4_turnToOther, cX4_turnToOther, 2, some .int, 2, 43, 0, 0)
abbrev M_X5_copyFrom : MT := (yX5_copyFrom, cX5_copyFrom, 2, none, 0, 0, 0, 0)
abbrev M_X5_init : MT := (yX5_init, cX5_init, 1, none, 1, 20, 0, 0)
abbrev M_X6_append : MT := (yX6_append, cX6_append, 2, some .int, 1, 22, 0, 0)
abbrev M_X6_hasMore : MT := (yX6_hasMore, cX6_hasMore, 1, some .boolean, 0, 0, 0, 0)
abbrev M_X6_init : MT := (yX6_init, cX6_init, 1, none, 1, 20, 1, 60)
abbrev M_X6_length : MT := (yX6_length, cX6_length, 1, some .int, 0, 0, 0, 0)
abbrev M_X6_makeEmpty : MT := (yX6_makeEmpty, cX6_makeEmpty, 2, some .int, 0, 0, 0, 0)
abbrev M_X6_numbersOf : MT := (yX6_numbersOf, cX6_numbersOf, 1, some .int, 0, 0, 0, 0)
abbrev M_X6_readCommand : MT := (yX6_readCommand, cX6_readCommand, 2, some .boolean, 3, 63, 0, 0)
abbrev M_X6_readNumber : MT := (yX6_readNumber, cX6_readNumber, 3, some .int, 2, 41, 0, 0)
abbrev M_X6_readSign : MT := (yX6_readSign, cX6_readSign, 3, some .boolean, 2, 41, 0, 0)
abbrev M_X6_rewind : MT := (yX6_rewind, cX6_rewind, 1, none, 0, 0, 0, 0)
abbrev M_X6_sign : MT := (yX6_sign, cX6_sign, 1, some .int, 1, 21, 0, 0)
abbrev M_X7_copyFrom : MT := (yX7_copyFrom, cX7_copyFrom, 2, none, 0, 0, 0, 0)
abbrev M_X7_hasBegunItself : MT := (yX7_hasBegunItself, cX7_hasBegunItself, 1, some .boolean, 0, 0, 0, 0)
abbrev M_X7_init : MT := (yX7_init, cX7_init, 1, none, 1, 20, 0, 0)
abbrev M_X7_isAskedFor : MT := (yX7_isAskedFor, cX7_isAskedFor, 1, some .boolean, 0, 0, 0, 0)
abbrev M_X7_isBehindBackup : MT := (yX7_isBehindBackup, cX7_isBehindBackup, 1, some .boolean, 0, 0, 0, 0)
abbrev M_X8_backupOf : MT := (yX8_backupOf, cX8_backupOf, 4, some .int, 3, 67, 0, 0)
abbrev M_X8_cellOf : MT := (yX8_cellOf, cX8_cellOf, 2, some .int, 0, 0, 0, 0)
abbrev M_X8_clean : MT := (yX8_clean, cX8_clean, 2, some .int, 5, 115, 0, 0)
abbrev M_X8_clearText : MT := (yX8_clearText, cX8_clearText, 1, some .int, 1, 21, 0, 0)
abbrev M_X8_copyRow : MT := (yX8_copyRow, cX8_copyRow, 2, none, 1, 30, 0, 0)
abbrev M_X8_count : MT := (yX8_count, cX8_count, 2, some .int, 3, 67, 0, 0)
abbrev M_X8_cut : MT := (yX8_cut, cX8_cut, 1, some .int, 5, 115, 0, 0)
abbrev M_X8_earlyPosition : MT := (yX8_earlyPosition, cX8_earlyPosition, 1, some .int, 0, 0, 0, 0)
abbrev M_X8_erase : MT := (yX8_erase, cX8_erase, 2, some .int, 5, 115, 0, 0)
abbrev M_X8_fault : MT := (yX8_fault, cX8_fault, 2, some .int, 7, 157, 0, 0)
abbrev M_X8_init : MT := (yX8_init, cX8_init, 1, none, 4, 92, 124, 2073)
abbrev M_X8_isIn : MT := (yX8_isIn, cX8_isIn, 3, some .boolean, 0, 0, 0, 0)
abbrev M_X8_keepChange : MT := (yX8_keepChange, cX8_keepChange, 2, some .int, 3, 63, 0, 0)
abbrev M_X8_on : MT := (yX8_on, cX8_on, 1, some .int, 5, 115, 0, 0)
abbrev M_X8_pageOf : MT := (yX8_pageOf, cX8_pageOf, 4, some .int, 3, 67, 0, 0)
abbrev M_X8_placeOf : MT := (yX8_placeOf, cX8_placeOf, 3, some .int, 2, 47, 0, 0)
abbrev M_X8_play : MT := (yX8_play, cX8_play, 1, some .int, 7, 157, 0, 0)
abbrev M_X8_putAt : MT := (yX8_putAt, cX8_putAt, 3, none, 0, 0, 0, 0)
abbrev M_X8_quotient : MT := (yX8_quotient, cX8_quotient, 2, some .int, 0, 0, 0, 0)
abbrev M_X8_set : MT := (yX8_set, cX8_set, 3, some .int, 5, 115, 0, 0)
abbrev M_X8_slow : MT := (yX8_slow, cX8_slow, 3, some .int, 5, 115, 0, 0)
abbrev M_X8_tick : MT := (yX8_tick, cX8_tick, 2, some .int, 5, 115, 0, 0)
abbrev M_X8_turn : MT := (yX8_turn, cX8_turn, 1, some .int, 5, 115, 0, 0)
abbrev M_X8_type : MT := (yX8_type, cX8_type, 2, some .int, 2, 43, 0, 0)
abbrev M_X8_undo : MT := (yX8_undo, cX8_undo, 1, some .int, 5, 115, 0, 0)
abbrev M_X8_valueAt : MT := (yX8_valueAt, cX8_valueAt, 2, some .int, 0, 0, 0, 0)
abbrev M_X8_waits : MT := (yX8_waits, cX8_waits, 3, some .int, 2, 44, 0, 0)
abbrev M_X8_write : MT := (yX8_write, cX8_write, 4, some .int, 5, 115, 0, 0)
theorem oiX0_3 : Cond.methodLink RX0 3 Lib.objectInit ∈ lw_tbl := (mem_tb (List.mem_of_getElem? (i := 32) (by decide +kernel)))
theorem clX0_24 : CLS RX0 24 M_X8_copyRow 2 := ⟨⟨Or.inr ⟨"PagePairs", (mem_tb (List.mem_of_getElem? (i := 333) (by decide +kernel)))⟩, (mem_tb (List.mem_of_getElem? (i := 147) (by decide +kernel))), (mem_tb (List.mem_of_getElem? (i := 1) (by decide +kernel))), by decide +kernel, by decide +kernel⟩, (mem_tb (List.mem_of_getElem? (i := 146) (by decide +kernel)))⟩
theorem clX0_28 : CLV RX0 28 M_X0_key 1 := ⟨⟨Or.inl (mem_tb (List.mem_of_getElem? (i := 383) (by decide +kernel))), (mem_tb (List.mem_of_getElem? (i := 386) (by decide +kernel))), (mem_tb (List.mem_of_getElem? (i := 3) (by decide +kernel))), by decide +kernel, by decide +kernel⟩, (mem_tb (List.mem_of_getElem? (i := 384) (by decide +kernel))), (mem_tb (List.mem_of_getElem? (i := 385) (by decide +kernel)))⟩
theorem clX0_32 : CLV RX0 32 M_X0_value 1 := ⟨⟨Or.inl (mem_tb (List.mem_of_getElem? (i := 387) (by decide +kernel))), (mem_tb (List.mem_of_getElem? (i := 390) (by decide +kernel))), (mem_tb (List.mem_of_getElem? (i := 3) (by decide +kernel))), by decide +kernel, by decide +kernel⟩, (mem_tb (List.mem_of_getElem? (i := 388) (by decide +kernel))), (mem_tb (List.mem_of_getElem? (i := 389) (by decide +kernel)))⟩
theorem clX0_35 : CLV RX0 35 M_X0_stamp 1 := ⟨⟨Or.inl (mem_tb (List.mem_of_getElem? (i := 391) (by decide +kernel))), (mem_tb (List.mem_of_getElem? (i := 394) (by decide +kernel))), (mem_tb (List.mem_of_getElem? (i := 3) (by decide +kernel))), by decide +kernel, by decide +kernel⟩, (mem_tb (List.mem_of_getElem? (i := 392) (by decide +kernel))), (mem_tb (List.mem_of_getElem? (i := 393) (by decide +kernel)))⟩
theorem clX0_38 : CLS RX0 38 M_X8_cellOf 2 := ⟨⟨Or.inr ⟨"PagePairs", (mem_tb (List.mem_of_getElem? (i := 617) (by decide +kernel)))⟩, (mem_tb (List.mem_of_getElem? (i := 370) (by decide +kernel))), (mem_tb (List.mem_of_getElem? (i := 1) (by decide +kernel))), by decide +kernel, by decide +kernel⟩, (mem_tb (List.mem_of_getElem? (i := 369) (by decide +kernel)))⟩
theorem clX0_42 : CLV RX0 42 M_X0_mark 2 := ⟨⟨Or.inl (mem_tb (List.mem_of_getElem? (i := 643) (by decide +kernel))), (mem_tb (List.mem_of_getElem? (i := 543) (by decide +kernel))), (mem_tb (List.mem_of_getElem? (i := 3) (by decide +kernel))), by decide +kernel, by decide +kernel⟩, (mem_tb (List.mem_of_getElem? (i := 541) (by decide +kernel))), (mem_tb (List.mem_of_getElem? (i := 542) (by decide +kernel)))⟩
theorem clX0_46 : CLV RX0 46 M_X0_kind 1 := ⟨⟨Or.inl (mem_tb (List.mem_of_getElem? (i := 602) (by decide +kernel))), (mem_tb (List.mem_of_getElem? (i := 374) (by decide +kernel))), (mem_tb (List.mem_of_getElem? (i := 3) (by decide +kernel))), by decide +kernel, by decide +kernel⟩, (mem_tb (List.mem_of_getElem? (i := 372) (by decide +kernel))), (mem_tb (List.mem_of_getElem? (i := 373) (by decide +kernel)))⟩
theorem clX0_49 : CLV RX0 49 M_X0_place 1 := ⟨⟨Or.inl (mem_tb (List.mem_of_getElem? (i := 299) (by decide +kernel))), (mem_tb (List.mem_of_getElem? (i := 302) (by decide +kernel))), (mem_tb (List.mem_of_getElem? (i := 3) (by decide +kernel))), by decide +kernel, by decide +kernel⟩, (mem_tb (List.mem_of_getElem? (i := 300) (by decide +kernel))), (mem_tb (List.mem_of_getElem? (i := 301) (by decide +kernel)))⟩
theorem clX0_52 : CLV RX0 52 M_X0_isPlace 1 := ⟨⟨Or.inl (mem_tb (List.mem_of_getElem? (i := 630) (by decide +kernel))), (mem_tb (List.mem_of_getElem? (i := 601) (by decide +kernel))), (mem_tb (List.mem_of_getElem? (i := 3) (by decide +kernel))), by decide +kernel, by decide +kernel⟩, (mem_tb (List.mem_of_getElem? (i := 599) (by decide +kernel))), (mem_tb (List.mem_of_getElem? (i := 600) (by decide +kernel)))⟩
theorem oiX1_3 : Cond.methodLink RX1 3 Lib.objectInit ∈ lw_tbl := (mem_tb (List.mem_of_getElem? (i := 193) (by decide +kernel)))
theorem clX1_17 : CLI RX1 17 M_X4_init 0 := ⟨⟨Or.inl (mem_tb (List.mem_of_getElem? (i := 196) (by decide +kernel))), (mem_tb (List.mem_of_getElem? (i := 25) (by decide +kernel))), (mem_tb (List.mem_of_getElem? (i := 2) (by decide +kernel))), by decide +kernel, by decide +kernel⟩, by decide +kernel, (mem_tb (List.mem_of_getElem? (i := 24) (by decide +kernel))), rfl⟩
theorem clX1_22 : CLV RX1 22 M_X1_stateAt 1 := ⟨⟨Or.inl (mem_tb (List.mem_of_getElem? (i := 321) (by decide +kernel))), (mem_tb (List.mem_of_getElem? (i := 324) (by decide +kernel))), (mem_tb (List.mem_of_getElem? (i := 9) (by decide +kernel))), by decide +kernel, by decide +kernel⟩, (mem_tb (List.mem_of_getElem? (i := 323) (by decide +kernel))), (mem_sel (List.mem_of_getElem? (i := 1) (by decide +kernel)))⟩
theorem clX1_26 : CLV RX1 26 M_X4_copyFrom 1 := ⟨⟨Or.inl (mem_tb (List.mem_of_getElem? (i := 325) (by decide +kernel))), (mem_tb (List.mem_of_getElem? (i := 328) (by decide +kernel))), (mem_tb (List.mem_of_getElem? (i := 2) (by decide +kernel))), by decide +kernel, by decide +kernel⟩, (mem_tb (List.mem_of_getElem? (i := 326) (by decide +kernel))), (mem_tb (List.mem_of_getElem? (i := 327) (by decide +kernel)))⟩
theorem clX1_30 : CLV RX1 30 M_X1_dropOldest 0 := ⟨⟨Or.inl (mem_tb (List.mem_of_getElem? (i := 473) (by decide +kernel))), (mem_tb (List.mem_of_getElem? (i := 476) (by decide +kernel))), (mem_tb (List.mem_of_getElem? (i := 9) (by decide +kernel))), by decide +kernel, by decide +kernel⟩, (mem_tb (List.mem_of_getElem? (i := 475) (by decide +kernel))), (mem_sel (List.mem_of_getElem? (i := 5) (by decide +kernel)))⟩
theorem oiX2_3 : Cond.methodLink RX2 3 Lib.objectInit ∈ lw_tbl := (mem_tb (List.mem_of_getElem? (i := 52) (by decide +kernel)))
theorem clX2_24 : CLS RX2 24 M_X8_copyRow 2 := ⟨⟨Or.inr ⟨"PagePairs", (mem_tb (List.mem_of_getElem? (i := 338) (by decide +kernel)))⟩, (mem_tb (List.mem_of_getElem? (i := 147) (by decide +kernel))), (mem_tb (List.mem_of_getElem? (i := 1) (by decide +kernel))), by decide +kernel, by decide +kernel⟩, (mem_tb (List.mem_of_getElem? (i := 146) (by decide +kernel)))⟩
theorem clX2_32 : CLV RX2 32 M_X2_urgency 1 := ⟨⟨Or.inl (mem_tb (List.mem_of_getElem? (i := 456) (by decide +kernel))), (mem_tb (List.mem_of_getElem? (i := 422) (by decide +kernel))), (mem_tb (List.mem_of_getElem? (i := 4) (by decide +kernel))), by decide +kernel, by decide +kernel⟩, (mem_tb (List.mem_of_getElem? (i := 420) (by decide +kernel))), (mem_tb (List.mem_of_getElem? (i := 421) (by decide +kernel)))⟩
theorem clX2_36 : CLV RX2 36 M_X2_move 2 := ⟨⟨Or.inl (mem_tb (List.mem_of_getElem? (i := 457) (by decide +kernel))), (mem_tb (List.mem_of_getElem? (i := 460) (by decide +kernel))), (mem_tb (List.mem_of_getElem? (i := 4) (by decide +kernel))), by decide +kernel, by decide +kernel⟩, (mem_tb (List.mem_of_getElem? (i := 459) (by decide +kernel))), (mem_sel (List.mem_of_getElem? (i := 2) (by decide +kernel)))⟩
theorem clX2_40 : CLV RX2 40 M_X2_put 5 := ⟨⟨Or.inl (mem_tb (List.mem_of_getElem? (i := 461) (by decide +kernel))), (mem_tb (List.mem_of_getElem? (i := 464) (by decide +kernel))), (mem_tb (List.mem_of_getElem? (i := 4) (by decide +kernel))), by decide +kernel, by decide +kernel⟩, (mem_tb (List.mem_of_getElem? (i := 463) (by decide +kernel))), (mem_sel (List.mem_of_getElem? (i := 3) (by decide +kernel)))⟩
theorem clX2_44 : CLS RX2 44 M_J9_max_7cf53 2 := ⟨⟨Or.inl (mem_tb (List.mem_of_getElem? (i := 527) (by decide +kernel))), (mem_tb (List.mem_of_getElem? (i := 529) (by decide +kernel))), (mem_tb (List.mem_of_getElem? (i := 7) (by decide +kernel))), by decide +kernel, by decide +kernel⟩, (mem_tb (List.mem_of_getElem? (i := 528) (by decide +kernel)))⟩
theorem oiX3_3 : Cond.methodLink RX3 3 Lib.objectInit ∈ lw_tbl := (mem_tb (List.mem_of_getElem? (i := 238) (by decide +kernel)))
theorem clX3_19 : CLV RX3 19 M_X6_rewind 0 := ⟨⟨Or.inl (mem_tb (List.mem_of_getElem? (i := 703) (by decide +kernel))), (mem_tb (List.mem_of_getElem? (i := 706) (by decide +kernel))), (mem_tb (List.mem_of_getElem? (i := 10) (by decide +kernel))), by decide +kernel, by decide +kernel⟩, (mem_tb (List.mem_of_getElem? (i := 704) (by decide +kernel))), (mem_tb (List.mem_of_getElem? (i := 705) (by decide +kernel)))⟩
theorem clX3_24 : CLV RX3 24 M_X6_hasMore 0 := ⟨⟨Or.inl (mem_tb (List.mem_of_getElem? (i := 707) (by decide +kernel))), (mem_tb (List.mem_of_getElem? (i := 710) (by decide +kernel))), (mem_tb (List.mem_of_getElem? (i := 10) (by decide +kernel))), by decide +kernel, by decide +kernel⟩, (mem_tb (List.mem_of_getElem? (i := 708) (by decide +kernel))), (mem_tb (List.mem_of_getElem? (i := 709) (by decide +kernel)))⟩
theorem clX3_34 : CLV RX3 34 M_X6_readCommand 0 := ⟨⟨Or.inl (mem_tb (List.mem_of_getElem? (i := 711) (by decide +kernel))), (mem_tb (List.mem_of_getElem? (i := 714) (by decide +kernel))), (mem_tb (List.mem_of_getElem? (i := 10) (by decide +kernel))), by decide +kernel, by decide +kernel⟩, (mem_tb (List.mem_of_getElem? (i := 712) (by decide +kernel))), (mem_tb (List.mem_of_getElem? (i := 713) (by decide +kernel)))⟩
theorem clX3_37 : CLV RX3 37 M_X3_tellFault 2 := ⟨⟨Or.inl (mem_tb (List.mem_of_getElem? (i := 731) (by decide +kernel))), (mem_tb (List.mem_of_getElem? (i := 734) (by decide +kernel))), (mem_tb (List.mem_of_getElem? (i := 11) (by decide +kernel))), by decide +kernel, by decide +kernel⟩, (mem_tb (List.mem_of_getElem? (i := 733) (by decide +kernel))), (mem_sel (List.mem_of_getElem? (i := 17) (by decide +kernel)))⟩
theorem clX3_41 : CLS RX3 41 M_X3_perform 2 := ⟨⟨Or.inl (mem_tb (List.mem_of_getElem? (i := 735) (by decide +kernel))), (mem_tb (List.mem_of_getElem? (i := 737) (by decide +kernel))), (mem_tb (List.mem_of_getElem? (i := 11) (by decide +kernel))), by decide +kernel, by decide +kernel⟩, (mem_tb (List.mem_of_getElem? (i := 736) (by decide +kernel)))⟩
theorem clX3_60 : CLV RX3 60 M_X4_askFor 3 := ⟨⟨Or.inl (mem_tb (List.mem_of_getElem? (i := 738) (by decide +kernel))), (mem_tb (List.mem_of_getElem? (i := 451) (by decide +kernel))), (mem_tb (List.mem_of_getElem? (i := 2) (by decide +kernel))), by decide +kernel, by decide +kernel⟩, (mem_tb (List.mem_of_getElem? (i := 449) (by decide +kernel))), (mem_tb (List.mem_of_getElem? (i := 450) (by decide +kernel)))⟩
theorem clX3_66 : CLV RX3 66 M_X4_letTicks 1 := ⟨⟨Or.inl (mem_tb (List.mem_of_getElem? (i := 739) (by decide +kernel))), (mem_tb (List.mem_of_getElem? (i := 484) (by decide +kernel))), (mem_tb (List.mem_of_getElem? (i := 2) (by decide +kernel))), by decide +kernel, by decide +kernel⟩, (mem_tb (List.mem_of_getElem? (i := 482) (by decide +kernel))), (mem_tb (List.mem_of_getElem? (i := 483) (by decide +kernel)))⟩
theorem clX3_70 : CLV RX3 70 M_X4_cutPower 0 := ⟨⟨Or.inl (mem_tb (List.mem_of_getElem? (i := 740) (by decide +kernel))), (mem_tb (List.mem_of_getElem? (i := 559) (by decide +kernel))), (mem_tb (List.mem_of_getElem? (i := 2) (by decide +kernel))), by decide +kernel, by decide +kernel⟩, (mem_tb (List.mem_of_getElem? (i := 557) (by decide +kernel))), (mem_tb (List.mem_of_getElem? (i := 558) (by decide +kernel)))⟩
theorem clX3_74 : CLV RX3 74 M_X4_restorePower 0 := ⟨⟨Or.inl (mem_tb (List.mem_of_getElem? (i := 741) (by decide +kernel))), (mem_tb (List.mem_of_getElem? (i := 593) (by decide +kernel))), (mem_tb (List.mem_of_getElem? (i := 2) (by decide +kernel))), by decide +kernel, by decide +kernel⟩, (mem_tb (List.mem_of_getElem? (i := 591) (by decide +kernel))), (mem_tb (List.mem_of_getElem? (i := 592) (by decide +kernel)))⟩
theorem clX3_77 : CLV RX3 77 M_X4_turnToOther 0 := ⟨⟨Or.inl (mem_tb (List.mem_of_getElem? (i := 742) (by decide +kernel))), (mem_tb (List.mem_of_getElem? (i := 612) (by decide +kernel))), (mem_tb (List.mem_of_getElem? (i := 2) (by decide +kernel))), by decide +kernel, by decide +kernel⟩, (mem_tb (List.mem_of_getElem? (i := 610) (by decide +kernel))), (mem_tb (List.mem_of_getElem? (i := 611) (by decide +kernel)))⟩
theorem clX3_80 : CLV RX3 80 M_X4_cleanBlock 1 := ⟨⟨Or.inl (mem_tb (List.mem_of_getElem? (i := 743) (by decide +kernel))), (mem_tb (List.mem_of_getElem? (i := 625) (by decide +kernel))), (mem_tb (List.mem_of_getElem? (i := 2) (by decide +kernel))), by decide +kernel, by decide +kernel⟩, (mem_tb (List.mem_of_getElem? (i := 623) (by decide +kernel))), (mem_tb (List.mem_of_getElem? (i := 624) (by decide +kernel)))⟩
theorem clX3_83 : CLV RX3 83 M_X4_eraseBlock 1 := ⟨⟨Or.inl (mem_tb (List.mem_of_getElem? (i := 744) (by decide +kernel))), (mem_tb (List.mem_of_getElem? (i := 638) (by decide +kernel))), (mem_tb (List.mem_of_getElem? (i := 2) (by decide +kernel))), by decide +kernel, by decide +kernel⟩, (mem_tb (List.mem_of_getElem? (i := 636) (by decide +kernel))), (mem_tb (List.mem_of_getElem? (i := 637) (by decide +kernel)))⟩
theorem oiX4_3 : Cond.methodLink RX4 3 Lib.objectInit ∈ lw_tbl := (mem_tb (List.mem_of_getElem? (i := 26) (by decide +kernel)))
theorem clX4_11 : CLI RX4 11 M_X0_init 0 := ⟨⟨Or.inr ⟨"PagePairs", (mem_tb (List.mem_of_getElem? (i := 29) (by decide +kernel)))⟩, (mem_tb (List.mem_of_getElem? (i := 31) (by decide +kernel))), (mem_tb (List.mem_of_getElem? (i := 3) (by decide +kernel))), by decide +kernel, by decide +kernel⟩, by decide +kernel, (mem_tb (List.mem_of_getElem? (i := 30) (by decide +kernel))), rfl⟩
theorem clX4_20 : CLI RX4 20 M_X2_init 0 := ⟨⟨Or.inr ⟨"PagePairs", (mem_tb (List.mem_of_getElem? (i := 49) (by decide +kernel)))⟩, (mem_tb (List.mem_of_getElem? (i := 51) (by decide +kernel))), (mem_tb (List.mem_of_getElem? (i := 4) (by decide +kernel))), by decide +kernel, by decide +kernel⟩, by decide +kernel, (mem_tb (List.mem_of_getElem? (i := 50) (by decide +kernel))), rfl⟩
theorem clX4_27 : CLI RX4 27 M_X7_init 0 := ⟨⟨Or.inr ⟨"PagePairs", (mem_tb (List.mem_of_getElem? (i := 71) (by decide +kernel)))⟩, (mem_tb (List.mem_of_getElem? (i := 73) (by decide +kernel))), (mem_tb (List.mem_of_getElem? (i := 5) (by decide +kernel))), by decide +kernel, by decide +kernel⟩, by decide +kernel, (mem_tb (List.mem_of_getElem? (i := 72) (by decide +kernel))), rfl⟩
theorem clX4_34 : CLI RX4 34 M_X5_init 0 := ⟨⟨Or.inr ⟨"PagePairs", (mem_tb (List.mem_of_getElem? (i := 110) (by decide +kernel)))⟩, (mem_tb (List.mem_of_getElem? (i := 112) (by decide +kernel))), (mem_tb (List.mem_of_getElem? (i := 6) (by decide +kernel))), by decide +kernel, by decide +kernel⟩, by decide +kernel, (mem_tb (List.mem_of_getElem? (i := 111) (by decide +kernel))), rfl⟩
theorem clX4_59 : CLS RX4 59 M_X8_copyRow 2 := ⟨⟨Or.inr ⟨"PagePairs", (mem_tb (List.mem_of_getElem? (i := 145) (by decide +kernel)))⟩, (mem_tb (List.mem_of_getElem? (i := 147) (by decide +kernel))), (mem_tb (List.mem_of_getElem? (i := 1) (by decide +kernel))), by decide +kernel, by decide +kernel⟩, (mem_tb (List.mem_of_getElem? (i := 146) (by decide +kernel)))⟩
theorem clX4_63 : CLV RX4 63 M_X0_copyFrom 1 := ⟨⟨Or.inl (mem_tb (List.mem_of_getElem? (i := 329) (by decide +kernel))), (mem_tb (List.mem_of_getElem? (i := 332) (by decide +kernel))), (mem_tb (List.mem_of_getElem? (i := 3) (by decide +kernel))), by decide +kernel, by decide +kernel⟩, (mem_tb (List.mem_of_getElem? (i := 330) (by decide +kernel))), (mem_tb (List.mem_of_getElem? (i := 331) (by decide +kernel)))⟩
theorem clX4_67 : CLV RX4 67 M_X2_copyFrom 1 := ⟨⟨Or.inl (mem_tb (List.mem_of_getElem? (i := 334) (by decide +kernel))), (mem_tb (List.mem_of_getElem? (i := 337) (by decide +kernel))), (mem_tb (List.mem_of_getElem? (i := 4) (by decide +kernel))), by decide +kernel, by decide +kernel⟩, (mem_tb (List.mem_of_getElem? (i := 335) (by decide +kernel))), (mem_tb (List.mem_of_getElem? (i := 336) (by decide +kernel)))⟩
theorem clX4_70 : CLV RX4 70 M_X7_copyFrom 1 := ⟨⟨Or.inl (mem_tb (List.mem_of_getElem? (i := 339) (by decide +kernel))), (mem_tb (List.mem_of_getElem? (i := 342) (by decide +kernel))), (mem_tb (List.mem_of_getElem? (i := 5) (by decide +kernel))), by decide +kernel, by decide +kernel⟩, (mem_tb (List.mem_of_getElem? (i := 340) (by decide +kernel))), (mem_tb (List.mem_of_getElem? (i := 341) (by decide +kernel)))⟩
theorem clX4_73 : CLV RX4 73 M_X5_copyFrom 1 := ⟨⟨Or.inl (mem_tb (List.mem_of_getElem? (i := 343) (by decide +kernel))), (mem_tb (List.mem_of_getElem? (i := 346) (by decide +kernel))), (mem_tb (List.mem_of_getElem? (i := 6) (by decide +kernel))), by decide +kernel, by decide +kernel⟩, (mem_tb (List.mem_of_getElem? (i := 344) (by decide +kernel))), (mem_tb (List.mem_of_getElem? (i := 345) (by decide +kernel)))⟩
theorem clX4_83 : CLS RX4 83 M_X8_isIn 3 := ⟨⟨Or.inr ⟨"PagePairs", (mem_tb (List.mem_of_getElem? (i := 310) (by decide +kernel)))⟩, (mem_tb (List.mem_of_getElem? (i := 312) (by decide +kernel))), (mem_tb (List.mem_of_getElem? (i := 1) (by decide +kernel))), by decide +kernel, by decide +kernel⟩, (mem_tb (List.mem_of_getElem? (i := 311) (by decide +kernel)))⟩
theorem clX4_87 : CLV RX4 87 M_X2_size 0 := ⟨⟨Or.inl (mem_tb (List.mem_of_getElem? (i := 287) (by decide +kernel))), (mem_tb (List.mem_of_getElem? (i := 290) (by decide +kernel))), (mem_tb (List.mem_of_getElem? (i := 4) (by decide +kernel))), by decide +kernel, by decide +kernel⟩, (mem_tb (List.mem_of_getElem? (i := 288) (by decide +kernel))), (mem_tb (List.mem_of_getElem? (i := 289) (by decide +kernel)))⟩
theorem clX4_91 : CLV RX4 91 M_X2_add 4 := ⟨⟨Or.inl (mem_tb (List.mem_of_getElem? (i := 452) (by decide +kernel))), (mem_tb (List.mem_of_getElem? (i := 455) (by decide +kernel))), (mem_tb (List.mem_of_getElem? (i := 4) (by decide +kernel))), by decide +kernel, by decide +kernel⟩, (mem_tb (List.mem_of_getElem? (i := 453) (by decide +kernel))), (mem_tb (List.mem_of_getElem? (i := 454) (by decide +kernel)))⟩
theorem clX4_101 : CLV RX4 101 M_X4_pass 1 := ⟨⟨Or.inl (mem_tb (List.mem_of_getElem? (i := 485) (by decide +kernel))), (mem_tb (List.mem_of_getElem? (i := 488) (by decide +kernel))), (mem_tb (List.mem_of_getElem? (i := 2) (by decide +kernel))), by decide +kernel, by decide +kernel⟩, (mem_tb (List.mem_of_getElem? (i := 486) (by decide +kernel))), (mem_tb (List.mem_of_getElem? (i := 487) (by decide +kernel)))⟩
theorem clX4_108 : CLV RX4 108 M_X4_takeRequests 0 := ⟨⟨Or.inl (mem_tb (List.mem_of_getElem? (i := 489) (by decide +kernel))), (mem_tb (List.mem_of_getElem? (i := 492) (by decide +kernel))), (mem_tb (List.mem_of_getElem? (i := 2) (by decide +kernel))), by decide +kernel, by decide +kernel⟩, (mem_tb (List.mem_of_getElem? (i := 491) (by decide +kernel))), (mem_sel (List.mem_of_getElem? (i := 6) (by decide +kernel)))⟩
theorem clX4_114 : CLS RX4 114 M_J9_min_7cf53 2 := ⟨⟨Or.inl (mem_tb (List.mem_of_getElem? (i := 530) (by decide +kernel))), (mem_tb (List.mem_of_getElem? (i := 150) (by decide +kernel))), (mem_tb (List.mem_of_getElem? (i := 7) (by decide +kernel))), by decide +kernel, by decide +kernel⟩, (mem_tb (List.mem_of_getElem? (i := 149) (by decide +kernel)))⟩
theorem clX4_120 : CLS RX4 120 M_J9_max_7cf53 2 := ⟨⟨Or.inl (mem_tb (List.mem_of_getElem? (i := 531) (by decide +kernel))), (mem_tb (List.mem_of_getElem? (i := 529) (by decide +kernel))), (mem_tb (List.mem_of_getElem? (i := 7) (by decide +kernel))), by decide +kernel, by decide +kernel⟩, (mem_tb (List.mem_of_getElem? (i := 528) (by decide +kernel)))⟩
theorem clX4_123 : CLV RX4 123 M_X4_goOn 1 := ⟨⟨Or.inl (mem_tb (List.mem_of_getElem? (i := 532) (by decide +kernel))), (mem_tb (List.mem_of_getElem? (i := 535) (by decide +kernel))), (mem_tb (List.mem_of_getElem? (i := 2) (by decide +kernel))), by decide +kernel, by decide +kernel⟩, (mem_tb (List.mem_of_getElem? (i := 534) (by decide +kernel))), (mem_sel (List.mem_of_getElem? (i := 10) (by decide +kernel)))⟩
theorem clX4_126 : CLV RX4 126 M_X4_isFull 0 := ⟨⟨Or.inl (mem_tb (List.mem_of_getElem? (i := 493) (by decide +kernel))), (mem_tb (List.mem_of_getElem? (i := 496) (by decide +kernel))), (mem_tb (List.mem_of_getElem? (i := 2) (by decide +kernel))), by decide +kernel, by decide +kernel⟩, (mem_tb (List.mem_of_getElem? (i := 495) (by decide +kernel))), (mem_sel (List.mem_of_getElem? (i := 7) (by decide +kernel)))⟩
theorem clX4_130 : CLV RX4 130 M_X4_isOutdated 0 := ⟨⟨Or.inl (mem_tb (List.mem_of_getElem? (i := 497) (by decide +kernel))), (mem_tb (List.mem_of_getElem? (i := 500) (by decide +kernel))), (mem_tb (List.mem_of_getElem? (i := 2) (by decide +kernel))), by decide +kernel, by decide +kernel⟩, (mem_tb (List.mem_of_getElem? (i := 499) (by decide +kernel))), (mem_sel (List.mem_of_getElem? (i := 8) (by decide +kernel)))⟩
theorem clX4_133 : CLV RX4 133 M_X4_beginWriting 0 := ⟨⟨Or.inl (mem_tb (List.mem_of_getElem? (i := 505) (by decide +kernel))), (mem_tb (List.mem_of_getElem? (i := 508) (by decide +kernel))), (mem_tb (List.mem_of_getElem? (i := 2) (by decide +kernel))), by decide +kernel, by decide +kernel⟩, (mem_tb (List.mem_of_getElem? (i := 507) (by decide +kernel))), (mem_sel (List.mem_of_getElem? (i := 9) (by decide +kernel)))⟩
theorem clX4_136 : CLV RX4 136 M_X2_dropFirst 0 := ⟨⟨Or.inl (mem_tb (List.mem_of_getElem? (i := 523) (by decide +kernel))), (mem_tb (List.mem_of_getElem? (i := 526) (by decide +kernel))), (mem_tb (List.mem_of_getElem? (i := 4) (by decide +kernel))), by decide +kernel, by decide +kernel⟩, (mem_tb (List.mem_of_getElem? (i := 524) (by decide +kernel))), (mem_tb (List.mem_of_getElem? (i := 525) (by decide +kernel)))⟩
theorem clX4_139 : CLV RX4 139 M_X2_urgency 1 := ⟨⟨Or.inl (mem_tb (List.mem_of_getElem? (i := 419) (by decide +kernel))), (mem_tb (List.mem_of_getElem? (i := 422) (by decide +kernel))), (mem_tb (List.mem_of_getElem? (i := 4) (by decide +kernel))), by decide +kernel, by decide +kernel⟩, (mem_tb (List.mem_of_getElem? (i := 420) (by decide +kernel))), (mem_tb (List.mem_of_getElem? (i := 421) (by decide +kernel)))⟩
theorem clX4_143 : CLV RX4 143 M_X2_key 1 := ⟨⟨Or.inl (mem_tb (List.mem_of_getElem? (i := 411) (by decide +kernel))), (mem_tb (List.mem_of_getElem? (i := 414) (by decide +kernel))), (mem_tb (List.mem_of_getElem? (i := 4) (by decide +kernel))), by decide +kernel, by decide +kernel⟩, (mem_tb (List.mem_of_getElem? (i := 412) (by decide +kernel))), (mem_tb (List.mem_of_getElem? (i := 413) (by decide +kernel)))⟩
theorem clX4_146 : CLV RX4 146 M_X0_place 1 := ⟨⟨Or.inl (mem_tb (List.mem_of_getElem? (i := 434) (by decide +kernel))), (mem_tb (List.mem_of_getElem? (i := 302) (by decide +kernel))), (mem_tb (List.mem_of_getElem? (i := 3) (by decide +kernel))), by decide +kernel, by decide +kernel⟩, (mem_tb (List.mem_of_getElem? (i := 300) (by decide +kernel))), (mem_tb (List.mem_of_getElem? (i := 301) (by decide +kernel)))⟩
theorem clX4_149 : CLV RX4 149 M_X0_stamp 1 := ⟨⟨Or.inl (mem_tb (List.mem_of_getElem? (i := 435) (by decide +kernel))), (mem_tb (List.mem_of_getElem? (i := 394) (by decide +kernel))), (mem_tb (List.mem_of_getElem? (i := 3) (by decide +kernel))), by decide +kernel, by decide +kernel⟩, (mem_tb (List.mem_of_getElem? (i := 392) (by decide +kernel))), (mem_tb (List.mem_of_getElem? (i := 393) (by decide +kernel)))⟩
theorem clX4_152 : CLV RX4 152 M_X2_stamp 1 := ⟨⟨Or.inl (mem_tb (List.mem_of_getElem? (i := 501) (by decide +kernel))), (mem_tb (List.mem_of_getElem? (i := 504) (by decide +kernel))), (mem_tb (List.mem_of_getElem? (i := 4) (by decide +kernel))), by decide +kernel, by decide +kernel⟩, (mem_tb (List.mem_of_getElem? (i := 502) (by decide +kernel))), (mem_tb (List.mem_of_getElem? (i := 503) (by decide +kernel)))⟩
theorem clX4_156 : CLS RX4 156 M_X8_valueAt 2 := ⟨⟨Or.inr ⟨"PagePairs", (mem_tb (List.mem_of_getElem? (i := 303) (by decide +kernel)))⟩, (mem_tb (List.mem_of_getElem? (i := 305) (by decide +kernel))), (mem_tb (List.mem_of_getElem? (i := 1) (by decide +kernel))), by decide +kernel, by decide +kernel⟩, (mem_tb (List.mem_of_getElem? (i := 304) (by decide +kernel)))⟩
theorem clX4_168 : CLS RX4 168 M_X8_cellOf 2 := ⟨⟨Or.inr ⟨"PagePairs", (mem_tb (List.mem_of_getElem? (i := 368) (by decide +kernel)))⟩, (mem_tb (List.mem_of_getElem? (i := 370) (by decide +kernel))), (mem_tb (List.mem_of_getElem? (i := 1) (by decide +kernel))), by decide +kernel, by decide +kernel⟩, (mem_tb (List.mem_of_getElem? (i := 369) (by decide +kernel)))⟩
theorem clX4_174 : CLS RX4 174 M_X8_earlyPosition 1 := ⟨⟨Or.inr ⟨"PagePairs", (mem_tb (List.mem_of_getElem? (i := 509) (by decide +kernel)))⟩, (mem_tb (List.mem_of_getElem? (i := 511) (by decide +kernel))), (mem_tb (List.mem_of_getElem? (i := 1) (by decide +kernel))), by decide +kernel, by decide +kernel⟩, (mem_tb (List.mem_of_getElem? (i := 510) (by decide +kernel)))⟩
theorem clX4_183 : CLS RX4 183 M_X8_quotient 2 := ⟨⟨Or.inr ⟨"PagePairs", (mem_tb (List.mem_of_getElem? (i := 512) (by decide +kernel)))⟩, (mem_tb (List.mem_of_getElem? (i := 514) (by decide +kernel))), (mem_tb (List.mem_of_getElem? (i := 1) (by decide +kernel))), by decide +kernel, by decide +kernel⟩, (mem_tb (List.mem_of_getElem? (i := 513) (by decide +kernel)))⟩
theorem clX4_192 : CLV RX4 192 M_X2_value 1 := ⟨⟨Or.inl (mem_tb (List.mem_of_getElem? (i := 415) (by decide +kernel))), (mem_tb (List.mem_of_getElem? (i := 418) (by decide +kernel))), (mem_tb (List.mem_of_getElem? (i := 4) (by decide +kernel))), by decide +kernel, by decide +kernel⟩, (mem_tb (List.mem_of_getElem? (i := 416) (by decide +kernel))), (mem_tb (List.mem_of_getElem? (i := 417) (by decide +kernel)))⟩
theorem clX4_195 : CLV RX4 195 M_X0_begin 4 := ⟨⟨Or.inl (mem_tb (List.mem_of_getElem? (i := 515) (by decide +kernel))), (mem_tb (List.mem_of_getElem? (i := 518) (by decide +kernel))), (mem_tb (List.mem_of_getElem? (i := 3) (by decide +kernel))), by decide +kernel, by decide +kernel⟩, (mem_tb (List.mem_of_getElem? (i := 516) (by decide +kernel))), (mem_tb (List.mem_of_getElem? (i := 517) (by decide +kernel)))⟩
theorem clX4_198 : CLV RX4 198 M_X0_kind 1 := ⟨⟨Or.inl (mem_tb (List.mem_of_getElem? (i := 371) (by decide +kernel))), (mem_tb (List.mem_of_getElem? (i := 374) (by decide +kernel))), (mem_tb (List.mem_of_getElem? (i := 3) (by decide +kernel))), by decide +kernel, by decide +kernel⟩, (mem_tb (List.mem_of_getElem? (i := 372) (by decide +kernel))), (mem_tb (List.mem_of_getElem? (i := 373) (by decide +kernel)))⟩
theorem clX4_201 : CLV RX4 201 M_X0_beginBackup 2 := ⟨⟨Or.inl (mem_tb (List.mem_of_getElem? (i := 519) (by decide +kernel))), (mem_tb (List.mem_of_getElem? (i := 522) (by decide +kernel))), (mem_tb (List.mem_of_getElem? (i := 3) (by decide +kernel))), by decide +kernel, by decide +kernel⟩, (mem_tb (List.mem_of_getElem? (i := 520) (by decide +kernel))), (mem_tb (List.mem_of_getElem? (i := 521) (by decide +kernel)))⟩
theorem clX4_205 : CLV RX4 205 M_X7_isBehindBackup 0 := ⟨⟨Or.inl (mem_tb (List.mem_of_getElem? (i := 536) (by decide +kernel))), (mem_tb (List.mem_of_getElem? (i := 539) (by decide +kernel))), (mem_tb (List.mem_of_getElem? (i := 5) (by decide +kernel))), by decide +kernel, by decide +kernel⟩, (mem_tb (List.mem_of_getElem? (i := 537) (by decide +kernel))), (mem_tb (List.mem_of_getElem? (i := 538) (by decide +kernel)))⟩
theorem clX4_208 : CLV RX4 208 M_X0_mark 2 := ⟨⟨Or.inl (mem_tb (List.mem_of_getElem? (i := 540) (by decide +kernel))), (mem_tb (List.mem_of_getElem? (i := 543) (by decide +kernel))), (mem_tb (List.mem_of_getElem? (i := 3) (by decide +kernel))), by decide +kernel, by decide +kernel⟩, (mem_tb (List.mem_of_getElem? (i := 541) (by decide +kernel))), (mem_tb (List.mem_of_getElem? (i := 542) (by decide +kernel)))⟩
theorem clX4_214 : CLV RX4 214 M_X4_finishWriting 0 := ⟨⟨Or.inl (mem_tb (List.mem_of_getElem? (i := 544) (by decide +kernel))), (mem_tb (List.mem_of_getElem? (i := 547) (by decide +kernel))), (mem_tb (List.mem_of_getElem? (i := 2) (by decide +kernel))), by decide +kernel, by decide +kernel⟩, (mem_tb (List.mem_of_getElem? (i := 546) (by decide +kernel))), (mem_sel (List.mem_of_getElem? (i := 11) (by decide +kernel)))⟩
theorem clX4_217 : CLV RX4 217 M_X7_isAskedFor 0 := ⟨⟨Or.inl (mem_tb (List.mem_of_getElem? (i := 548) (by decide +kernel))), (mem_tb (List.mem_of_getElem? (i := 551) (by decide +kernel))), (mem_tb (List.mem_of_getElem? (i := 5) (by decide +kernel))), by decide +kernel, by decide +kernel⟩, (mem_tb (List.mem_of_getElem? (i := 549) (by decide +kernel))), (mem_tb (List.mem_of_getElem? (i := 550) (by decide +kernel)))⟩
theorem clX4_220 : CLV RX4 220 M_X4_loseByCut 0 := ⟨⟨Or.inl (mem_tb (List.mem_of_getElem? (i := 560) (by decide +kernel))), (mem_tb (List.mem_of_getElem? (i := 563) (by decide +kernel))), (mem_tb (List.mem_of_getElem? (i := 2) (by decide +kernel))), by decide +kernel, by decide +kernel⟩, (mem_tb (List.mem_of_getElem? (i := 561) (by decide +kernel))), (mem_tb (List.mem_of_getElem? (i := 562) (by decide +kernel)))⟩
theorem clX4_223 : CLS RX4 223 M_J6_bitCount_0f7a4 1 := ⟨⟨Or.inl (mem_tb (List.mem_of_getElem? (i := 580) (by decide +kernel))), (mem_tb (List.mem_of_getElem? (i := 582) (by decide +kernel))), (mem_tb (List.mem_of_getElem? (i := 12) (by decide +kernel))), by decide +kernel, by decide +kernel⟩, (mem_tb (List.mem_of_getElem? (i := 581) (by decide +kernel)))⟩
theorem clX4_228 : CLV RX4 228 M_X0_placeStamp 1 := ⟨⟨Or.inl (mem_tb (List.mem_of_getElem? (i := 564) (by decide +kernel))), (mem_tb (List.mem_of_getElem? (i := 567) (by decide +kernel))), (mem_tb (List.mem_of_getElem? (i := 3) (by decide +kernel))), by decide +kernel, by decide +kernel⟩, (mem_tb (List.mem_of_getElem? (i := 565) (by decide +kernel))), (mem_tb (List.mem_of_getElem? (i := 566) (by decide +kernel)))⟩
theorem clX4_237 : CLV RX4 237 M_X2_makeEmpty 0 := ⟨⟨Or.inl (mem_tb (List.mem_of_getElem? (i := 568) (by decide +kernel))), (mem_tb (List.mem_of_getElem? (i := 571) (by decide +kernel))), (mem_tb (List.mem_of_getElem? (i := 4) (by decide +kernel))), by decide +kernel, by decide +kernel⟩, (mem_tb (List.mem_of_getElem? (i := 569) (by decide +kernel))), (mem_tb (List.mem_of_getElem? (i := 570) (by decide +kernel)))⟩
theorem clX4_240 : CLV RX4 240 M_X4_tearWriting 0 := ⟨⟨Or.inl (mem_tb (List.mem_of_getElem? (i := 572) (by decide +kernel))), (mem_tb (List.mem_of_getElem? (i := 575) (by decide +kernel))), (mem_tb (List.mem_of_getElem? (i := 2) (by decide +kernel))), by decide +kernel, by decide +kernel⟩, (mem_tb (List.mem_of_getElem? (i := 574) (by decide +kernel))), (mem_sel (List.mem_of_getElem? (i := 12) (by decide +kernel)))⟩
theorem clX4_246 : CLV RX4 246 M_X7_hasBegunItself 0 := ⟨⟨Or.inl (mem_tb (List.mem_of_getElem? (i := 576) (by decide +kernel))), (mem_tb (List.mem_of_getElem? (i := 579) (by decide +kernel))), (mem_tb (List.mem_of_getElem? (i := 5) (by decide +kernel))), by decide +kernel, by decide +kernel⟩, (mem_tb (List.mem_of_getElem? (i := 577) (by decide +kernel))), (mem_tb (List.mem_of_getElem? (i := 578) (by decide +kernel)))⟩
theorem clX4_249 : CLV RX4 249 M_X4_askForCopy 2 := ⟨⟨Or.inl (mem_tb (List.mem_of_getElem? (i := 594) (by decide +kernel))), (mem_tb (List.mem_of_getElem? (i := 597) (by decide +kernel))), (mem_tb (List.mem_of_getElem? (i := 2) (by decide +kernel))), by decide +kernel, by decide +kernel⟩, (mem_tb (List.mem_of_getElem? (i := 596) (by decide +kernel))), (mem_sel (List.mem_of_getElem? (i := 13) (by decide +kernel)))⟩
theorem clX4_252 : CLV RX4 252 M_X0_isPlace 1 := ⟨⟨Or.inl (mem_tb (List.mem_of_getElem? (i := 598) (by decide +kernel))), (mem_tb (List.mem_of_getElem? (i := 601) (by decide +kernel))), (mem_tb (List.mem_of_getElem? (i := 3) (by decide +kernel))), by decide +kernel, by decide +kernel⟩, (mem_tb (List.mem_of_getElem? (i := 599) (by decide +kernel))), (mem_tb (List.mem_of_getElem? (i := 600) (by decide +kernel)))⟩
theorem clX4_256 : CLV RX4 256 M_X0_key 1 := ⟨⟨Or.inl (mem_tb (List.mem_of_getElem? (i := 603) (by decide +kernel))), (mem_tb (List.mem_of_getElem? (i := 386) (by decide +kernel))), (mem_tb (List.mem_of_getElem? (i := 3) (by decide +kernel))), by decide +kernel, by decide +kernel⟩, (mem_tb (List.mem_of_getElem? (i := 384) (by decide +kernel))), (mem_tb (List.mem_of_getElem? (i := 385) (by decide +kernel)))⟩
theorem clX4_257 : CLV RX4 257 M_X0_value 1 := ⟨⟨Or.inl (mem_tb (List.mem_of_getElem? (i := 604) (by decide +kernel))), (mem_tb (List.mem_of_getElem? (i := 390) (by decide +kernel))), (mem_tb (List.mem_of_getElem? (i := 3) (by decide +kernel))), by decide +kernel, by decide +kernel⟩, (mem_tb (List.mem_of_getElem? (i := 388) (by decide +kernel))), (mem_tb (List.mem_of_getElem? (i := 389) (by decide +kernel)))⟩
theorem clX4_258 : CLV RX4 258 M_X0_isBlankBlock 1 := ⟨⟨Or.inl (mem_tb (List.mem_of_getElem? (i := 613) (by decide +kernel))), (mem_tb (List.mem_of_getElem? (i := 616) (by decide +kernel))), (mem_tb (List.mem_of_getElem? (i := 3) (by decide +kernel))), by decide +kernel, by decide +kernel⟩, (mem_tb (List.mem_of_getElem? (i := 614) (by decide +kernel))), (mem_tb (List.mem_of_getElem? (i := 615) (by decide +kernel)))⟩
theorem clX4_261 : CLV RX4 261 M_X0_placesInBlock 1 := ⟨⟨Or.inl (mem_tb (List.mem_of_getElem? (i := 626) (by decide +kernel))), (mem_tb (List.mem_of_getElem? (i := 629) (by decide +kernel))), (mem_tb (List.mem_of_getElem? (i := 3) (by decide +kernel))), by decide +kernel, by decide +kernel⟩, (mem_tb (List.mem_of_getElem? (i := 627) (by decide +kernel))), (mem_tb (List.mem_of_getElem? (i := 628) (by decide +kernel)))⟩
theorem clX4_264 : CLV RX4 264 M_X0_blankBlock 1 := ⟨⟨Or.inl (mem_tb (List.mem_of_getElem? (i := 639) (by decide +kernel))), (mem_tb (List.mem_of_getElem? (i := 642) (by decide +kernel))), (mem_tb (List.mem_of_getElem? (i := 3) (by decide +kernel))), by decide +kernel, by decide +kernel⟩, (mem_tb (List.mem_of_getElem? (i := 640) (by decide +kernel))), (mem_tb (List.mem_of_getElem? (i := 641) (by decide +kernel)))⟩
theorem clX4_267 : CLS RX4 267 M_X8_putAt 3 := ⟨⟨Or.inr ⟨"PagePairs", (mem_tb (List.mem_of_getElem? (i := 644) (by decide +kernel)))⟩, (mem_tb (List.mem_of_getElem? (i := 646) (by decide +kernel))), (mem_tb (List.mem_of_getElem? (i := 1) (by decide +kernel))), by decide +kernel, by decide +kernel⟩, (mem_tb (List.mem_of_getElem? (i := 645) (by decide +kernel)))⟩
theorem clX4_277 : CLV RX4 277 M_X0_fact 2 := ⟨⟨Or.inl (mem_tb (List.mem_of_getElem? (i := 379) (by decide +kernel))), (mem_tb (List.mem_of_getElem? (i := 382) (by decide +kernel))), (mem_tb (List.mem_of_getElem? (i := 3) (by decide +kernel))), by decide +kernel, by decide +kernel⟩, (mem_tb (List.mem_of_getElem? (i := 380) (by decide +kernel))), (mem_tb (List.mem_of_getElem? (i := 381) (by decide +kernel)))⟩
theorem clX4_280 : CLV RX4 280 M_X0_tornPages 0 := ⟨⟨Or.inl (mem_tb (List.mem_of_getElem? (i := 291) (by decide +kernel))), (mem_tb (List.mem_of_getElem? (i := 294) (by decide +kernel))), (mem_tb (List.mem_of_getElem? (i := 3) (by decide +kernel))), by decide +kernel, by decide +kernel⟩, (mem_tb (List.mem_of_getElem? (i := 292) (by decide +kernel))), (mem_tb (List.mem_of_getElem? (i := 293) (by decide +kernel)))⟩
theorem clX4_283 : CLV RX4 283 M_X0_keysWithPlace 0 := ⟨⟨Or.inl (mem_tb (List.mem_of_getElem? (i := 295) (by decide +kernel))), (mem_tb (List.mem_of_getElem? (i := 298) (by decide +kernel))), (mem_tb (List.mem_of_getElem? (i := 3) (by decide +kernel))), by decide +kernel, by decide +kernel⟩, (mem_tb (List.mem_of_getElem? (i := 296) (by decide +kernel))), (mem_tb (List.mem_of_getElem? (i := 297) (by decide +kernel)))⟩
theorem clX4_286 : CLV RX4 286 M_X4_settingOrSlowness 1 := ⟨⟨Or.inl (mem_tb (List.mem_of_getElem? (i := 306) (by decide +kernel))), (mem_tb (List.mem_of_getElem? (i := 309) (by decide +kernel))), (mem_tb (List.mem_of_getElem? (i := 2) (by decide +kernel))), by decide +kernel, by decide +kernel⟩, (mem_tb (List.mem_of_getElem? (i := 308) (by decide +kernel))), (mem_sel (List.mem_of_getElem? (i := 0) (by decide +kernel)))⟩
theorem oiX5_1 : Cond.methodLink RX5 1 Lib.objectInit ∈ lw_tbl := (mem_tb (List.mem_of_getElem? (i := 113) (by decide +kernel)))
theorem oiX6_3 : Cond.methodLink RX6 3 Lib.objectInit ∈ lw_tbl := (mem_tb (List.mem_of_getElem? (i := 209) (by decide +kernel)))
theorem clX6_19 : CLS RX6 19 M_X8_isIn 3 := ⟨⟨Or.inr ⟨"PagePairs", (mem_tb (List.mem_of_getElem? (i := 686) (by decide +kernel)))⟩, (mem_tb (List.mem_of_getElem? (i := 312) (by decide +kernel))), (mem_tb (List.mem_of_getElem? (i := 1) (by decide +kernel))), by decide +kernel, by decide +kernel⟩, (mem_tb (List.mem_of_getElem? (i := 311) (by decide +kernel)))⟩
theorem clX6_23 : CLS RX6 23 M_X8_putAt 3 := ⟨⟨Or.inr ⟨"PagePairs", (mem_tb (List.mem_of_getElem? (i := 687) (by decide +kernel)))⟩, (mem_tb (List.mem_of_getElem? (i := 646) (by decide +kernel))), (mem_tb (List.mem_of_getElem? (i := 1) (by decide +kernel))), by decide +kernel, by decide +kernel⟩, (mem_tb (List.mem_of_getElem? (i := 645) (by decide +kernel)))⟩
theorem clX6_30 : CLV RX6 30 M_X6_sign 0 := ⟨⟨Or.inl (mem_tb (List.mem_of_getElem? (i := 715) (by decide +kernel))), (mem_tb (List.mem_of_getElem? (i := 718) (by decide +kernel))), (mem_tb (List.mem_of_getElem? (i := 10) (by decide +kernel))), by decide +kernel, by decide +kernel⟩, (mem_tb (List.mem_of_getElem? (i := 717) (by decide +kernel))), (mem_sel (List.mem_of_getElem? (i := 14) (by decide +kernel)))⟩
theorem clX6_37 : CLS RX6 37 M_X6_numbersOf 1 := ⟨⟨Or.inl (mem_tb (List.mem_of_getElem? (i := 720) (by decide +kernel))), (mem_tb (List.mem_of_getElem? (i := 722) (by decide +kernel))), (mem_tb (List.mem_of_getElem? (i := 10) (by decide +kernel))), by decide +kernel, by decide +kernel⟩, (mem_tb (List.mem_of_getElem? (i := 721) (by decide +kernel)))⟩
theorem clX6_41 : CLV RX6 41 M_X6_readNumber 0 := ⟨⟨Or.inl (mem_tb (List.mem_of_getElem? (i := 723) (by decide +kernel))), (mem_tb (List.mem_of_getElem? (i := 726) (by decide +kernel))), (mem_tb (List.mem_of_getElem? (i := 10) (by decide +kernel))), by decide +kernel, by decide +kernel⟩, (mem_tb (List.mem_of_getElem? (i := 725) (by decide +kernel))), (mem_sel (List.mem_of_getElem? (i := 15) (by decide +kernel)))⟩
theorem clX6_47 : CLV RX6 47 M_X6_readSign 1 := ⟨⟨Or.inl (mem_tb (List.mem_of_getElem? (i := 727) (by decide +kernel))), (mem_tb (List.mem_of_getElem? (i := 730) (by decide +kernel))), (mem_tb (List.mem_of_getElem? (i := 10) (by decide +kernel))), by decide +kernel, by decide +kernel⟩, (mem_tb (List.mem_of_getElem? (i := 729) (by decide +kernel))), (mem_sel (List.mem_of_getElem? (i := 16) (by decide +kernel)))⟩
theorem clX6_54 : CLS RX6 54 M_X8_valueAt 2 := ⟨⟨Or.inr ⟨"PagePairs", (mem_tb (List.mem_of_getElem? (i := 719) (by decide +kernel)))⟩, (mem_tb (List.mem_of_getElem? (i := 305) (by decide +kernel))), (mem_tb (List.mem_of_getElem? (i := 1) (by decide +kernel))), by decide +kernel, by decide +kernel⟩, (mem_tb (List.mem_of_getElem? (i := 304) (by decide +kernel)))⟩
theorem oiX7_3 : Cond.methodLink RX7 3 Lib.objectInit ∈ lw_tbl := (mem_tb (List.mem_of_getElem? (i := 74) (by decide +kernel)))
theorem oiX8_3 : Cond.methodLink RX8 3 Lib.objectInit ∈ lw_tbl := (mem_tb (List.mem_of_getElem? (i := 18) (by decide +kernel)))
theorem clX8_11 : CLI RX8 11 M_X4_init 0 := ⟨⟨Or.inl (mem_tb (List.mem_of_getElem? (i := 23) (by decide +kernel))), (mem_tb (List.mem_of_getElem? (i := 25) (by decide +kernel))), (mem_tb (List.mem_of_getElem? (i := 2) (by decide +kernel))), by decide +kernel, by decide +kernel⟩, by decide +kernel, (mem_tb (List.mem_of_getElem? (i := 24) (by decide +kernel))), rfl⟩
theorem clX8_21 : CLI RX8 21 M_X1_init 0 := ⟨⟨Or.inl (mem_tb (List.mem_of_getElem? (i := 190) (by decide +kernel))), (mem_tb (List.mem_of_getElem? (i := 192) (by decide +kernel))), (mem_tb (List.mem_of_getElem? (i := 9) (by decide +kernel))), by decide +kernel, by decide +kernel⟩, by decide +kernel, (mem_tb (List.mem_of_getElem? (i := 191) (by decide +kernel))), rfl⟩
theorem clX8_28 : CLI RX8 28 M_X6_init 0 := ⟨⟨Or.inr ⟨"PagePairs", (mem_tb (List.mem_of_getElem? (i := 206) (by decide +kernel)))⟩, (mem_tb (List.mem_of_getElem? (i := 208) (by decide +kernel))), (mem_tb (List.mem_of_getElem? (i := 10) (by decide +kernel))), by decide +kernel, by decide +kernel⟩, by decide +kernel, (mem_tb (List.mem_of_getElem? (i := 207) (by decide +kernel))), rfl⟩
theorem clX8_35 : CLI RX8 35 M_X3_init 0 := ⟨⟨Or.inr ⟨"PagePairs", (mem_tb (List.mem_of_getElem? (i := 235) (by decide +kernel)))⟩, (mem_tb (List.mem_of_getElem? (i := 237) (by decide +kernel))), (mem_tb (List.mem_of_getElem? (i := 11) (by decide +kernel))), by decide +kernel, by decide +kernel⟩, by decide +kernel, (mem_tb (List.mem_of_getElem? (i := 236) (by decide +kernel))), rfl⟩
theorem clX8_40 : CLS RX8 40 M_X8_isIn 3 := ⟨⟨Or.inl (mem_tb (List.mem_of_getElem? (i := 443) (by decide +kernel))), (mem_tb (List.mem_of_getElem? (i := 312) (by decide +kernel))), (mem_tb (List.mem_of_getElem? (i := 1) (by decide +kernel))), by decide +kernel, by decide +kernel⟩, (mem_tb (List.mem_of_getElem? (i := 311) (by decide +kernel)))⟩
theorem clX8_44 : CLV RX8 44 M_X1_note 1 := ⟨⟨Or.inl (mem_tb (List.mem_of_getElem? (i := 444) (by decide +kernel))), (mem_tb (List.mem_of_getElem? (i := 447) (by decide +kernel))), (mem_tb (List.mem_of_getElem? (i := 9) (by decide +kernel))), by decide +kernel, by decide +kernel⟩, (mem_tb (List.mem_of_getElem? (i := 445) (by decide +kernel))), (mem_tb (List.mem_of_getElem? (i := 446) (by decide +kernel)))⟩
theorem clX8_48 : CLV RX8 48 M_X4_askFor 3 := ⟨⟨Or.inl (mem_tb (List.mem_of_getElem? (i := 448) (by decide +kernel))), (mem_tb (List.mem_of_getElem? (i := 451) (by decide +kernel))), (mem_tb (List.mem_of_getElem? (i := 2) (by decide +kernel))), by decide +kernel, by decide +kernel⟩, (mem_tb (List.mem_of_getElem? (i := 449) (by decide +kernel))), (mem_tb (List.mem_of_getElem? (i := 450) (by decide +kernel)))⟩
theorem clX8_52 : CLV RX8 52 M_X8_keepChange 1 := ⟨⟨Or.inl (mem_tb (List.mem_of_getElem? (i := 465) (by decide +kernel))), (mem_tb (List.mem_of_getElem? (i := 468) (by decide +kernel))), (mem_tb (List.mem_of_getElem? (i := 1) (by decide +kernel))), by decide +kernel, by decide +kernel⟩, (mem_tb (List.mem_of_getElem? (i := 467) (by decide +kernel))), (mem_sel (List.mem_of_getElem? (i := 4) (by decide +kernel)))⟩
theorem clX8_56 : CLV RX8 56 M_X4_letTicks 1 := ⟨⟨Or.inl (mem_tb (List.mem_of_getElem? (i := 481) (by decide +kernel))), (mem_tb (List.mem_of_getElem? (i := 484) (by decide +kernel))), (mem_tb (List.mem_of_getElem? (i := 2) (by decide +kernel))), by decide +kernel, by decide +kernel⟩, (mem_tb (List.mem_of_getElem? (i := 482) (by decide +kernel))), (mem_tb (List.mem_of_getElem? (i := 483) (by decide +kernel)))⟩
theorem clX8_59 : CLV RX8 59 M_X4_cutPower 0 := ⟨⟨Or.inl (mem_tb (List.mem_of_getElem? (i := 556) (by decide +kernel))), (mem_tb (List.mem_of_getElem? (i := 559) (by decide +kernel))), (mem_tb (List.mem_of_getElem? (i := 2) (by decide +kernel))), by decide +kernel, by decide +kernel⟩, (mem_tb (List.mem_of_getElem? (i := 557) (by decide +kernel))), (mem_tb (List.mem_of_getElem? (i := 558) (by decide +kernel)))⟩
theorem clX8_63 : CLV RX8 63 M_X4_restorePower 0 := ⟨⟨Or.inl (mem_tb (List.mem_of_getElem? (i := 590) (by decide +kernel))), (mem_tb (List.mem_of_getElem? (i := 593) (by decide +kernel))), (mem_tb (List.mem_of_getElem? (i := 2) (by decide +kernel))), by decide +kernel, by decide +kernel⟩, (mem_tb (List.mem_of_getElem? (i := 591) (by decide +kernel))), (mem_tb (List.mem_of_getElem? (i := 592) (by decide +kernel)))⟩
theorem clX8_66 : CLV RX8 66 M_X4_turnToOther 0 := ⟨⟨Or.inl (mem_tb (List.mem_of_getElem? (i := 609) (by decide +kernel))), (mem_tb (List.mem_of_getElem? (i := 612) (by decide +kernel))), (mem_tb (List.mem_of_getElem? (i := 2) (by decide +kernel))), by decide +kernel, by decide +kernel⟩, (mem_tb (List.mem_of_getElem? (i := 610) (by decide +kernel))), (mem_tb (List.mem_of_getElem? (i := 611) (by decide +kernel)))⟩
theorem clX8_69 : CLV RX8 69 M_X4_cleanBlock 1 := ⟨⟨Or.inl (mem_tb (List.mem_of_getElem? (i := 622) (by decide +kernel))), (mem_tb (List.mem_of_getElem? (i := 625) (by decide +kernel))), (mem_tb (List.mem_of_getElem? (i := 2) (by decide +kernel))), by decide +kernel, by decide +kernel⟩, (mem_tb (List.mem_of_getElem? (i := 623) (by decide +kernel))), (mem_tb (List.mem_of_getElem? (i := 624) (by decide +kernel)))⟩
theorem clX8_72 : CLV RX8 72 M_X4_eraseBlock 1 := ⟨⟨Or.inl (mem_tb (List.mem_of_getElem? (i := 635) (by decide +kernel))), (mem_tb (List.mem_of_getElem? (i := 638) (by decide +kernel))), (mem_tb (List.mem_of_getElem? (i := 2) (by decide +kernel))), by decide +kernel, by decide +kernel⟩, (mem_tb (List.mem_of_getElem? (i := 636) (by decide +kernel))), (mem_tb (List.mem_of_getElem? (i := 637) (by decide +kernel)))⟩
theorem clX8_75 : CLV RX8 75 M_X4_changeSlowness 2 := ⟨⟨Or.inl (mem_tb (List.mem_of_getElem? (i := 651) (by decide +kernel))), (mem_tb (List.mem_of_getElem? (i := 654) (by decide +kernel))), (mem_tb (List.mem_of_getElem? (i := 2) (by decide +kernel))), by decide +kernel, by decide +kernel⟩, (mem_tb (List.mem_of_getElem? (i := 652) (by decide +kernel))), (mem_tb (List.mem_of_getElem? (i := 653) (by decide +kernel)))⟩
theorem clX8_79 : CLV RX8 79 M_X4_changeSetting 2 := ⟨⟨Or.inl (mem_tb (List.mem_of_getElem? (i := 659) (by decide +kernel))), (mem_tb (List.mem_of_getElem? (i := 662) (by decide +kernel))), (mem_tb (List.mem_of_getElem? (i := 2) (by decide +kernel))), by decide +kernel, by decide +kernel⟩, (mem_tb (List.mem_of_getElem? (i := 660) (by decide +kernel))), (mem_tb (List.mem_of_getElem? (i := 661) (by decide +kernel)))⟩
theorem clX8_85 : CLV RX8 85 M_X4_placeFact 2 := ⟨⟨Or.inl (mem_tb (List.mem_of_getElem? (i := 430) (by decide +kernel))), (mem_tb (List.mem_of_getElem? (i := 433) (by decide +kernel))), (mem_tb (List.mem_of_getElem? (i := 2) (by decide +kernel))), by decide +kernel, by decide +kernel⟩, (mem_tb (List.mem_of_getElem? (i := 431) (by decide +kernel))), (mem_tb (List.mem_of_getElem? (i := 432) (by decide +kernel)))⟩
theorem clX8_88 : CLV RX8 88 M_X4_pageFact 3 := ⟨⟨Or.inl (mem_tb (List.mem_of_getElem? (i := 364) (by decide +kernel))), (mem_tb (List.mem_of_getElem? (i := 367) (by decide +kernel))), (mem_tb (List.mem_of_getElem? (i := 2) (by decide +kernel))), by decide +kernel, by decide +kernel⟩, (mem_tb (List.mem_of_getElem? (i := 365) (by decide +kernel))), (mem_tb (List.mem_of_getElem? (i := 366) (by decide +kernel)))⟩
theorem clX8_91 : CLV RX8 91 M_X4_backupFact 3 := ⟨⟨Or.inl (mem_tb (List.mem_of_getElem? (i := 399) (by decide +kernel))), (mem_tb (List.mem_of_getElem? (i := 402) (by decide +kernel))), (mem_tb (List.mem_of_getElem? (i := 2) (by decide +kernel))), by decide +kernel, by decide +kernel⟩, (mem_tb (List.mem_of_getElem? (i := 400) (by decide +kernel))), (mem_tb (List.mem_of_getElem? (i := 401) (by decide +kernel)))⟩
theorem clX8_94 : CLV RX8 94 M_X4_requestFact 2 := ⟨⟨Or.inl (mem_tb (List.mem_of_getElem? (i := 407) (by decide +kernel))), (mem_tb (List.mem_of_getElem? (i := 410) (by decide +kernel))), (mem_tb (List.mem_of_getElem? (i := 2) (by decide +kernel))), by decide +kernel, by decide +kernel⟩, (mem_tb (List.mem_of_getElem? (i := 408) (by decide +kernel))), (mem_tb (List.mem_of_getElem? (i := 409) (by decide +kernel)))⟩
theorem clX8_97 : CLV RX8 97 M_X1_size 0 := ⟨⟨Or.inl (mem_tb (List.mem_of_getElem? (i := 275) (by decide +kernel))), (mem_tb (List.mem_of_getElem? (i := 278) (by decide +kernel))), (mem_tb (List.mem_of_getElem? (i := 9) (by decide +kernel))), by decide +kernel, by decide +kernel⟩, (mem_tb (List.mem_of_getElem? (i := 276) (by decide +kernel))), (mem_tb (List.mem_of_getElem? (i := 277) (by decide +kernel)))⟩
theorem clX8_100 : CLV RX8 100 M_X6_length 0 := ⟨⟨Or.inl (mem_tb (List.mem_of_getElem? (i := 279) (by decide +kernel))), (mem_tb (List.mem_of_getElem? (i := 282) (by decide +kernel))), (mem_tb (List.mem_of_getElem? (i := 10) (by decide +kernel))), by decide +kernel, by decide +kernel⟩, (mem_tb (List.mem_of_getElem? (i := 280) (by decide +kernel))), (mem_tb (List.mem_of_getElem? (i := 281) (by decide +kernel)))⟩
theorem clX8_103 : CLV RX8 103 M_X4_numberOf 1 := ⟨⟨Or.inl (mem_tb (List.mem_of_getElem? (i := 283) (by decide +kernel))), (mem_tb (List.mem_of_getElem? (i := 286) (by decide +kernel))), (mem_tb (List.mem_of_getElem? (i := 2) (by decide +kernel))), by decide +kernel, by decide +kernel⟩, (mem_tb (List.mem_of_getElem? (i := 284) (by decide +kernel))), (mem_tb (List.mem_of_getElem? (i := 285) (by decide +kernel)))⟩
theorem clX8_123 : CLV RX8 123 M_X1_restore 1 := ⟨⟨Or.inl (mem_tb (List.mem_of_getElem? (i := 317) (by decide +kernel))), (mem_tb (List.mem_of_getElem? (i := 320) (by decide +kernel))), (mem_tb (List.mem_of_getElem? (i := 9) (by decide +kernel))), by decide +kernel, by decide +kernel⟩, (mem_tb (List.mem_of_getElem? (i := 318) (by decide +kernel))), (mem_tb (List.mem_of_getElem? (i := 319) (by decide +kernel)))⟩
theorem clX8_127 : CLV RX8 127 M_X6_append 1 := ⟨⟨Or.inl (mem_tb (List.mem_of_getElem? (i := 682) (by decide +kernel))), (mem_tb (List.mem_of_getElem? (i := 685) (by decide +kernel))), (mem_tb (List.mem_of_getElem? (i := 10) (by decide +kernel))), by decide +kernel, by decide +kernel⟩, (mem_tb (List.mem_of_getElem? (i := 683) (by decide +kernel))), (mem_tb (List.mem_of_getElem? (i := 684) (by decide +kernel)))⟩
theorem clX8_130 : CLV RX8 130 M_X6_makeEmpty 0 := ⟨⟨Or.inl (mem_tb (List.mem_of_getElem? (i := 674) (by decide +kernel))), (mem_tb (List.mem_of_getElem? (i := 677) (by decide +kernel))), (mem_tb (List.mem_of_getElem? (i := 10) (by decide +kernel))), by decide +kernel, by decide +kernel⟩, (mem_tb (List.mem_of_getElem? (i := 675) (by decide +kernel))), (mem_tb (List.mem_of_getElem? (i := 676) (by decide +kernel)))⟩
theorem clX8_110 : CLV RX8 110 M_X4_copyFrom 1 := ⟨⟨Or.inl (mem_tb (List.mem_of_getElem? (i := 698) (by decide +kernel))), (mem_tb (List.mem_of_getElem? (i := 328) (by decide +kernel))), (mem_tb (List.mem_of_getElem? (i := 2) (by decide +kernel))), by decide +kernel, by decide +kernel⟩, (mem_tb (List.mem_of_getElem? (i := 326) (by decide +kernel))), (mem_tb (List.mem_of_getElem? (i := 327) (by decide +kernel)))⟩
theorem clX8_133 : CLV RX8 133 M_X3_run 2 := ⟨⟨Or.inl (mem_tb (List.mem_of_getElem? (i := 699) (by decide +kernel))), (mem_tb (List.mem_of_getElem? (i := 702) (by decide +kernel))), (mem_tb (List.mem_of_getElem? (i := 11) (by decide +kernel))), by decide +kernel, by decide +kernel⟩, (mem_tb (List.mem_of_getElem? (i := 700) (by decide +kernel))), (mem_tb (List.mem_of_getElem? (i := 701) (by decide +kernel)))⟩
theorem clX8_137 : CLV RX8 137 M_X3_faultFact 1 := ⟨⟨Or.inl (mem_tb (List.mem_of_getElem? (i := 745) (by decide +kernel))), (mem_tb (List.mem_of_getElem? (i := 748) (by decide +kernel))), (mem_tb (List.mem_of_getElem? (i := 11) (by decide +kernel))), by decide +kernel, by decide +kernel⟩, (mem_tb (List.mem_of_getElem? (i := 746) (by decide +kernel))), (mem_tb (List.mem_of_getElem? (i := 747) (by decide +kernel)))⟩
theorem clX8_140 : CLV RX8 140 M_X3_hasFault 0 := ⟨⟨Or.inl (mem_tb (List.mem_of_getElem? (i := 753) (by decide +kernel))), (mem_tb (List.mem_of_getElem? (i := 756) (by decide +kernel))), (mem_tb (List.mem_of_getElem? (i := 11) (by decide +kernel))), by decide +kernel, by decide +kernel⟩, (mem_tb (List.mem_of_getElem? (i := 754) (by decide +kernel))), (mem_tb (List.mem_of_getElem? (i := 755) (by decide +kernel)))⟩
theorem clX8_143 : CLV RX8 143 M_X3_commandsDone 0 := ⟨⟨Or.inl (mem_tb (List.mem_of_getElem? (i := 757) (by decide +kernel))), (mem_tb (List.mem_of_getElem? (i := 760) (by decide +kernel))), (mem_tb (List.mem_of_getElem? (i := 11) (by decide +kernel))), by decide +kernel, by decide +kernel⟩, (mem_tb (List.mem_of_getElem? (i := 758) (by decide +kernel))), (mem_tb (List.mem_of_getElem? (i := 759) (by decide +kernel)))⟩
theorem clX8_146 : CLV RX8 146 M_X1_keep 0 := ⟨⟨Or.inl (mem_tb (List.mem_of_getElem? (i := 469) (by decide +kernel))), (mem_tb (List.mem_of_getElem? (i := 472) (by decide +kernel))), (mem_tb (List.mem_of_getElem? (i := 9) (by decide +kernel))), by decide +kernel, by decide +kernel⟩, (mem_tb (List.mem_of_getElem? (i := 470) (by decide +kernel))), (mem_tb (List.mem_of_getElem? (i := 471) (by decide +kernel)))⟩
theorem clX8_149 : CLS RX8 149 M_J9_min_7cf53 2 := ⟨⟨Or.inl (mem_tb (List.mem_of_getElem? (i := 148) (by decide +kernel))), (mem_tb (List.mem_of_getElem? (i := 150) (by decide +kernel))), (mem_tb (List.mem_of_getElem? (i := 7) (by decide +kernel))), by decide +kernel, by decide +kernel⟩, (mem_tb (List.mem_of_getElem? (i := 149) (by decide +kernel)))⟩
theorem acX8_154 : Cond.methodLink RX8 154 arraycopyName ∈ lw_tbl := (mem_tb (List.mem_of_getElem? (i := 151) (by decide +kernel)))
theorem kL_14 : Cond.classLink RL 14 RX8 ∈ lw_tbl := (mem_tb (List.mem_of_getElem? (i := 13) (by decide +kernel)))
theorem kX8_9 : Cond.classLink RX8 9 RX4 ∈ lw_tbl := (mem_tb (List.mem_of_getElem? (i := 21) (by decide +kernel)))
theorem kX4_9 : Cond.classLink RX4 9 RX0 ∈ lw_tbl := (mem_tb (List.mem_of_getElem? (i := 27) (by decide +kernel)))
theorem kX4_18 : Cond.classLink RX4 18 RX2 ∈ lw_tbl := (mem_tb (List.mem_of_getElem? (i := 47) (by decide +kernel)))
theorem kX4_25 : Cond.classLink RX4 25 RX7 ∈ lw_tbl := (mem_tb (List.mem_of_getElem? (i := 69) (by decide +kernel)))
theorem kX4_32 : Cond.classLink RX4 32 RX5 ∈ lw_tbl := (mem_tb (List.mem_of_getElem? (i := 108) (by decide +kernel)))
theorem kX8_19 : Cond.classLink RX8 19 RX1 ∈ lw_tbl := (mem_tb (List.mem_of_getElem? (i := 188) (by decide +kernel)))
theorem kX1_9 : Cond.classLink RX1 9 RX4 ∈ lw_tbl := (mem_tb (List.mem_of_getElem? (i := 194) (by decide +kernel)))
theorem kX8_26 : Cond.classLink RX8 26 RX6 ∈ lw_tbl := (mem_tb (List.mem_of_getElem? (i := 204) (by decide +kernel)))
theorem kX8_33 : Cond.classLink RX8 33 RX3 ∈ lw_tbl := (mem_tb (List.mem_of_getElem? (i := 233) (by decide +kernel)))
theorem nwX8 : Cond.instantiable RX8 5 ∈ lw_tbl := (mem_tb (List.mem_of_getElem? (i := 14) (by decide +kernel)))
theorem nwX4 : Cond.instantiable RX4 11 ∈ lw_tbl := (mem_tb (List.mem_of_getElem? (i := 22) (by decide +kernel)))
theorem nwX0 : Cond.instantiable RX0 4 ∈ lw_tbl := (mem_tb (List.mem_of_getElem? (i := 28) (by decide +kernel)))
theorem nwX2 : Cond.instantiable RX2 5 ∈ lw_tbl := (mem_tb (List.mem_of_getElem? (i := 48) (by decide +kernel)))
theorem nwX7 : Cond.instantiable RX7 8 ∈ lw_tbl := (mem_tb (List.mem_of_getElem? (i := 70) (by decide +kernel)))
theorem nwX5 : Cond.instantiable RX5 7 ∈ lw_tbl := (mem_tb (List.mem_of_getElem? (i := 109) (by decide +kernel)))
theorem nwX1 : Cond.instantiable RX1 2 ∈ lw_tbl := (mem_tb (List.mem_of_getElem? (i := 189) (by decide +kernel)))
theorem nwX6 : Cond.instantiable RX6 6 ∈ lw_tbl := (mem_tb (List.mem_of_getElem? (i := 205) (by decide +kernel)))
theorem nwX3 : Cond.instantiable RX3 5 ∈ lw_tbl := (mem_tb (List.mem_of_getElem? (i := 234) (by decide +kernel)))
theorem itL : Cond.initialized RL ∈ lw_tbl := (mem_tb (List.mem_of_getElem? (i := 0) (by decide +kernel)))
theorem itX8 : Cond.initialized RX8 ∈ lw_tbl := (mem_tb (List.mem_of_getElem? (i := 1) (by decide +kernel)))
theorem itX4 : Cond.initialized RX4 ∈ lw_tbl := (mem_tb (List.mem_of_getElem? (i := 2) (by decide +kernel)))
theorem itX0 : Cond.initialized RX0 ∈ lw_tbl := (mem_tb (List.mem_of_getElem? (i := 3) (by decide +kernel)))
theorem itX2 : Cond.initialized RX2 ∈ lw_tbl := (mem_tb (List.mem_of_getElem? (i := 4) (by decide +kernel)))
theorem itX7 : Cond.initialized RX7 ∈ lw_tbl := (mem_tb (List.mem_of_getElem? (i := 5) (by decide +kernel)))
theorem itX5 : Cond.initialized RX5 ∈ lw_tbl := (mem_tb (List.mem_of_getElem? (i := 6) (by decide +kernel)))
theorem itJ9 : Cond.initialized RJ9 ∈ lw_tbl := (mem_tb (List.mem_of_getElem? (i := 7) (by decide +kernel)))
theorem itJ10 : Cond.initialized RJ10 ∈ lw_tbl := (mem_tb (List.mem_of_getElem? (i := 8) (by decide +kernel)))
theorem itX1 : Cond.initialized RX1 ∈ lw_tbl := (mem_tb (List.mem_of_getElem? (i := 9) (by decide +kernel)))
theorem itX6 : Cond.initialized RX6 ∈ lw_tbl := (mem_tb (List.mem_of_getElem? (i := 10) (by decide +kernel)))
theorem itX3 : Cond.initialized RX3 ∈ lw_tbl := (mem_tb (List.mem_of_getElem? (i := 11) (by decide +kernel)))
theorem itJ6 : Cond.initialized RJ6 ∈ lw_tbl := (mem_tb (List.mem_of_getElem? (i := 12) (by decide +kernel)))
theorem w_oi2 : Cond.instanceMethod Lib.objectInit ∈ lw_tbl := (mem_tb (List.mem_of_getElem? (i := 19) (by decide +kernel)))
theorem w_oi3 : Cond.code Lib.objectInit ⟨#[0xb1]⟩ 1 none ∈ lw_tbl := (mem_tb (List.mem_of_getElem? (i := 20) (by decide +kernel)))
theorem w_ac2 : Cond.native arraycopyName ∈ lw_tbl := (mem_tb (List.mem_of_getElem? (i := 153) (by decide +kernel)))
theorem w_ac3 : Cond.static arraycopyName ∈ lw_tbl := (mem_tb (List.mem_of_getElem? (i := 152) (by decide +kernel)))
theorem w_ac4 : Cond.initialized "java/lang/System" ∈ lw_tbl := (mem_tb (List.mem_of_getElem? (i := 8) (by decide +kernel)))
theorem w_arr : Cond.arrayClass .int ∈ lw_tbl := (mem_tb (List.mem_of_getElem? (i := 46) (by decide +kernel)))
theorem w_stc : Cond.arrayOver (.object "PagePairs$State") ∈ lw_tbl := (mem_tb (List.mem_of_getElem? (i := 195) (by decide +kernel)))
theorem w_kL7 : Cond.constant RL 7 (-674241173) ∈ lw_tbl := (mem_tb (List.mem_of_getElem? (i := 350) (by decide +kernel)))
theorem w_kL8 : Cond.constant RL 8 2147483647 ∈ lw_tbl := (mem_tb (List.mem_of_getElem? (i := 354) (by decide +kernel)))
theorem w_kL104 : Cond.constant RL 104 2147483646 ∈ lw_tbl := (mem_tb (List.mem_of_getElem? (i := 761) (by decide +kernel)))
theorem w_kL9 : Cond.constantLong RL 9 67 ∈ lw_tbl := (mem_tb (List.mem_of_getElem? (i := 358) (by decide +kernel)))
theorem w_kL11 : Cond.constantLong RL 11 31 ∈ lw_tbl := (mem_tb (List.mem_of_getElem? (i := 359) (by decide +kernel)))
theorem w_k265 : Cond.constant RJ6 265 1431655765 ∈ lw_tbl := (mem_tb (List.mem_of_getElem? (i := 583) (by decide +kernel)))
theorem w_k266 : Cond.constant RJ6 266 858993459 ∈ lw_tbl := (mem_tb (List.mem_of_getElem? (i := 584) (by decide +kernel)))
theorem w_k267 : Cond.constant RJ6 267 252645135 ∈ lw_tbl := (mem_tb (List.mem_of_getElem? (i := 585) (by decide +kernel)))
theorem w_ls0 : Cond.laysStatic "PagePairs" (stn 0) "[I" ∈ lw_tbl := (mem_tb (List.mem_of_getElem? (i := 144) (by decide +kernel)))
theorem w_ls1 : Cond.laysStatic "PagePairs" (stn 1) "[I" ∈ lw_tbl := (mem_tb (List.mem_of_getElem? (i := 376) (by decide +kernel)))
theorem w_ls2 : Cond.laysStatic "PagePairs" (stn 2) "[I" ∈ lw_tbl := (mem_tb (List.mem_of_getElem? (i := 378) (by decide +kernel)))
theorem w_ls3 : Cond.laysStatic "PagePairs" (stn 3) "[I" ∈ lw_tbl := (mem_tb (List.mem_of_getElem? (i := 664) (by decide +kernel)))
theorem w_ls4 : Cond.laysStatic "PagePairs" (stn 4) "[I" ∈ lw_tbl := (mem_tb (List.mem_of_getElem? (i := 666) (by decide +kernel)))
end
section
theorem clL_13 : CLV RL 13 M_X8_count 1 := ⟨⟨Or.inl (mem_tb (List.mem_of_getElem? (i := 271) (by decide +kernel))), (mem_tb (List.mem_of_getElem? (i := 274) (by decide +kernel))), (mem_tb (List.mem_of_getElem? (i := 1) (by decide +kernel))), by decide +kernel, by decide +kernel⟩, (mem_tb (List.mem_of_getElem? (i := 272) (by decide +kernel))), (mem_tb (List.mem_of_getElem? (i := 273) (by decide +kernel)))⟩
theorem clL_19 : CLV RL 19 M_X8_pageOf 3 := ⟨⟨Or.inl (mem_tb (List.mem_of_getElem? (i := 360) (by decide +kernel))), (mem_tb (List.mem_of_getElem? (i := 363) (by decide +kernel))), (mem_tb (List.mem_of_getElem? (i := 1) (by decide +kernel))), by decide +kernel, by decide +kernel⟩, (mem_tb (List.mem_of_getElem? (i := 361) (by decide +kernel))), (mem_tb (List.mem_of_getElem? (i := 362) (by decide +kernel)))⟩
theorem clL_23 : CLV RL 23 M_X8_backupOf 3 := ⟨⟨Or.inl (mem_tb (List.mem_of_getElem? (i := 395) (by decide +kernel))), (mem_tb (List.mem_of_getElem? (i := 398) (by decide +kernel))), (mem_tb (List.mem_of_getElem? (i := 1) (by decide +kernel))), by decide +kernel, by decide +kernel⟩, (mem_tb (List.mem_of_getElem? (i := 396) (by decide +kernel))), (mem_tb (List.mem_of_getElem? (i := 397) (by decide +kernel)))⟩
theorem clL_26 : CLV RL 26 M_X8_waits 2 := ⟨⟨Or.inl (mem_tb (List.mem_of_getElem? (i := 403) (by decide +kernel))), (mem_tb (List.mem_of_getElem? (i := 406) (by decide +kernel))), (mem_tb (List.mem_of_getElem? (i := 1) (by decide +kernel))), by decide +kernel, by decide +kernel⟩, (mem_tb (List.mem_of_getElem? (i := 404) (by decide +kernel))), (mem_tb (List.mem_of_getElem? (i := 405) (by decide +kernel)))⟩
theorem clL_30 : CLV RL 30 M_X8_placeOf 2 := ⟨⟨Or.inl (mem_tb (List.mem_of_getElem? (i := 426) (by decide +kernel))), (mem_tb (List.mem_of_getElem? (i := 429) (by decide +kernel))), (mem_tb (List.mem_of_getElem? (i := 1) (by decide +kernel))), by decide +kernel, by decide +kernel⟩, (mem_tb (List.mem_of_getElem? (i := 427) (by decide +kernel))), (mem_tb (List.mem_of_getElem? (i := 428) (by decide +kernel)))⟩
theorem clL_35 : CLV RL 35 M_X8_type 1 := ⟨⟨Or.inl (mem_tb (List.mem_of_getElem? (i := 678) (by decide +kernel))), (mem_tb (List.mem_of_getElem? (i := 681) (by decide +kernel))), (mem_tb (List.mem_of_getElem? (i := 1) (by decide +kernel))), by decide +kernel, by decide +kernel⟩, (mem_tb (List.mem_of_getElem? (i := 679) (by decide +kernel))), (mem_tb (List.mem_of_getElem? (i := 680) (by decide +kernel)))⟩
theorem clL_38 : CLS RL 38 M_L_low 2 := ⟨⟨Or.inl (mem_tb (List.mem_of_getElem? (i := 351) (by decide +kernel))), (mem_tb (List.mem_of_getElem? (i := 353) (by decide +kernel))), (mem_tb (List.mem_of_getElem? (i := 0) (by decide +kernel))), by decide +kernel, by decide +kernel⟩, (mem_tb (List.mem_of_getElem? (i := 352) (by decide +kernel)))⟩
theorem clL_41 : CLV RL 41 M_X8_clearText 0 := ⟨⟨Or.inl (mem_tb (List.mem_of_getElem? (i := 670) (by decide +kernel))), (mem_tb (List.mem_of_getElem? (i := 673) (by decide +kernel))), (mem_tb (List.mem_of_getElem? (i := 1) (by decide +kernel))), by decide +kernel, by decide +kernel⟩, (mem_tb (List.mem_of_getElem? (i := 671) (by decide +kernel))), (mem_tb (List.mem_of_getElem? (i := 672) (by decide +kernel)))⟩
theorem clL_45 : CLS RL 45 M_L_digits 2 := ⟨⟨Or.inl (mem_tb (List.mem_of_getElem? (i := 688) (by decide +kernel))), (mem_tb (List.mem_of_getElem? (i := 690) (by decide +kernel))), (mem_tb (List.mem_of_getElem? (i := 0) (by decide +kernel))), by decide +kernel, by decide +kernel⟩, (mem_tb (List.mem_of_getElem? (i := 689) (by decide +kernel)))⟩
theorem clL_49 : CLV RL 49 M_X8_fault 1 := ⟨⟨Or.inl (mem_tb (List.mem_of_getElem? (i := 694) (by decide +kernel))), (mem_tb (List.mem_of_getElem? (i := 697) (by decide +kernel))), (mem_tb (List.mem_of_getElem? (i := 1) (by decide +kernel))), by decide +kernel, by decide +kernel⟩, (mem_tb (List.mem_of_getElem? (i := 695) (by decide +kernel))), (mem_tb (List.mem_of_getElem? (i := 696) (by decide +kernel)))⟩
theorem clL_52 : CLV RL 52 M_X8_play 0 := ⟨⟨Or.inl (mem_tb (List.mem_of_getElem? (i := 749) (by decide +kernel))), (mem_tb (List.mem_of_getElem? (i := 752) (by decide +kernel))), (mem_tb (List.mem_of_getElem? (i := 1) (by decide +kernel))), by decide +kernel, by decide +kernel⟩, (mem_tb (List.mem_of_getElem? (i := 750) (by decide +kernel))), (mem_tb (List.mem_of_getElem? (i := 751) (by decide +kernel)))⟩
theorem clL_55 : CLV RL 55 M_X8_write 3 := ⟨⟨Or.inl (mem_tb (List.mem_of_getElem? (i := 439) (by decide +kernel))), (mem_tb (List.mem_of_getElem? (i := 442) (by decide +kernel))), (mem_tb (List.mem_of_getElem? (i := 1) (by decide +kernel))), by decide +kernel, by decide +kernel⟩, (mem_tb (List.mem_of_getElem? (i := 440) (by decide +kernel))), (mem_tb (List.mem_of_getElem? (i := 441) (by decide +kernel)))⟩
theorem clL_58 : CLV RL 58 M_X8_tick 1 := ⟨⟨Or.inl (mem_tb (List.mem_of_getElem? (i := 477) (by decide +kernel))), (mem_tb (List.mem_of_getElem? (i := 480) (by decide +kernel))), (mem_tb (List.mem_of_getElem? (i := 1) (by decide +kernel))), by decide +kernel, by decide +kernel⟩, (mem_tb (List.mem_of_getElem? (i := 478) (by decide +kernel))), (mem_tb (List.mem_of_getElem? (i := 479) (by decide +kernel)))⟩
theorem clL_61 : CLV RL 61 M_X8_cut 0 := ⟨⟨Or.inl (mem_tb (List.mem_of_getElem? (i := 552) (by decide +kernel))), (mem_tb (List.mem_of_getElem? (i := 555) (by decide +kernel))), (mem_tb (List.mem_of_getElem? (i := 1) (by decide +kernel))), by decide +kernel, by decide +kernel⟩, (mem_tb (List.mem_of_getElem? (i := 553) (by decide +kernel))), (mem_tb (List.mem_of_getElem? (i := 554) (by decide +kernel)))⟩
theorem clL_64 : CLV RL 64 M_X8_on 0 := ⟨⟨Or.inl (mem_tb (List.mem_of_getElem? (i := 586) (by decide +kernel))), (mem_tb (List.mem_of_getElem? (i := 589) (by decide +kernel))), (mem_tb (List.mem_of_getElem? (i := 1) (by decide +kernel))), by decide +kernel, by decide +kernel⟩, (mem_tb (List.mem_of_getElem? (i := 587) (by decide +kernel))), (mem_tb (List.mem_of_getElem? (i := 588) (by decide +kernel)))⟩
theorem clL_67 : CLV RL 67 M_X8_turn 0 := ⟨⟨Or.inl (mem_tb (List.mem_of_getElem? (i := 605) (by decide +kernel))), (mem_tb (List.mem_of_getElem? (i := 608) (by decide +kernel))), (mem_tb (List.mem_of_getElem? (i := 1) (by decide +kernel))), by decide +kernel, by decide +kernel⟩, (mem_tb (List.mem_of_getElem? (i := 606) (by decide +kernel))), (mem_tb (List.mem_of_getElem? (i := 607) (by decide +kernel)))⟩
theorem clL_70 : CLV RL 70 M_X8_clean 1 := ⟨⟨Or.inl (mem_tb (List.mem_of_getElem? (i := 618) (by decide +kernel))), (mem_tb (List.mem_of_getElem? (i := 621) (by decide +kernel))), (mem_tb (List.mem_of_getElem? (i := 1) (by decide +kernel))), by decide +kernel, by decide +kernel⟩, (mem_tb (List.mem_of_getElem? (i := 619) (by decide +kernel))), (mem_tb (List.mem_of_getElem? (i := 620) (by decide +kernel)))⟩
theorem clL_73 : CLV RL 73 M_X8_erase 1 := ⟨⟨Or.inl (mem_tb (List.mem_of_getElem? (i := 631) (by decide +kernel))), (mem_tb (List.mem_of_getElem? (i := 634) (by decide +kernel))), (mem_tb (List.mem_of_getElem? (i := 1) (by decide +kernel))), by decide +kernel, by decide +kernel⟩, (mem_tb (List.mem_of_getElem? (i := 632) (by decide +kernel))), (mem_tb (List.mem_of_getElem? (i := 633) (by decide +kernel)))⟩
theorem clL_76 : CLV RL 76 M_X8_slow 2 := ⟨⟨Or.inl (mem_tb (List.mem_of_getElem? (i := 647) (by decide +kernel))), (mem_tb (List.mem_of_getElem? (i := 650) (by decide +kernel))), (mem_tb (List.mem_of_getElem? (i := 1) (by decide +kernel))), by decide +kernel, by decide +kernel⟩, (mem_tb (List.mem_of_getElem? (i := 648) (by decide +kernel))), (mem_tb (List.mem_of_getElem? (i := 649) (by decide +kernel)))⟩
theorem clL_79 : CLV RL 79 M_X8_set 2 := ⟨⟨Or.inl (mem_tb (List.mem_of_getElem? (i := 655) (by decide +kernel))), (mem_tb (List.mem_of_getElem? (i := 658) (by decide +kernel))), (mem_tb (List.mem_of_getElem? (i := 1) (by decide +kernel))), by decide +kernel, by decide +kernel⟩, (mem_tb (List.mem_of_getElem? (i := 656) (by decide +kernel))), (mem_tb (List.mem_of_getElem? (i := 657) (by decide +kernel)))⟩
theorem clL_82 : CLS RL 82 M_L_types 2 := ⟨⟨Or.inl (mem_tb (List.mem_of_getElem? (i := 667) (by decide +kernel))), (mem_tb (List.mem_of_getElem? (i := 669) (by decide +kernel))), (mem_tb (List.mem_of_getElem? (i := 0) (by decide +kernel))), by decide +kernel, by decide +kernel⟩, (mem_tb (List.mem_of_getElem? (i := 668) (by decide +kernel)))⟩
theorem clL_85 : CLS RL 85 M_L_reads 1 := ⟨⟨Or.inl (mem_tb (List.mem_of_getElem? (i := 691) (by decide +kernel))), (mem_tb (List.mem_of_getElem? (i := 693) (by decide +kernel))), (mem_tb (List.mem_of_getElem? (i := 0) (by decide +kernel))), by decide +kernel, by decide +kernel⟩, (mem_tb (List.mem_of_getElem? (i := 692) (by decide +kernel)))⟩
theorem clL_89 : CLI RL 89 M_X8_init 0 := ⟨⟨Or.inl (mem_tb (List.mem_of_getElem? (i := 15) (by decide +kernel))), (mem_tb (List.mem_of_getElem? (i := 17) (by decide +kernel))), (mem_tb (List.mem_of_getElem? (i := 1) (by decide +kernel))), by decide +kernel, by decide +kernel⟩, by decide +kernel, (mem_tb (List.mem_of_getElem? (i := 16) (by decide +kernel))), rfl⟩
theorem clL_90 : CLS RL 90 M_L_holds 1 := ⟨⟨Or.inl (mem_tb (List.mem_of_getElem? (i := 423) (by decide +kernel))), (mem_tb (List.mem_of_getElem? (i := 425) (by decide +kernel))), (mem_tb (List.mem_of_getElem? (i := 0) (by decide +kernel))), by decide +kernel, by decide +kernel⟩, (mem_tb (List.mem_of_getElem? (i := 424) (by decide +kernel)))⟩
theorem clL_93 : CLV RL 93 M_X8_undo 0 := ⟨⟨Or.inl (mem_tb (List.mem_of_getElem? (i := 313) (by decide +kernel))), (mem_tb (List.mem_of_getElem? (i := 316) (by decide +kernel))), (mem_tb (List.mem_of_getElem? (i := 1) (by decide +kernel))), by decide +kernel, by decide +kernel⟩, (mem_tb (List.mem_of_getElem? (i := 314) (by decide +kernel))), (mem_tb (List.mem_of_getElem? (i := 315) (by decide +kernel)))⟩
theorem clL_96 : CLS RL 96 M_L_lot 2 := ⟨⟨Or.inl (mem_tb (List.mem_of_getElem? (i := 347) (by decide +kernel))), (mem_tb (List.mem_of_getElem? (i := 349) (by decide +kernel))), (mem_tb (List.mem_of_getElem? (i := 0) (by decide +kernel))), by decide +kernel, by decide +kernel⟩, (mem_tb (List.mem_of_getElem? (i := 348) (by decide +kernel)))⟩
theorem clL_100 : CLS RL 100 M_L_digest 1 := ⟨⟨Or.inl (mem_tb (List.mem_of_getElem? (i := 355) (by decide +kernel))), (mem_tb (List.mem_of_getElem? (i := 357) (by decide +kernel))), (mem_tb (List.mem_of_getElem? (i := 0) (by decide +kernel))), by decide +kernel, by decide +kernel⟩, (mem_tb (List.mem_of_getElem? (i := 356) (by decide +kernel)))⟩
end
section
/-! the code of acts is long: its word by its place, without a comparison -/
set_option maxRecDepth 100000 in
set_option maxHeartbeats 4000000 in
theorem w_acts : Cond.code (mY M_L_acts) (mC M_L_acts) (mL M_L_acts) (mT M_L_acts) ∈ tables_1 := List.mem_of_getElem? (i := 438) rfl
theorem clL_105 : CLS RL 105 M_L_acts 3 := ⟨⟨Or.inl (mem_tb (List.mem_of_getElem? (i := 436) (by decide +kernel))), (mem_tb w_acts), (mem_tb (List.mem_of_getElem? (i := 0) (by decide +kernel))), by decide +kernel, by decide +kernel⟩, (mem_tb (List.mem_of_getElem? (i := 437) (by decide +kernel)))⟩
end
section
/-! the made heap, pictures of its parts, short rows -/
/-- what the reference fields hold when all is made; the rows of States apart -/
def offS : List Nat := [1, 6, 11, 12, 13, 14, 15, 16]
def offP : List Nat := [1, 18, 35, 122, 124]
def HR0 : HR := fun a k => match (sh a).1 with
  | 0 => some (a + 1 + k)
  | 2 => some (a + 1 + k)
  | 4 => some (a + offS.getD k 0)
  | 1 => some 36
  | 6 => some 123
  | 8 => some (offP.getD k 0)
  | _ => none
/-- the references are as they were made, but the row of the history's States -/
def HRk (hr : HR) : Prop := ∀ a k : Nat, a ≠ 36 → frf (sh a).1 k = true → hr a k = HR0 a k
def stIds : List Nat := [1, 18, 37, 54, 71, 88, 105]
def St (o : Nat) : Prop := o ∈ stIds
theorem st_lt {o : Nat} (h : St o) : 0 < o ∧ o + 17 ≤ 122 := (show ∀ o, o ∈ stIds → 0 < o ∧ o + 17 ≤ 122 by decide) o h
theorem st_sh {o : Nat} (h : St o) (j : Nat) (hj : j < 17 := by decide) : sh (o + j) = shSt.getD j (12, 0) := (show ∀ o, o ∈ stIds → ∀ j, j < 17 → sh (o + j) = shSt.getD j (12, 0) by decide +kernel) o h j hj
theorem st_sh0 {o : Nat} (h : St o) : sh o = (4, 11) := st_sh h 0
theorem st_r0 {o : Nat} {hr : HR} (h : St o) (hR : HRk hr) (k : Nat) (hk : k < 8 := by decide) : hr o k = some (o + offS.getD k 0) := by
  have h0 := st_lt h
  rw [hR o k (fun e => by subst e; revert h; unfold St; decide) (by rw [st_sh0 h]; revert k; decide)]
  unfold HR0
  rw [st_sh0 h]
  rfl
theorem st_r1 {o : Nat} {hr : HR} (h : St o) (hR : HRk hr) (k : Nat) (hk : k < 4 := by decide) : hr (o + 1) k = some (o + 2 + k) := by
  have e : sh (o + 1) = (0, 4) := st_sh h 1
  have h36 : o + 1 ≠ 36 := (show ∀ o, o ∈ stIds → o + 1 ≠ 36 by decide) o h
  rw [hR (o + 1) k h36 (by rw [e]; revert k; decide)]
  unfold HR0
  rw [e]
  rfl
theorem st_r6 {o : Nat} {hr : HR} (h : St o) (hR : HRk hr) (k : Nat) (hk : k < 4 := by decide) : hr (o + 6) k = some (o + 7 + k) := by
  have e : sh (o + 6) = (2, 5) := st_sh h 6
  have h36 : o + 6 ≠ 36 := (show ∀ o, o ∈ stIds → o + 6 ≠ 36 by decide) o h
  rw [hR (o + 6) k h36 (by rw [e]; revert k; decide)]
  unfold HR0
  rw [e]
  rfl
/-- one object or array of the heap, by a function -/
def pa (a : Nat) (hi : HI) (f : Int → Int) : HI := fun x k => if x = a then f (k : Int) else hi x k
def up1 (f : Int → Int) (k v : Int) : Int → Int := fun x => if x = k then v else f x
theorem up1_s (f : Int → Int) (k v : Int) : up1 f k v k = v := by simp [up1]
theorem up1_n (f : Int → Int) {k x : Int} (v : Int) (h : x ≠ k) : up1 f k v x = f x := by simp [up1, h]
theorem pa_g (a : Nat) (hi : HI) (f : Int → Int) (k : Nat) : pa a hi f a k = f (k : Int) := by simp [pa]
theorem pa_gn {a x : Nat} (hi : HI) (f : Int → Int) (k : Nat) (h : x ≠ a) : pa a hi f x k = hi x k := by simp [pa, h]
theorem pa_gi (a : Nat) (hi : HI) (f : Int → Int) {j : Int} (h : 0 ≤ j) : pa a hi f a j.toNat = f j := by
  rw [pa_g, Int.toNat_of_nonneg h]
theorem pa_u (a : Nat) (hi : HI) (f : Int → Int) (k : Nat) (v : Int) : up2 (pa a hi f) a k v = pa a hi (up1 f (k : Int) v) := by
  funext x y
  unfold up2 pa up1
  by_cases h : x = a
  · by_cases h2 : y = k
    · simp [h, h2]
    · simp only [h, h2, and_false, if_false, if_true]
      rw [if_neg (by omega)]
  · simp [h]
theorem pa_ui (a : Nat) (hi : HI) (f : Int → Int) {j : Int} (v : Int) (h : 0 ≤ j) : up2 (pa a hi f) a j.toNat v = pa a hi (up1 f j v) := by
  rw [pa_u, Int.toNat_of_nonneg h]
theorem pa_un {a x : Nat} (hi : HI) (f : Int → Int) (k : Nat) (v : Int) (h : x ≠ a) : up2 (pa a hi f) x k v = pa a (up2 hi x k v) f := by
  funext y z
  unfold up2 pa
  by_cases h1 : y = a
  · subst h1; simp [Ne.symm h]
  · simp [h1]
theorem pa_self (a : Nat) (hi : HI) : pa a hi (fun k => hi a k.toNat) = hi := by
  funext x y
  unfold pa
  by_cases h : x = a
  · subst h; simp
  · simp [h]
theorem pa_pa (a : Nat) (hi : HI) (f g : Int → Int) : pa a (pa a hi f) g = pa a hi g := by
  funext x y
  unfold pa
  by_cases h : x = a <;> simp [h]
theorem pa_comm {a b : Nat} (hi : HI) (f g : Int → Int) (h : a ≠ b) : pa a (pa b hi f) g = pa b (pa a hi g) f := by
  funext x y
  unfold pa
  by_cases h1 : x = a
  · subst h1; simp [h]
  · simp [h1]
/-- a State's cells by a function of their places -/
abbrev TS : Type := Nat → Int → Int
def putS (o : Nat) (hi : HI) (t : TS) : HI := fun x k => if o ≤ x ∧ x < o + 17 then t (x - o) (k : Int) else hi x k
def getS (o : Nat) (hi : HI) : TS := fun j k => hi (o + j) k.toNat
def ut (t : TS) (j : Nat) (k v : Int) : TS := fun x y => if x = j ∧ y = k then v else t x y
theorem ut_s (t : TS) (j : Nat) (k v : Int) : ut t j k v j k = v := by simp [ut]
theorem ut_n (t : TS) {j x : Nat} {k y : Int} (v : Int) (h : ¬ (x = j ∧ y = k)) : ut t j k v x y = t x y := by simp only [ut, if_neg h]
theorem putS_g (o : Nat) (hi : HI) (t : TS) (j : Nat) (k : Nat) (hj : j < 17 := by decide) : putS o hi t (o + j) k = t j (k : Int) := by
  unfold putS
  rw [if_pos (by omega), Nat.add_sub_cancel_left]
theorem putS_g0 (o : Nat) (hi : HI) (t : TS) (k : Nat) : putS o hi t o k = t 0 (k : Int) := putS_g o hi t 0 k
theorem putS_gi (o : Nat) (hi : HI) (t : TS) (j : Nat) {k : Int} (hk : 0 ≤ k) (hj : j < 17 := by decide) : putS o hi t (o + j) k.toNat = t j k := by
  rw [putS_g o hi t j _ hj, Int.toNat_of_nonneg hk]
theorem putS_u (o : Nat) (hi : HI) (t : TS) (j : Nat) (k : Nat) (v : Int) (hj : j < 17 := by decide) : up2 (putS o hi t) (o + j) k v = putS o hi (ut t j (k : Int) v) := by
  funext x y
  unfold up2 putS ut
  by_cases h : x = o + j ∧ y = k
  · obtain ⟨rfl, rfl⟩ := h
    rw [if_pos ⟨rfl, rfl⟩, if_pos (by omega), if_pos ⟨by omega, rfl⟩]
  · rw [if_neg h]
    by_cases h2 : o ≤ x ∧ x < o + 17
    · rw [if_pos h2, if_pos h2, if_neg]
      rintro ⟨e1, e2⟩
      exact h ⟨by omega, by omega⟩
    · rw [if_neg h2, if_neg h2]
theorem putS_u0 (o : Nat) (hi : HI) (t : TS) (k : Nat) (v : Int) : up2 (putS o hi t) o k v = putS o hi (ut t 0 (k : Int) v) := putS_u o hi t 0 k v
theorem putS_ui (o : Nat) (hi : HI) (t : TS) (j : Nat) {k : Int} (v : Int) (hk : 0 ≤ k) (hj : j < 17 := by decide) : up2 (putS o hi t) (o + j) k.toNat v = putS o hi (ut t j k v) := by
  rw [putS_u o hi t j _ v hj, Int.toNat_of_nonneg hk]
theorem putS_self (o : Nat) (hi : HI) : putS o hi (getS o hi) = hi := by
  funext x y
  unfold putS getS
  by_cases h : o ≤ x ∧ x < o + 17
  · rw [if_pos h, show o + (x - o) = x by omega, Int.toNat_natCast]
  · rw [if_neg h]
theorem putS_out {o x : Nat} (hi : HI) (t : TS) (k : Nat) (h : x < o ∨ o + 17 ≤ x) : putS o hi t x k = hi x k := by
  unfold putS
  rw [if_neg (by omega)]
theorem putS_putS (o : Nat) (hi : HI) (t u : TS) : putS o (putS o hi t) u = putS o hi u := by
  funext x y
  unfold putS
  by_cases h : o ≤ x ∧ x < o + 17 <;> simp [h]
section SHORT
variable {E : ET} {M M2 : MT} {cu su pc : Nat} {ls : List (Option AV)} {st : List AV} {hi h1 : HI} {hr : HR} {n : Nat} {Q : QT} {idx a N : Nat} {r1 : AV} {C : String} {T : u_T} {ty : Nat → FieldType} {c k : Nat}
/-- loads and stores that name what comes -/
theorem aw_getv {v : Int} (hd : decode (mC M) pc = .ok (.getfield idx, 3)) (hc : CI c C T N ty) (hk : k < N) (hl : FL (mY M).cls idx C T k) (ha : a < n) (hs : sh a = (c, N)) (hf : frf c k = false) (hv : hi a k = v)
    (kk : AW E M cu su (pc + 3) ls (aI v :: st) hi hr n Q) : AW E M cu su pc ls (aR a :: st) hi hr n Q := aw_geti hd hc hk hl ha hs hf (by rw [hv]; exact kk)
theorem aw_putv {v : Int} (hd : decode (mC M) pc = .ok (.putfield idx, 3)) (hc : CI c C T N ty) (hk : k < N) (hl : FL (mY M).cls idx C T k) (ha : a < n) (hs : sh a = (c, N)) (hf : frf c k = false) (hfin : (T k).2.2.2 = false) (hty : ty k = .int ∨ (ty k = .boolean ∧ (v = 0 ∨ v = 1))) (hh : up2 hi a k v = h1)
    (kk : AW E M cu su (pc + 3) ls st h1 hr n Q) : AW E M cu su pc ls (aI v :: aR a :: st) hi hr n Q := aw_puti hd hc hk hl ha hs hf hfin hty (by rw [hh]; exact kk)
theorem aw_iald {v j : Int} (hd : decode (mC M) pc = .ok (.iaload, 1)) (hA : AOK E n a N) (h0 : 0 ≤ j) (h1 : j < N) (hN : N ≤ 100000) (hv : hi a j.toNat = v) (kk : AW E M cu su (pc + 1) ls (aI v :: st) hi hr n Q) : AW E M cu su pc ls (aI j :: aR a :: st) hi hr n Q :=
  aw_iaload hd hA h0 h1 ⟨by omega, by omega⟩ (by rw [hv]; exact kk)
theorem aw_iast {j v : Int} {h2 : HI} (hd : decode (mC M) pc = .ok (.iastore, 1)) (ha : a < n) (hs : sh a = (10, N)) (h0 : 0 ≤ j) (h1 : j < N) (hN : N ≤ 100000) (hh : up2 hi a j.toNat v = h2) (kk : AW E M cu su (pc + 1) ls st h2 hr n Q) : AW E M cu su pc ls (aI v :: aI j :: aR a :: st) hi hr n Q :=
  aw_iastore hd ha hs h0 h1 ⟨by omega, by omega⟩ (by rw [hh]; exact kk)
end SHORT
end
section
/-! calls by their ends -/
theorem putS_gk (o : Nat) (hi : HI) (t : TS) (j k : Nat) (kk : Int) (h : ((k : Nat) : Int) = kk) (hj : j < 17 := by decide) : putS o hi t (o + j) k = t j kk := by rw [putS_g o hi t j k hj, h]
theorem putS_gk0 (o : Nat) (hi : HI) (t : TS) (k : Nat) (kk : Int) (h : ((k : Nat) : Int) = kk) : putS o hi t o k = t 0 kk := by rw [putS_g0, h]
theorem putS_uk (o : Nat) (hi : HI) (t : TS) (j k : Nat) (kk v : Int) (h : ((k : Nat) : Int) = kk) (hj : j < 17 := by decide) : up2 (putS o hi t) (o + j) k v = putS o hi (ut t j kk v) := by rw [putS_u o hi t j k v hj, h]
theorem putS_uk0 (o : Nat) (hi : HI) (t : TS) (k : Nat) (kk v : Int) (h : ((k : Nat) : Int) = kk) : up2 (putS o hi t) o k v = putS o hi (ut t 0 kk v) := by rw [putS_u0, h]
theorem pa_gk (a : Nat) (hi : HI) (f : Int → Int) (k : Nat) (kk : Int) (h : ((k : Nat) : Int) = kk) : pa a hi f a k = f kk := by rw [pa_g, h]
theorem pa_uk (a : Nat) (hi : HI) (f : Int → Int) (k : Nat) (kk v : Int) (h : ((k : Nat) : Int) = kk) : up2 (pa a hi f) a k v = pa a hi (up1 f kk v) := by rw [pa_u, h]
section CALLS2
variable {E : ET} {M M2 : MT} {cu su pc : Nat} {ls : List (Option AV)} {st : List AV} {hi h1 : HI} {hr hr1 : HR} {n n1 : Nat} {Q : QT} {idx b c N : Nat} {T : u_T} {v : AV} {P : Int → HI → HR → Nat → Prop} {PW : HI → HR → Nat → Prop}
theorem aw_S1x {v1 : AV} (hd : decode (mC M) pc = .ok (.invokestatic idx, 3)) (hc : CLS (mY M).cls idx M2 1) (hf : fitsIn M M2) (hM : AMet E M2 [v1] hi hr n (EX (some v) h1 hr1 n1)) (hw1 : cu ≤ mMc M) (hw2 : su ≤ mMs M) (z1 : mMc M2 = 0) (z2 : mMs M2 = 0) (hst : st.length ≤ 4) (kk : AW E M cu su (pc + 3) ls (v :: st) h1 hr1 n1 Q) : AW E M cu su pc ls (v1 :: st) hi hr n Q := by
  refine aw_S1 hd hc hf hM (by rw [z1]; exact hw1) (by rw [z2]; exact hw2) hst fun r h2 r2 n2 hq => ?_
  rw [z1, z2, Nat.add_zero, Nat.add_zero]
  obtain ⟨rfl, rfl, rfl, rfl⟩ := hq
  exact kk
theorem aw_S1v {v1 : AV} (hd : decode (mC M) pc = .ok (.invokestatic idx, 3)) (hc : CLS (mY M).cls idx M2 1) (hf : fitsIn M M2) (hM : AMet E M2 [v1] hi hr n (EX none h1 hr1 n1)) (hw1 : cu ≤ mMc M) (hw2 : su ≤ mMs M) (z1 : mMc M2 = 0) (z2 : mMs M2 = 0) (hst : st.length ≤ 4) (kk : AW E M cu su (pc + 3) ls st h1 hr1 n1 Q) : AW E M cu su pc ls (v1 :: st) hi hr n Q := by
  refine aw_S1 hd hc hf hM (by rw [z1]; exact hw1) (by rw [z2]; exact hw2) hst fun r h2 r2 n2 hq => ?_
  rw [z1, z2, Nat.add_zero, Nat.add_zero]
  obtain ⟨rfl, rfl, rfl, rfl⟩ := hq
  exact kk
theorem aw_S1i {v1 : AV} (hd : decode (mC M) pc = .ok (.invokestatic idx, 3)) (hc : CLS (mY M).cls idx M2 1) (hf : fitsIn M M2) (hM : AMet E M2 [v1] hi hr n (PI P)) (hw1 : cu ≤ mMc M) (hw2 : su ≤ mMs M) (z1 : mMc M2 = 0) (z2 : mMs M2 = 0) (hst : st.length ≤ 4) (kk : ∀ (v : Int) (h1 : HI) (hr1 : HR) (n1 : Nat), P v h1 hr1 n1 → AW E M cu su (pc + 3) ls (aI v :: st) h1 hr1 n1 Q) : AW E M cu su pc ls (v1 :: st) hi hr n Q := by
  refine aw_S1 hd hc hf hM (by rw [z1]; exact hw1) (by rw [z2]; exact hw2) hst fun r h2 r2 n2 hq => ?_
  rw [z1, z2, Nat.add_zero, Nat.add_zero]
  obtain ⟨v, rfl, hq⟩ := hq
  exact kk v h2 r2 n2 hq
theorem aw_S1w {v1 : AV} (hd : decode (mC M) pc = .ok (.invokestatic idx, 3)) (hc : CLS (mY M).cls idx M2 1) (hf : fitsIn M M2) (hM : AMet E M2 [v1] hi hr n (PV PW)) (hw1 : cu ≤ mMc M) (hw2 : su ≤ mMs M) (z1 : mMc M2 = 0) (z2 : mMs M2 = 0) (hst : st.length ≤ 4) (kk : ∀ (h1 : HI) (hr1 : HR) (n1 : Nat), PW h1 hr1 n1 → AW E M cu su (pc + 3) ls st h1 hr1 n1 Q) : AW E M cu su pc ls (v1 :: st) hi hr n Q := by
  refine aw_S1 hd hc hf hM (by rw [z1]; exact hw1) (by rw [z2]; exact hw2) hst fun r h2 r2 n2 hq => ?_
  rw [z1, z2, Nat.add_zero, Nat.add_zero]
  obtain ⟨rfl, hq⟩ := hq
  exact kk h2 r2 n2 hq
theorem aw_S2x {v1 v2 : AV} (hd : decode (mC M) pc = .ok (.invokestatic idx, 3)) (hc : CLS (mY M).cls idx M2 2) (hf : fitsIn M M2) (hM : AMet E M2 [v1, v2] hi hr n (EX (some v) h1 hr1 n1)) (hw1 : cu ≤ mMc M) (hw2 : su ≤ mMs M) (z1 : mMc M2 = 0) (z2 : mMs M2 = 0) (hst : st.length ≤ 4) (kk : AW E M cu su (pc + 3) ls (v :: st) h1 hr1 n1 Q) : AW E M cu su pc ls (v2 :: v1 :: st) hi hr n Q := by
  refine aw_S2 hd hc hf hM (by rw [z1]; exact hw1) (by rw [z2]; exact hw2) hst fun r h2 r2 n2 hq => ?_
  rw [z1, z2, Nat.add_zero, Nat.add_zero]
  obtain ⟨rfl, rfl, rfl, rfl⟩ := hq
  exact kk
theorem aw_S2v {v1 v2 : AV} (hd : decode (mC M) pc = .ok (.invokestatic idx, 3)) (hc : CLS (mY M).cls idx M2 2) (hf : fitsIn M M2) (hM : AMet E M2 [v1, v2] hi hr n (EX none h1 hr1 n1)) (hw1 : cu ≤ mMc M) (hw2 : su ≤ mMs M) (z1 : mMc M2 = 0) (z2 : mMs M2 = 0) (hst : st.length ≤ 4) (kk : AW E M cu su (pc + 3) ls st h1 hr1 n1 Q) : AW E M cu su pc ls (v2 :: v1 :: st) hi hr n Q := by
  refine aw_S2 hd hc hf hM (by rw [z1]; exact hw1) (by rw [z2]; exact hw2) hst fun r h2 r2 n2 hq => ?_
  rw [z1, z2, Nat.add_zero, Nat.add_zero]
  obtain ⟨rfl, rfl, rfl, rfl⟩ := hq
  exact kk
theorem aw_S2i {v1 v2 : AV} (hd : decode (mC M) pc = .ok (.invokestatic idx, 3)) (hc : CLS (mY M).cls idx M2 2) (hf : fitsIn M M2) (hM : AMet E M2 [v1, v2] hi hr n (PI P)) (hw1 : cu ≤ mMc M) (hw2 : su ≤ mMs M) (z1 : mMc M2 = 0) (z2 : mMs M2 = 0) (hst : st.length ≤ 4) (kk : ∀ (v : Int) (h1 : HI) (hr1 : HR) (n1 : Nat), P v h1 hr1 n1 → AW E M cu su (pc + 3) ls (aI v :: st) h1 hr1 n1 Q) : AW E M cu su pc ls (v2 :: v1 :: st) hi hr n Q := by
  refine aw_S2 hd hc hf hM (by rw [z1]; exact hw1) (by rw [z2]; exact hw2) hst fun r h2 r2 n2 hq => ?_
  rw [z1, z2, Nat.add_zero, Nat.add_zero]
  obtain ⟨v, rfl, hq⟩ := hq
  exact kk v h2 r2 n2 hq
theorem aw_S2w {v1 v2 : AV} (hd : decode (mC M) pc = .ok (.invokestatic idx, 3)) (hc : CLS (mY M).cls idx M2 2) (hf : fitsIn M M2) (hM : AMet E M2 [v1, v2] hi hr n (PV PW)) (hw1 : cu ≤ mMc M) (hw2 : su ≤ mMs M) (z1 : mMc M2 = 0) (z2 : mMs M2 = 0) (hst : st.length ≤ 4) (kk : ∀ (h1 : HI) (hr1 : HR) (n1 : Nat), PW h1 hr1 n1 → AW E M cu su (pc + 3) ls st h1 hr1 n1 Q) : AW E M cu su pc ls (v2 :: v1 :: st) hi hr n Q := by
  refine aw_S2 hd hc hf hM (by rw [z1]; exact hw1) (by rw [z2]; exact hw2) hst fun r h2 r2 n2 hq => ?_
  rw [z1, z2, Nat.add_zero, Nat.add_zero]
  obtain ⟨rfl, hq⟩ := hq
  exact kk h2 r2 n2 hq
theorem aw_S3x {v1 v2 v3 : AV} (hd : decode (mC M) pc = .ok (.invokestatic idx, 3)) (hc : CLS (mY M).cls idx M2 3) (hf : fitsIn M M2) (hM : AMet E M2 [v1, v2, v3] hi hr n (EX (some v) h1 hr1 n1)) (hw1 : cu ≤ mMc M) (hw2 : su ≤ mMs M) (z1 : mMc M2 = 0) (z2 : mMs M2 = 0) (hst : st.length ≤ 4) (kk : AW E M cu su (pc + 3) ls (v :: st) h1 hr1 n1 Q) : AW E M cu su pc ls (v3 :: v2 :: v1 :: st) hi hr n Q := by
  refine aw_S3 hd hc hf hM (by rw [z1]; exact hw1) (by rw [z2]; exact hw2) hst fun r h2 r2 n2 hq => ?_
  rw [z1, z2, Nat.add_zero, Nat.add_zero]
  obtain ⟨rfl, rfl, rfl, rfl⟩ := hq
  exact kk
theorem aw_S3v {v1 v2 v3 : AV} (hd : decode (mC M) pc = .ok (.invokestatic idx, 3)) (hc : CLS (mY M).cls idx M2 3) (hf : fitsIn M M2) (hM : AMet E M2 [v1, v2, v3] hi hr n (EX none h1 hr1 n1)) (hw1 : cu ≤ mMc M) (hw2 : su ≤ mMs M) (z1 : mMc M2 = 0) (z2 : mMs M2 = 0) (hst : st.length ≤ 4) (kk : AW E M cu su (pc + 3) ls st h1 hr1 n1 Q) : AW E M cu su pc ls (v3 :: v2 :: v1 :: st) hi hr n Q := by
  refine aw_S3 hd hc hf hM (by rw [z1]; exact hw1) (by rw [z2]; exact hw2) hst fun r h2 r2 n2 hq => ?_
  rw [z1, z2, Nat.add_zero, Nat.add_zero]
  obtain ⟨rfl, rfl, rfl, rfl⟩ := hq
  exact kk
theorem aw_S3i {v1 v2 v3 : AV} (hd : decode (mC M) pc = .ok (.invokestatic idx, 3)) (hc : CLS (mY M).cls idx M2 3) (hf : fitsIn M M2) (hM : AMet E M2 [v1, v2, v3] hi hr n (PI P)) (hw1 : cu ≤ mMc M) (hw2 : su ≤ mMs M) (z1 : mMc M2 = 0) (z2 : mMs M2 = 0) (hst : st.length ≤ 4) (kk : ∀ (v : Int) (h1 : HI) (hr1 : HR) (n1 : Nat), P v h1 hr1 n1 → AW E M cu su (pc + 3) ls (aI v :: st) h1 hr1 n1 Q) : AW E M cu su pc ls (v3 :: v2 :: v1 :: st) hi hr n Q := by
  refine aw_S3 hd hc hf hM (by rw [z1]; exact hw1) (by rw [z2]; exact hw2) hst fun r h2 r2 n2 hq => ?_
  rw [z1, z2, Nat.add_zero, Nat.add_zero]
  obtain ⟨v, rfl, hq⟩ := hq
  exact kk v h2 r2 n2 hq
theorem aw_S3w {v1 v2 v3 : AV} (hd : decode (mC M) pc = .ok (.invokestatic idx, 3)) (hc : CLS (mY M).cls idx M2 3) (hf : fitsIn M M2) (hM : AMet E M2 [v1, v2, v3] hi hr n (PV PW)) (hw1 : cu ≤ mMc M) (hw2 : su ≤ mMs M) (z1 : mMc M2 = 0) (z2 : mMs M2 = 0) (hst : st.length ≤ 4) (kk : ∀ (h1 : HI) (hr1 : HR) (n1 : Nat), PW h1 hr1 n1 → AW E M cu su (pc + 3) ls st h1 hr1 n1 Q) : AW E M cu su pc ls (v3 :: v2 :: v1 :: st) hi hr n Q := by
  refine aw_S3 hd hc hf hM (by rw [z1]; exact hw1) (by rw [z2]; exact hw2) hst fun r h2 r2 n2 hq => ?_
  rw [z1, z2, Nat.add_zero, Nat.add_zero]
  obtain ⟨rfl, hq⟩ := hq
  exact kk h2 r2 n2 hq
theorem aw_V0x (hd : decode (mC M) pc = .ok (.invokevirtual idx, 3)) (hc : CLV (mY M).cls idx M2 0) (hf : fitsIn M M2) (hb : b < n) (hs : sh b = (c, N)) (hcl : vwCl[c]? = some ((mY M2).cls, T, N)) (hM : AMet E M2 [aR b] hi hr n (EX (some v) h1 hr1 n1)) (hw1 : cu ≤ mMc M) (hw2 : su ≤ mMs M) (z1 : mMc M2 = 0) (z2 : mMs M2 = 0) (hst : st.length ≤ 4) (kk : AW E M cu su (pc + 3) ls (v :: st) h1 hr1 n1 Q) : AW E M cu su pc ls (aR b :: st) hi hr n Q := by
  refine aw_V0 hd hc hf hb hs hcl hM (by rw [z1]; exact hw1) (by rw [z2]; exact hw2) hst fun r h2 r2 n2 hq => ?_
  rw [z1, z2, Nat.add_zero, Nat.add_zero]
  obtain ⟨rfl, rfl, rfl, rfl⟩ := hq
  exact kk
theorem aw_V0v (hd : decode (mC M) pc = .ok (.invokevirtual idx, 3)) (hc : CLV (mY M).cls idx M2 0) (hf : fitsIn M M2) (hb : b < n) (hs : sh b = (c, N)) (hcl : vwCl[c]? = some ((mY M2).cls, T, N)) (hM : AMet E M2 [aR b] hi hr n (EX none h1 hr1 n1)) (hw1 : cu ≤ mMc M) (hw2 : su ≤ mMs M) (z1 : mMc M2 = 0) (z2 : mMs M2 = 0) (hst : st.length ≤ 4) (kk : AW E M cu su (pc + 3) ls st h1 hr1 n1 Q) : AW E M cu su pc ls (aR b :: st) hi hr n Q := by
  refine aw_V0 hd hc hf hb hs hcl hM (by rw [z1]; exact hw1) (by rw [z2]; exact hw2) hst fun r h2 r2 n2 hq => ?_
  rw [z1, z2, Nat.add_zero, Nat.add_zero]
  obtain ⟨rfl, rfl, rfl, rfl⟩ := hq
  exact kk
theorem aw_V0i (hd : decode (mC M) pc = .ok (.invokevirtual idx, 3)) (hc : CLV (mY M).cls idx M2 0) (hf : fitsIn M M2) (hb : b < n) (hs : sh b = (c, N)) (hcl : vwCl[c]? = some ((mY M2).cls, T, N)) (hM : AMet E M2 [aR b] hi hr n (PI P)) (hw1 : cu ≤ mMc M) (hw2 : su ≤ mMs M) (z1 : mMc M2 = 0) (z2 : mMs M2 = 0) (hst : st.length ≤ 4) (kk : ∀ (v : Int) (h1 : HI) (hr1 : HR) (n1 : Nat), P v h1 hr1 n1 → AW E M cu su (pc + 3) ls (aI v :: st) h1 hr1 n1 Q) : AW E M cu su pc ls (aR b :: st) hi hr n Q := by
  refine aw_V0 hd hc hf hb hs hcl hM (by rw [z1]; exact hw1) (by rw [z2]; exact hw2) hst fun r h2 r2 n2 hq => ?_
  rw [z1, z2, Nat.add_zero, Nat.add_zero]
  obtain ⟨v, rfl, hq⟩ := hq
  exact kk v h2 r2 n2 hq
theorem aw_V0w (hd : decode (mC M) pc = .ok (.invokevirtual idx, 3)) (hc : CLV (mY M).cls idx M2 0) (hf : fitsIn M M2) (hb : b < n) (hs : sh b = (c, N)) (hcl : vwCl[c]? = some ((mY M2).cls, T, N)) (hM : AMet E M2 [aR b] hi hr n (PV PW)) (hw1 : cu ≤ mMc M) (hw2 : su ≤ mMs M) (z1 : mMc M2 = 0) (z2 : mMs M2 = 0) (hst : st.length ≤ 4) (kk : ∀ (h1 : HI) (hr1 : HR) (n1 : Nat), PW h1 hr1 n1 → AW E M cu su (pc + 3) ls st h1 hr1 n1 Q) : AW E M cu su pc ls (aR b :: st) hi hr n Q := by
  refine aw_V0 hd hc hf hb hs hcl hM (by rw [z1]; exact hw1) (by rw [z2]; exact hw2) hst fun r h2 r2 n2 hq => ?_
  rw [z1, z2, Nat.add_zero, Nat.add_zero]
  obtain ⟨rfl, hq⟩ := hq
  exact kk h2 r2 n2 hq
theorem aw_V1x {v1 : AV} (hd : decode (mC M) pc = .ok (.invokevirtual idx, 3)) (hc : CLV (mY M).cls idx M2 1) (hf : fitsIn M M2) (hb : b < n) (hs : sh b = (c, N)) (hcl : vwCl[c]? = some ((mY M2).cls, T, N)) (hM : AMet E M2 [aR b, v1] hi hr n (EX (some v) h1 hr1 n1)) (hw1 : cu ≤ mMc M) (hw2 : su ≤ mMs M) (z1 : mMc M2 = 0) (z2 : mMs M2 = 0) (hst : st.length ≤ 4) (kk : AW E M cu su (pc + 3) ls (v :: st) h1 hr1 n1 Q) : AW E M cu su pc ls (v1 :: aR b :: st) hi hr n Q := by
  refine aw_V1 hd hc hf hb hs hcl hM (by rw [z1]; exact hw1) (by rw [z2]; exact hw2) hst fun r h2 r2 n2 hq => ?_
  rw [z1, z2, Nat.add_zero, Nat.add_zero]
  obtain ⟨rfl, rfl, rfl, rfl⟩ := hq
  exact kk
theorem aw_V1v {v1 : AV} (hd : decode (mC M) pc = .ok (.invokevirtual idx, 3)) (hc : CLV (mY M).cls idx M2 1) (hf : fitsIn M M2) (hb : b < n) (hs : sh b = (c, N)) (hcl : vwCl[c]? = some ((mY M2).cls, T, N)) (hM : AMet E M2 [aR b, v1] hi hr n (EX none h1 hr1 n1)) (hw1 : cu ≤ mMc M) (hw2 : su ≤ mMs M) (z1 : mMc M2 = 0) (z2 : mMs M2 = 0) (hst : st.length ≤ 4) (kk : AW E M cu su (pc + 3) ls st h1 hr1 n1 Q) : AW E M cu su pc ls (v1 :: aR b :: st) hi hr n Q := by
  refine aw_V1 hd hc hf hb hs hcl hM (by rw [z1]; exact hw1) (by rw [z2]; exact hw2) hst fun r h2 r2 n2 hq => ?_
  rw [z1, z2, Nat.add_zero, Nat.add_zero]
  obtain ⟨rfl, rfl, rfl, rfl⟩ := hq
  exact kk
theorem aw_V1i {v1 : AV} (hd : decode (mC M) pc = .ok (.invokevirtual idx, 3)) (hc : CLV (mY M).cls idx M2 1) (hf : fitsIn M M2) (hb : b < n) (hs : sh b = (c, N)) (hcl : vwCl[c]? = some ((mY M2).cls, T, N)) (hM : AMet E M2 [aR b, v1] hi hr n (PI P)) (hw1 : cu ≤ mMc M) (hw2 : su ≤ mMs M) (z1 : mMc M2 = 0) (z2 : mMs M2 = 0) (hst : st.length ≤ 4) (kk : ∀ (v : Int) (h1 : HI) (hr1 : HR) (n1 : Nat), P v h1 hr1 n1 → AW E M cu su (pc + 3) ls (aI v :: st) h1 hr1 n1 Q) : AW E M cu su pc ls (v1 :: aR b :: st) hi hr n Q := by
  refine aw_V1 hd hc hf hb hs hcl hM (by rw [z1]; exact hw1) (by rw [z2]; exact hw2) hst fun r h2 r2 n2 hq => ?_
  rw [z1, z2, Nat.add_zero, Nat.add_zero]
  obtain ⟨v, rfl, hq⟩ := hq
  exact kk v h2 r2 n2 hq
theorem aw_V1w {v1 : AV} (hd : decode (mC M) pc = .ok (.invokevirtual idx, 3)) (hc : CLV (mY M).cls idx M2 1) (hf : fitsIn M M2) (hb : b < n) (hs : sh b = (c, N)) (hcl : vwCl[c]? = some ((mY M2).cls, T, N)) (hM : AMet E M2 [aR b, v1] hi hr n (PV PW)) (hw1 : cu ≤ mMc M) (hw2 : su ≤ mMs M) (z1 : mMc M2 = 0) (z2 : mMs M2 = 0) (hst : st.length ≤ 4) (kk : ∀ (h1 : HI) (hr1 : HR) (n1 : Nat), PW h1 hr1 n1 → AW E M cu su (pc + 3) ls st h1 hr1 n1 Q) : AW E M cu su pc ls (v1 :: aR b :: st) hi hr n Q := by
  refine aw_V1 hd hc hf hb hs hcl hM (by rw [z1]; exact hw1) (by rw [z2]; exact hw2) hst fun r h2 r2 n2 hq => ?_
  rw [z1, z2, Nat.add_zero, Nat.add_zero]
  obtain ⟨rfl, hq⟩ := hq
  exact kk h2 r2 n2 hq
theorem aw_V2x {v1 v2 : AV} (hd : decode (mC M) pc = .ok (.invokevirtual idx, 3)) (hc : CLV (mY M).cls idx M2 2) (hf : fitsIn M M2) (hb : b < n) (hs : sh b = (c, N)) (hcl : vwCl[c]? = some ((mY M2).cls, T, N)) (hM : AMet E M2 [aR b, v1, v2] hi hr n (EX (some v) h1 hr1 n1)) (hw1 : cu ≤ mMc M) (hw2 : su ≤ mMs M) (z1 : mMc M2 = 0) (z2 : mMs M2 = 0) (hst : st.length ≤ 4) (kk : AW E M cu su (pc + 3) ls (v :: st) h1 hr1 n1 Q) : AW E M cu su pc ls (v2 :: v1 :: aR b :: st) hi hr n Q := by
  refine aw_V2 hd hc hf hb hs hcl hM (by rw [z1]; exact hw1) (by rw [z2]; exact hw2) hst fun r h2 r2 n2 hq => ?_
  rw [z1, z2, Nat.add_zero, Nat.add_zero]
  obtain ⟨rfl, rfl, rfl, rfl⟩ := hq
  exact kk
theorem aw_V2v {v1 v2 : AV} (hd : decode (mC M) pc = .ok (.invokevirtual idx, 3)) (hc : CLV (mY M).cls idx M2 2) (hf : fitsIn M M2) (hb : b < n) (hs : sh b = (c, N)) (hcl : vwCl[c]? = some ((mY M2).cls, T, N)) (hM : AMet E M2 [aR b, v1, v2] hi hr n (EX none h1 hr1 n1)) (hw1 : cu ≤ mMc M) (hw2 : su ≤ mMs M) (z1 : mMc M2 = 0) (z2 : mMs M2 = 0) (hst : st.length ≤ 4) (kk : AW E M cu su (pc + 3) ls st h1 hr1 n1 Q) : AW E M cu su pc ls (v2 :: v1 :: aR b :: st) hi hr n Q := by
  refine aw_V2 hd hc hf hb hs hcl hM (by rw [z1]; exact hw1) (by rw [z2]; exact hw2) hst fun r h2 r2 n2 hq => ?_
  rw [z1, z2, Nat.add_zero, Nat.add_zero]
  obtain ⟨rfl, rfl, rfl, rfl⟩ := hq
  exact kk
theorem aw_V2i {v1 v2 : AV} (hd : decode (mC M) pc = .ok (.invokevirtual idx, 3)) (hc : CLV (mY M).cls idx M2 2) (hf : fitsIn M M2) (hb : b < n) (hs : sh b = (c, N)) (hcl : vwCl[c]? = some ((mY M2).cls, T, N)) (hM : AMet E M2 [aR b, v1, v2] hi hr n (PI P)) (hw1 : cu ≤ mMc M) (hw2 : su ≤ mMs M) (z1 : mMc M2 = 0) (z2 : mMs M2 = 0) (hst : st.length ≤ 4) (kk : ∀ (v : Int) (h1 : HI) (hr1 : HR) (n1 : Nat), P v h1 hr1 n1 → AW E M cu su (pc + 3) ls (aI v :: st) h1 hr1 n1 Q) : AW E M cu su pc ls (v2 :: v1 :: aR b :: st) hi hr n Q := by
  refine aw_V2 hd hc hf hb hs hcl hM (by rw [z1]; exact hw1) (by rw [z2]; exact hw2) hst fun r h2 r2 n2 hq => ?_
  rw [z1, z2, Nat.add_zero, Nat.add_zero]
  obtain ⟨v, rfl, hq⟩ := hq
  exact kk v h2 r2 n2 hq
theorem aw_V2w {v1 v2 : AV} (hd : decode (mC M) pc = .ok (.invokevirtual idx, 3)) (hc : CLV (mY M).cls idx M2 2) (hf : fitsIn M M2) (hb : b < n) (hs : sh b = (c, N)) (hcl : vwCl[c]? = some ((mY M2).cls, T, N)) (hM : AMet E M2 [aR b, v1, v2] hi hr n (PV PW)) (hw1 : cu ≤ mMc M) (hw2 : su ≤ mMs M) (z1 : mMc M2 = 0) (z2 : mMs M2 = 0) (hst : st.length ≤ 4) (kk : ∀ (h1 : HI) (hr1 : HR) (n1 : Nat), PW h1 hr1 n1 → AW E M cu su (pc + 3) ls st h1 hr1 n1 Q) : AW E M cu su pc ls (v2 :: v1 :: aR b :: st) hi hr n Q := by
  refine aw_V2 hd hc hf hb hs hcl hM (by rw [z1]; exact hw1) (by rw [z2]; exact hw2) hst fun r h2 r2 n2 hq => ?_
  rw [z1, z2, Nat.add_zero, Nat.add_zero]
  obtain ⟨rfl, hq⟩ := hq
  exact kk h2 r2 n2 hq
theorem aw_V3x {v1 v2 v3 : AV} (hd : decode (mC M) pc = .ok (.invokevirtual idx, 3)) (hc : CLV (mY M).cls idx M2 3) (hf : fitsIn M M2) (hb : b < n) (hs : sh b = (c, N)) (hcl : vwCl[c]? = some ((mY M2).cls, T, N)) (hM : AMet E M2 [aR b, v1, v2, v3] hi hr n (EX (some v) h1 hr1 n1)) (hw1 : cu ≤ mMc M) (hw2 : su ≤ mMs M) (z1 : mMc M2 = 0) (z2 : mMs M2 = 0) (hst : st.length ≤ 4) (kk : AW E M cu su (pc + 3) ls (v :: st) h1 hr1 n1 Q) : AW E M cu su pc ls (v3 :: v2 :: v1 :: aR b :: st) hi hr n Q := by
  refine aw_V3 hd hc hf hb hs hcl hM (by rw [z1]; exact hw1) (by rw [z2]; exact hw2) hst fun r h2 r2 n2 hq => ?_
  rw [z1, z2, Nat.add_zero, Nat.add_zero]
  obtain ⟨rfl, rfl, rfl, rfl⟩ := hq
  exact kk
theorem aw_V3v {v1 v2 v3 : AV} (hd : decode (mC M) pc = .ok (.invokevirtual idx, 3)) (hc : CLV (mY M).cls idx M2 3) (hf : fitsIn M M2) (hb : b < n) (hs : sh b = (c, N)) (hcl : vwCl[c]? = some ((mY M2).cls, T, N)) (hM : AMet E M2 [aR b, v1, v2, v3] hi hr n (EX none h1 hr1 n1)) (hw1 : cu ≤ mMc M) (hw2 : su ≤ mMs M) (z1 : mMc M2 = 0) (z2 : mMs M2 = 0) (hst : st.length ≤ 4) (kk : AW E M cu su (pc + 3) ls st h1 hr1 n1 Q) : AW E M cu su pc ls (v3 :: v2 :: v1 :: aR b :: st) hi hr n Q := by
  refine aw_V3 hd hc hf hb hs hcl hM (by rw [z1]; exact hw1) (by rw [z2]; exact hw2) hst fun r h2 r2 n2 hq => ?_
  rw [z1, z2, Nat.add_zero, Nat.add_zero]
  obtain ⟨rfl, rfl, rfl, rfl⟩ := hq
  exact kk
theorem aw_V3i {v1 v2 v3 : AV} (hd : decode (mC M) pc = .ok (.invokevirtual idx, 3)) (hc : CLV (mY M).cls idx M2 3) (hf : fitsIn M M2) (hb : b < n) (hs : sh b = (c, N)) (hcl : vwCl[c]? = some ((mY M2).cls, T, N)) (hM : AMet E M2 [aR b, v1, v2, v3] hi hr n (PI P)) (hw1 : cu ≤ mMc M) (hw2 : su ≤ mMs M) (z1 : mMc M2 = 0) (z2 : mMs M2 = 0) (hst : st.length ≤ 4) (kk : ∀ (v : Int) (h1 : HI) (hr1 : HR) (n1 : Nat), P v h1 hr1 n1 → AW E M cu su (pc + 3) ls (aI v :: st) h1 hr1 n1 Q) : AW E M cu su pc ls (v3 :: v2 :: v1 :: aR b :: st) hi hr n Q := by
  refine aw_V3 hd hc hf hb hs hcl hM (by rw [z1]; exact hw1) (by rw [z2]; exact hw2) hst fun r h2 r2 n2 hq => ?_
  rw [z1, z2, Nat.add_zero, Nat.add_zero]
  obtain ⟨v, rfl, hq⟩ := hq
  exact kk v h2 r2 n2 hq
theorem aw_V3w {v1 v2 v3 : AV} (hd : decode (mC M) pc = .ok (.invokevirtual idx, 3)) (hc : CLV (mY M).cls idx M2 3) (hf : fitsIn M M2) (hb : b < n) (hs : sh b = (c, N)) (hcl : vwCl[c]? = some ((mY M2).cls, T, N)) (hM : AMet E M2 [aR b, v1, v2, v3] hi hr n (PV PW)) (hw1 : cu ≤ mMc M) (hw2 : su ≤ mMs M) (z1 : mMc M2 = 0) (z2 : mMs M2 = 0) (hst : st.length ≤ 4) (kk : ∀ (h1 : HI) (hr1 : HR) (n1 : Nat), PW h1 hr1 n1 → AW E M cu su (pc + 3) ls st h1 hr1 n1 Q) : AW E M cu su pc ls (v3 :: v2 :: v1 :: aR b :: st) hi hr n Q := by
  refine aw_V3 hd hc hf hb hs hcl hM (by rw [z1]; exact hw1) (by rw [z2]; exact hw2) hst fun r h2 r2 n2 hq => ?_
  rw [z1, z2, Nat.add_zero, Nat.add_zero]
  obtain ⟨rfl, hq⟩ := hq
  exact kk h2 r2 n2 hq
theorem aw_V4x {v1 v2 v3 v4 : AV} (hd : decode (mC M) pc = .ok (.invokevirtual idx, 3)) (hc : CLV (mY M).cls idx M2 4) (hf : fitsIn M M2) (hb : b < n) (hs : sh b = (c, N)) (hcl : vwCl[c]? = some ((mY M2).cls, T, N)) (hM : AMet E M2 [aR b, v1, v2, v3, v4] hi hr n (EX (some v) h1 hr1 n1)) (hw1 : cu ≤ mMc M) (hw2 : su ≤ mMs M) (z1 : mMc M2 = 0) (z2 : mMs M2 = 0) (hst : st.length ≤ 4) (kk : AW E M cu su (pc + 3) ls (v :: st) h1 hr1 n1 Q) : AW E M cu su pc ls (v4 :: v3 :: v2 :: v1 :: aR b :: st) hi hr n Q := by
  refine aw_V4 hd hc hf hb hs hcl hM (by rw [z1]; exact hw1) (by rw [z2]; exact hw2) hst fun r h2 r2 n2 hq => ?_
  rw [z1, z2, Nat.add_zero, Nat.add_zero]
  obtain ⟨rfl, rfl, rfl, rfl⟩ := hq
  exact kk
theorem aw_V4v {v1 v2 v3 v4 : AV} (hd : decode (mC M) pc = .ok (.invokevirtual idx, 3)) (hc : CLV (mY M).cls idx M2 4) (hf : fitsIn M M2) (hb : b < n) (hs : sh b = (c, N)) (hcl : vwCl[c]? = some ((mY M2).cls, T, N)) (hM : AMet E M2 [aR b, v1, v2, v3, v4] hi hr n (EX none h1 hr1 n1)) (hw1 : cu ≤ mMc M) (hw2 : su ≤ mMs M) (z1 : mMc M2 = 0) (z2 : mMs M2 = 0) (hst : st.length ≤ 4) (kk : AW E M cu su (pc + 3) ls st h1 hr1 n1 Q) : AW E M cu su pc ls (v4 :: v3 :: v2 :: v1 :: aR b :: st) hi hr n Q := by
  refine aw_V4 hd hc hf hb hs hcl hM (by rw [z1]; exact hw1) (by rw [z2]; exact hw2) hst fun r h2 r2 n2 hq => ?_
  rw [z1, z2, Nat.add_zero, Nat.add_zero]
  obtain ⟨rfl, rfl, rfl, rfl⟩ := hq
  exact kk
theorem aw_V4i {v1 v2 v3 v4 : AV} (hd : decode (mC M) pc = .ok (.invokevirtual idx, 3)) (hc : CLV (mY M).cls idx M2 4) (hf : fitsIn M M2) (hb : b < n) (hs : sh b = (c, N)) (hcl : vwCl[c]? = some ((mY M2).cls, T, N)) (hM : AMet E M2 [aR b, v1, v2, v3, v4] hi hr n (PI P)) (hw1 : cu ≤ mMc M) (hw2 : su ≤ mMs M) (z1 : mMc M2 = 0) (z2 : mMs M2 = 0) (hst : st.length ≤ 4) (kk : ∀ (v : Int) (h1 : HI) (hr1 : HR) (n1 : Nat), P v h1 hr1 n1 → AW E M cu su (pc + 3) ls (aI v :: st) h1 hr1 n1 Q) : AW E M cu su pc ls (v4 :: v3 :: v2 :: v1 :: aR b :: st) hi hr n Q := by
  refine aw_V4 hd hc hf hb hs hcl hM (by rw [z1]; exact hw1) (by rw [z2]; exact hw2) hst fun r h2 r2 n2 hq => ?_
  rw [z1, z2, Nat.add_zero, Nat.add_zero]
  obtain ⟨v, rfl, hq⟩ := hq
  exact kk v h2 r2 n2 hq
theorem aw_V4w {v1 v2 v3 v4 : AV} (hd : decode (mC M) pc = .ok (.invokevirtual idx, 3)) (hc : CLV (mY M).cls idx M2 4) (hf : fitsIn M M2) (hb : b < n) (hs : sh b = (c, N)) (hcl : vwCl[c]? = some ((mY M2).cls, T, N)) (hM : AMet E M2 [aR b, v1, v2, v3, v4] hi hr n (PV PW)) (hw1 : cu ≤ mMc M) (hw2 : su ≤ mMs M) (z1 : mMc M2 = 0) (z2 : mMs M2 = 0) (hst : st.length ≤ 4) (kk : ∀ (h1 : HI) (hr1 : HR) (n1 : Nat), PW h1 hr1 n1 → AW E M cu su (pc + 3) ls st h1 hr1 n1 Q) : AW E M cu su pc ls (v4 :: v3 :: v2 :: v1 :: aR b :: st) hi hr n Q := by
  refine aw_V4 hd hc hf hb hs hcl hM (by rw [z1]; exact hw1) (by rw [z2]; exact hw2) hst fun r h2 r2 n2 hq => ?_
  rw [z1, z2, Nat.add_zero, Nat.add_zero]
  obtain ⟨rfl, hq⟩ := hq
  exact kk h2 r2 n2 hq
theorem aw_V5x {v1 v2 v3 v4 v5 : AV} (hd : decode (mC M) pc = .ok (.invokevirtual idx, 3)) (hc : CLV (mY M).cls idx M2 5) (hf : fitsIn M M2) (hb : b < n) (hs : sh b = (c, N)) (hcl : vwCl[c]? = some ((mY M2).cls, T, N)) (hM : AMet E M2 [aR b, v1, v2, v3, v4, v5] hi hr n (EX (some v) h1 hr1 n1)) (hw1 : cu ≤ mMc M) (hw2 : su ≤ mMs M) (z1 : mMc M2 = 0) (z2 : mMs M2 = 0) (hst : st.length ≤ 4) (kk : AW E M cu su (pc + 3) ls (v :: st) h1 hr1 n1 Q) : AW E M cu su pc ls (v5 :: v4 :: v3 :: v2 :: v1 :: aR b :: st) hi hr n Q := by
  refine aw_V5 hd hc hf hb hs hcl hM (by rw [z1]; exact hw1) (by rw [z2]; exact hw2) hst fun r h2 r2 n2 hq => ?_
  rw [z1, z2, Nat.add_zero, Nat.add_zero]
  obtain ⟨rfl, rfl, rfl, rfl⟩ := hq
  exact kk
theorem aw_V5v {v1 v2 v3 v4 v5 : AV} (hd : decode (mC M) pc = .ok (.invokevirtual idx, 3)) (hc : CLV (mY M).cls idx M2 5) (hf : fitsIn M M2) (hb : b < n) (hs : sh b = (c, N)) (hcl : vwCl[c]? = some ((mY M2).cls, T, N)) (hM : AMet E M2 [aR b, v1, v2, v3, v4, v5] hi hr n (EX none h1 hr1 n1)) (hw1 : cu ≤ mMc M) (hw2 : su ≤ mMs M) (z1 : mMc M2 = 0) (z2 : mMs M2 = 0) (hst : st.length ≤ 4) (kk : AW E M cu su (pc + 3) ls st h1 hr1 n1 Q) : AW E M cu su pc ls (v5 :: v4 :: v3 :: v2 :: v1 :: aR b :: st) hi hr n Q := by
  refine aw_V5 hd hc hf hb hs hcl hM (by rw [z1]; exact hw1) (by rw [z2]; exact hw2) hst fun r h2 r2 n2 hq => ?_
  rw [z1, z2, Nat.add_zero, Nat.add_zero]
  obtain ⟨rfl, rfl, rfl, rfl⟩ := hq
  exact kk
theorem aw_V5i {v1 v2 v3 v4 v5 : AV} (hd : decode (mC M) pc = .ok (.invokevirtual idx, 3)) (hc : CLV (mY M).cls idx M2 5) (hf : fitsIn M M2) (hb : b < n) (hs : sh b = (c, N)) (hcl : vwCl[c]? = some ((mY M2).cls, T, N)) (hM : AMet E M2 [aR b, v1, v2, v3, v4, v5] hi hr n (PI P)) (hw1 : cu ≤ mMc M) (hw2 : su ≤ mMs M) (z1 : mMc M2 = 0) (z2 : mMs M2 = 0) (hst : st.length ≤ 4) (kk : ∀ (v : Int) (h1 : HI) (hr1 : HR) (n1 : Nat), P v h1 hr1 n1 → AW E M cu su (pc + 3) ls (aI v :: st) h1 hr1 n1 Q) : AW E M cu su pc ls (v5 :: v4 :: v3 :: v2 :: v1 :: aR b :: st) hi hr n Q := by
  refine aw_V5 hd hc hf hb hs hcl hM (by rw [z1]; exact hw1) (by rw [z2]; exact hw2) hst fun r h2 r2 n2 hq => ?_
  rw [z1, z2, Nat.add_zero, Nat.add_zero]
  obtain ⟨v, rfl, hq⟩ := hq
  exact kk v h2 r2 n2 hq
theorem aw_V5w {v1 v2 v3 v4 v5 : AV} (hd : decode (mC M) pc = .ok (.invokevirtual idx, 3)) (hc : CLV (mY M).cls idx M2 5) (hf : fitsIn M M2) (hb : b < n) (hs : sh b = (c, N)) (hcl : vwCl[c]? = some ((mY M2).cls, T, N)) (hM : AMet E M2 [aR b, v1, v2, v3, v4, v5] hi hr n (PV PW)) (hw1 : cu ≤ mMc M) (hw2 : su ≤ mMs M) (z1 : mMc M2 = 0) (z2 : mMs M2 = 0) (hst : st.length ≤ 4) (kk : ∀ (h1 : HI) (hr1 : HR) (n1 : Nat), PW h1 hr1 n1 → AW E M cu su (pc + 3) ls st h1 hr1 n1 Q) : AW E M cu su pc ls (v5 :: v4 :: v3 :: v2 :: v1 :: aR b :: st) hi hr n Q := by
  refine aw_V5 hd hc hf hb hs hcl hM (by rw [z1]; exact hw1) (by rw [z2]; exact hw2) hst fun r h2 r2 n2 hq => ?_
  rw [z1, z2, Nat.add_zero, Nat.add_zero]
  obtain ⟨rfl, hq⟩ := hq
  exact kk h2 r2 n2 hq
theorem aw_I0x (hd : decode (mC M) pc = .ok (.invokespecial idx, 3)) (hc : CLI (mY M).cls idx M2 0) (hf : fitsIn M M2) (hM : AMet E M2 [aR b] hi hr n (EX (some v) h1 hr1 n1)) (hw1 : cu ≤ mMc M) (hw2 : su ≤ mMs M) (z1 : mMc M2 = 0) (z2 : mMs M2 = 0) (hst : st.length ≤ 4) (kk : AW E M cu su (pc + 3) ls (v :: st) h1 hr1 n1 Q) : AW E M cu su pc ls (aR b :: st) hi hr n Q := by
  refine aw_I0 hd hc hf hM (by rw [z1]; exact hw1) (by rw [z2]; exact hw2) hst fun r h2 r2 n2 hq => ?_
  rw [z1, z2, Nat.add_zero, Nat.add_zero]
  obtain ⟨rfl, rfl, rfl, rfl⟩ := hq
  exact kk
theorem aw_I0v (hd : decode (mC M) pc = .ok (.invokespecial idx, 3)) (hc : CLI (mY M).cls idx M2 0) (hf : fitsIn M M2) (hM : AMet E M2 [aR b] hi hr n (EX none h1 hr1 n1)) (hw1 : cu ≤ mMc M) (hw2 : su ≤ mMs M) (z1 : mMc M2 = 0) (z2 : mMs M2 = 0) (hst : st.length ≤ 4) (kk : AW E M cu su (pc + 3) ls st h1 hr1 n1 Q) : AW E M cu su pc ls (aR b :: st) hi hr n Q := by
  refine aw_I0 hd hc hf hM (by rw [z1]; exact hw1) (by rw [z2]; exact hw2) hst fun r h2 r2 n2 hq => ?_
  rw [z1, z2, Nat.add_zero, Nat.add_zero]
  obtain ⟨rfl, rfl, rfl, rfl⟩ := hq
  exact kk
theorem aw_I0i (hd : decode (mC M) pc = .ok (.invokespecial idx, 3)) (hc : CLI (mY M).cls idx M2 0) (hf : fitsIn M M2) (hM : AMet E M2 [aR b] hi hr n (PI P)) (hw1 : cu ≤ mMc M) (hw2 : su ≤ mMs M) (z1 : mMc M2 = 0) (z2 : mMs M2 = 0) (hst : st.length ≤ 4) (kk : ∀ (v : Int) (h1 : HI) (hr1 : HR) (n1 : Nat), P v h1 hr1 n1 → AW E M cu su (pc + 3) ls (aI v :: st) h1 hr1 n1 Q) : AW E M cu su pc ls (aR b :: st) hi hr n Q := by
  refine aw_I0 hd hc hf hM (by rw [z1]; exact hw1) (by rw [z2]; exact hw2) hst fun r h2 r2 n2 hq => ?_
  rw [z1, z2, Nat.add_zero, Nat.add_zero]
  obtain ⟨v, rfl, hq⟩ := hq
  exact kk v h2 r2 n2 hq
theorem aw_I0w (hd : decode (mC M) pc = .ok (.invokespecial idx, 3)) (hc : CLI (mY M).cls idx M2 0) (hf : fitsIn M M2) (hM : AMet E M2 [aR b] hi hr n (PV PW)) (hw1 : cu ≤ mMc M) (hw2 : su ≤ mMs M) (z1 : mMc M2 = 0) (z2 : mMs M2 = 0) (hst : st.length ≤ 4) (kk : ∀ (h1 : HI) (hr1 : HR) (n1 : Nat), PW h1 hr1 n1 → AW E M cu su (pc + 3) ls st h1 hr1 n1 Q) : AW E M cu su pc ls (aR b :: st) hi hr n Q := by
  refine aw_I0 hd hc hf hM (by rw [z1]; exact hw1) (by rw [z2]; exact hw2) hst fun r h2 r2 n2 hq => ?_
  rw [z1, z2, Nat.add_zero, Nat.add_zero]
  obtain ⟨rfl, hq⟩ := hq
  exact kk h2 r2 n2 hq
end CALLS2
end
section
/-! the small methods -/
section SMALL
variable {E : ET} {hi : HI} {hr : HR} {s : Int → Int}
set_option maxRecDepth 100000 in
set_option maxHeartbeats 4000000 in
theorem c_X8_isIn {v a b : Int} (hv : InR v) (ha : InR a) (hb : InR b) : AMet E M_X8_isIn [aI v, aI a, aI b] hi hr 125 (EX (some (aI (if a ≤ v ∧ v ≤ b then 1 else 0))) hi hr 125) := by
  refine am_of (by decide +kernel) (Nat.le_of_ble_eq_true rfl) ?_
  refine aw_iload_n dX8_isIn_0 rfl ?_
  refine aw_iload_n dX8_isIn_1 rfl ?_
  refine aw_ic_lt (tgt := 14) dX8_isIn_2 (by decide) (by assumption) (by assumption) (fun h2 => ?_) (fun h2 => ?_)
  · refine aw_iconst dX8_isIn_14 ?_
    refine aw_zret dX8_isIn_15 rfl (Or.inl rfl) (by decide) (by decide) ?_
    refine ⟨?_, rfl, rfl, rfl⟩; simp only [Option.some.injEq, Sum.inl.injEq]; (try rw [if_pos ⟨by omega, by omega⟩]); (try rw [if_neg (by omega)])
  · refine aw_iload_n dX8_isIn_5 rfl ?_
    refine aw_iload_n dX8_isIn_6 rfl ?_
    refine aw_ic_gt (tgt := 14) dX8_isIn_7 (by decide) (by assumption) (by assumption) (fun h7 => ?_) (fun h7 => ?_)
    · refine aw_iconst dX8_isIn_14 ?_
      refine aw_zret dX8_isIn_15 rfl (Or.inl rfl) (by decide) (by decide) ?_
      refine ⟨?_, rfl, rfl, rfl⟩; simp only [Option.some.injEq, Sum.inl.injEq]; (try rw [if_pos ⟨by omega, by omega⟩]); (try rw [if_neg (by omega)])
    · refine aw_iconst dX8_isIn_10 ?_
      refine aw_goto (tgt := 15) dX8_isIn_11 (by decide) ?_
      refine aw_zret dX8_isIn_15 rfl (Or.inr rfl) (by decide) (by decide) ?_
      refine ⟨?_, rfl, rfl, rfl⟩; simp only [Option.some.injEq, Sum.inl.injEq]; (try rw [if_pos ⟨by omega, by omega⟩]); (try rw [if_neg (by omega)])
end SMALL
end
section
/-! bits -/
section BITS
variable {E : ET} {M : MT} {cu su pc : Nat} {ls : List (Option AV)} {st : List AV} {hi : HI} {hr : HR} {n : Nat} {Q : QT} {idx : Nat}
theorem oi_ti (r : Int32) : Int32.ofInt r.toInt = r := Int32.ofInt_toInt r
theorem sh1_k : ∀ k : Nat, k < 12 → Int32.ofInt 1 <<< (Int32.ofInt (k : Int) &&& 31) = Int32.ofInt ((1 <<< k : Nat) : Int) := by decide +kernel
theorem shm_k : ∀ k : Nat, k < 12 → ((Int32.ofInt (k : Int) &&& 31).toBitVec.smod 32).toNat = k := by decide +kernel
theorem aw_shl1 {k : Nat} (hd : decode (mC M) pc = .ok (.ishl, 1)) (hk : k < 12) (kk : AW E M cu su (pc + 1) ls (aI ((1 <<< k : Nat) : Int) :: st) hi hr n Q) : AW E M cu su pc ls (aI (k : Int) :: aI 1 :: st) hi hr n Q := by
  intro p e s m args below meth c H locs lsA C hC hL hR
  refine lv_ishl C.1 C.2.1 hd ?_
  rw [sh1_k k hk]
  exact kk p e s m args below meth c H locs lsA C hC hL hR
theorem aw_shrN {a k : Nat} (hd : decode (mC M) pc = .ok (.ishr, 1)) (ha : a < 4096) (hk : k < 12) (kk : AW E M cu su (pc + 1) ls (aI ((a / 2 ^ k : Nat) : Int) :: st) hi hr n Q) : AW E M cu su pc ls (aI (k : Int) :: aI (a : Int) :: st) hi hr n Q := by
  intro p e s m args below meth c H locs lsA C hC hL hR
  refine lv_ishr C.1 C.2.1 hd ?_
  rw [oi_nI a, pk_shrN (by omega) _ k (shm_k k hk), ← oi_nI]
  exact kk p e s m args below meth c H locs lsA C hC hL hR
theorem aw_iushr {x y : Int} (hd : decode (mC M) pc = .ok (.iushr, 1)) (kk : AW E M cu su (pc + 1) ls (aI (((Int32.ofInt x).toUInt32 >>> ((Int32.ofInt y).toUInt32 &&& Int32.toUInt32 31)).toInt32.toInt) :: st) hi hr n Q) : AW E M cu su pc ls (aI y :: aI x :: st) hi hr n Q := by
  intro p e s m args below meth c H locs lsA C hC hL hR
  refine lv_iushr C.1 C.2.1 hd rfl ?_
  have g := kk p e s m args below meth c H locs lsA C hC hL hR
  rw [List.map_cons, cv_i, oi_ti] at g
  exact g
theorem aw_iandG {x y : Int} (hd : decode (mC M) pc = .ok (.iand, 1)) (kk : AW E M cu su (pc + 1) ls (aI ((Int32.ofInt x &&& Int32.ofInt y).toInt) :: st) hi hr n Q) : AW E M cu su pc ls (aI y :: aI x :: st) hi hr n Q := by
  intro p e s m args below meth c H locs lsA C hC hL hR
  refine lv_iand C.1 C.2.1 hd ?_
  have g := kk p e s m args below meth c H locs lsA C hC hL hR
  rw [List.map_cons, cv_i, oi_ti] at g
  exact g
theorem aw_ldcw {v : Int32} (hd : decode (mC M) pc = .ok (.ldc_w idx, 3)) (hc : Cond.constant (mY M).cls idx v ∈ lw_tbl) (kk : AW E M cu su (pc + 3) ls (aI v.toInt :: st) hi hr n Q) : AW E M cu su pc ls st hi hr n Q := by
  intro p e s m args below meth c H locs lsA C hC hL hR
  have g := kk p e s m args below meth c H locs lsA C hC hL hR
  rw [List.map_cons, cv_i, oi_ti] at g
  exact lv_ldcw C.1 C.2.1 C.2.2.2.2.2.1 (C.2.2.2.2.2.2.2.1 _ hc rfl _) hd g
end BITS
end
